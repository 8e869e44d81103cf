section
/-! runs of the reference -/
section RN9
variable {D : va_G} {I : FieldType → ClassId} {P : List Nat} {F F1 : Nat → va_E} {γ el : Nat → Nat → Nat} {b j gn q0 : Nat} {Q : gPg} {inp : Nat → Int32} {s : gM9} {l : Nat → Int} {x n : Int}
/-- results: 32 bits of a long -/
theorem t64 (x : Int32) : (x.toInt64 &&& 4294967295).toInt32 = x := by
  apply Int32.toBitVec_inj.mp
  show BitVec.signExtend 32 (BitVec.signExtend 64 x.toBitVec &&& 4294967295#64) = x.toBitVec
  apply BitVec.eq_of_getLsbD_eq
  intro i hi
  have e : ∀ i, i < 32 → (4294967295#64).getLsbD i = true := by decide
  have e1 : decide (i < 32) = true := decide_eq_true hi
  have e2 : decide (i < 64) = true := decide_eq_true (by omega)
  rw [BitVec.getLsbD_signExtend, if_pos (show i < 64 by omega), BitVec.getLsbD_and, BitVec.getLsbD_signExtend, if_pos hi, e i hi, e1, e2]
  simp only [Bool.true_and, Bool.and_true]
theorem n64 (x : Int32) : ¬ (x.toInt64 &&& 4294967295) = (4294967296 : Int64) := fun h => by
  have q := congrArg (fun z : Int64 => z.toBitVec.getLsbD 32) h
  have q1 : (x.toInt64 &&& 4294967295).toBitVec.getLsbD 32 = (x.toInt64.toBitVec.getLsbD 32 && (4294967295#64).getLsbD 32) := BitVec.getLsbD_and
  have q2 : (4294967295#64).getLsbD 32 = false := by decide
  have q3 : (4294967296 : Int64).toBitVec.getLsbD 32 = true := by decide
  rw [q2, Bool.and_false] at q1
  have q' : (x.toInt64 &&& 4294967295).toBitVec.getLsbD 32 = (4294967296 : Int64).toBitVec.getLsbD 32 := q
  rw [q1, q3] at q'
  cases q'
theorem a31 (x : Int32) : (x &&& 31) &&& 31 = x &&& 31 := by
  apply Int32.toBitVec_inj.mp
  show (x.toBitVec &&& 31#32) &&& 31#32 = x.toBitVec &&& 31#32
  rw [BitVec.and_assoc, BitVec.and_self]
theorem res_r {a0 : Int32} {a1 : Int32} {a2 : Int32} {o1 : Int64} (h0 : 1 ≤ a0.toInt) (h13 : a0.toInt ≤ 14) (h : tr_RModel_result a0 a1 a2 o1) : (o1 = (4294967296 : Int64) ∧ (a0.toInt = 4 ∨ a0.toInt = 5) ∧ a2.toInt = 0) ∨ (¬ o1 = (4294967296 : Int64) ∧ ¬ ((a0.toInt = 4 ∨ a0.toInt = 5) ∧ a2.toInt = 0) ∧ o1.toInt32 = clc (a0.toInt - 1) a1 a2) := by
  refine h (fun o1 => (o1 = (4294967296 : Int64) ∧ (a0.toInt = 4 ∨ a0.toInt = 5) ∧ a2.toInt = 0) ∨ (¬ o1 = (4294967296 : Int64) ∧ ¬ ((a0.toInt = 4 ∨ a0.toInt = 5) ∧ a2.toInt = 0) ∧ o1.toInt32 = clc (a0.toInt - 1) a1 a2)) ?_ ?_ ?_ ?_ ?_ ?_ ?_ ?_ ?_ ?_ ?_ ?_ ?_ ?_ ?_ ?_ ?_ ?_ ?_ ?_
  · intro x1 x2 x3 h1 h2 h3 h4
    have ev : x3 = (x1).toInt64 &&& 4294967295 := by rw [h4, h3]
    refine Or.inr ⟨by rw [ev]; exact n64 _, by omega, ?_⟩
    rw [ev, t64]
    rw [h2, h1]
    rfl
  · intro x1 x2 x3 h1 h2 h3 h4
    have ev : x3 = (x1).toInt64 &&& 4294967295 := by rw [h4, h3]
    refine Or.inr ⟨by rw [ev]; exact n64 _, by omega, ?_⟩
    rw [ev, t64]
    rw [h2, h1]
    rfl
  · intro x1 x2 x3 h1 h2 h3 h4
    have ev : x3 = (x1).toInt64 &&& 4294967295 := by rw [h4, h3]
    refine Or.inr ⟨by rw [ev]; exact n64 _, by omega, ?_⟩
    rw [ev, t64]
    rw [h2, h1]
    rfl
  · intro x1 x2 x3 h1 h2 h3 h4 h5
    have ev : x3 = (x1).toInt64 &&& 4294967295 := by rw [h5, h4]
    refine Or.inr ⟨by rw [ev]; exact n64 _, by omega, ?_⟩
    rw [ev, t64]
    rw [h3, h1]
    rfl
  · intro h1 h2
    exact Or.inl ⟨rfl, by omega, h2⟩
  · intro x1 x2 x3 h1 h2 h3 h4 h5
    have ev : x3 = (x1).toInt64 &&& 4294967295 := by rw [h5, h4]
    refine Or.inr ⟨by rw [ev]; exact n64 _, by omega, ?_⟩
    rw [ev, t64]
    rw [h3, h1]
    rfl
  · intro h1 h2
    exact Or.inl ⟨rfl, by omega, h2⟩
  · intro x1 x2 x3 h1 h2 h3 h4
    have ev : x3 = (x1).toInt64 &&& 4294967295 := by rw [h4, h3]
    refine Or.inr ⟨by rw [ev]; exact n64 _, by omega, ?_⟩
    rw [ev, t64]
    rw [h2, h1]
    rfl
  · intro x1 x2 x3 h1 h2 h3 h4
    have ev : x3 = (x1).toInt64 &&& 4294967295 := by rw [h4, h3]
    refine Or.inr ⟨by rw [ev]; exact n64 _, by omega, ?_⟩
    rw [ev, t64]
    rw [h2, h1]
    rfl
  · intro x1 x2 x3 h1 h2 h3 h4
    have ev : x3 = (x1).toInt64 &&& 4294967295 := by rw [h4, h3]
    refine Or.inr ⟨by rw [ev]; exact n64 _, by omega, ?_⟩
    rw [ev, t64]
    rw [h2, h1]
    rfl
  · intro x1 x2 x3 x4 h1 h2 h3 h4 h5
    have ev : x4 = (x2).toInt64 &&& 4294967295 := by rw [h5, h4]
    refine Or.inr ⟨by rw [ev]; exact n64 _, by omega, ?_⟩
    rw [ev, t64]
    rw [h3, h1]
    rw [h2, a31]
    rfl
  · intro x1 x2 x3 x4 h1 h2 h3 h4 h5
    have ev : x4 = (x2).toInt64 &&& 4294967295 := by rw [h5, h4]
    refine Or.inr ⟨by rw [ev]; exact n64 _, by omega, ?_⟩
    rw [ev, t64]
    rw [h3, h1]
    rw [h2, a31]
    rfl
  · intro x1 x2 h1 h2 h3 h4
    have ev : x2 = ((0 : Int32)).toInt64 &&& 4294967295 := by rw [h4, h3]
    refine Or.inr ⟨by rw [ev]; exact n64 _, by omega, ?_⟩
    rw [ev, t64]
    rw [h1]
    show _ = if a1.toInt < a2.toInt then (1 : Int32) else 0
    exact (if_neg (show ¬ a1.toInt < a2.toInt by omega)).symm
  · intro x1 x2 h1 h2 h3 h4
    have ev : x2 = ((1 : Int32)).toInt64 &&& 4294967295 := by rw [h4, h3]
    refine Or.inr ⟨by rw [ev]; exact n64 _, by omega, ?_⟩
    rw [ev, t64]
    rw [h1]
    show _ = if a1.toInt < a2.toInt then (1 : Int32) else 0
    exact (if_pos (show a1.toInt < a2.toInt by omega)).symm
  · intro x1 x2 h1 h2 h3 h4
    have ev : x2 = ((0 : Int32)).toInt64 &&& 4294967295 := by rw [h4, h3]
    refine Or.inr ⟨by rw [ev]; exact n64 _, by omega, ?_⟩
    rw [ev, t64]
    rw [h1]
    show _ = if a1.toInt ≤ a2.toInt then (1 : Int32) else 0
    exact (if_neg (show ¬ a1.toInt ≤ a2.toInt by omega)).symm
  · intro x1 x2 h1 h2 h3 h4
    have ev : x2 = ((1 : Int32)).toInt64 &&& 4294967295 := by rw [h4, h3]
    refine Or.inr ⟨by rw [ev]; exact n64 _, by omega, ?_⟩
    rw [ev, t64]
    rw [h1]
    show _ = if a1.toInt ≤ a2.toInt then (1 : Int32) else 0
    exact (if_pos (show a1.toInt ≤ a2.toInt by omega)).symm
  · intro x1 x2 h1 h2 h3 h4
    have ev : x2 = ((0 : Int32)).toInt64 &&& 4294967295 := by rw [h4, h3]
    refine Or.inr ⟨by rw [ev]; exact n64 _, by omega, ?_⟩
    rw [ev, t64]
    rw [h1]
    show _ = if a1.toInt = a2.toInt then (1 : Int32) else 0
    exact (if_neg (show ¬ a1.toInt = a2.toInt by omega)).symm
  · intro x1 x2 h1 h2 h3 h4
    have ev : x2 = ((1 : Int32)).toInt64 &&& 4294967295 := by rw [h4, h3]
    refine Or.inr ⟨by rw [ev]; exact n64 _, by omega, ?_⟩
    rw [ev, t64]
    rw [h1]
    show _ = if a1.toInt = a2.toInt then (1 : Int32) else 0
    exact (if_pos (show a1.toInt = a2.toInt by omega)).symm
  · intro x1 x2 h1 h2 h3 h4 h5 h6 h7 h8 h9 h10 h11 h12 h13 h14 h15 h16
    have ev : x2 = ((0 : Int32)).toInt64 &&& 4294967295 := by rw [h16, h15]
    refine Or.inr ⟨by rw [ev]; exact n64 _, by omega, ?_⟩
    rw [ev, t64]
    rw [show a0.toInt = 14 by omega]
    show _ = if a1.toInt = a2.toInt then (0 : Int32) else 1
    exact (if_pos (show a1.toInt = a2.toInt by omega)).symm
  · intro x1 x2 h1 h2 h3 h4 h5 h6 h7 h8 h9 h10 h11 h12 h13 h14 h15 h16
    have ev : x2 = ((1 : Int32)).toInt64 &&& 4294967295 := by rw [h16, h15]
    refine Or.inr ⟨by rw [ev]; exact n64 _, by omega, ?_⟩
    rw [ev, t64]
    rw [show a0.toInt = 14 by omega]
    show _ = if a1.toInt = a2.toInt then (0 : Int32) else 1
    exact (if_neg (show ¬ a1.toInt = a2.toInt by omega)).symm
def isMd (γ : Nat → Nat → Nat) (e : va_E) : Prop := ∃ (r28 r35 : Nat) (v9 v10 v11 v12 v13 v14 v23 v24 v25 v26 v27 v30 v32 v33 v34 : Int32), e = mdE γ r28 r35 v9 v10 v11 v12 v13 v14 v23 v24 v25 v26 v27 v30 v32 v33 v34
theorem isMd_o {e : va_E} (h : rk_10 γ e) : isMd γ e := by
  obtain ⟨r28, r35, v9, v10, v11, v12, v13, v14, v23, v24, v25, v26, v27, v30, v32, v33, v34, he, -⟩ := rk10_m h
  exact ⟨r28, r35, v9, v10, v11, v12, v13, v14, v23, v24, v25, v26, v27, v30, v32, v33, v34, he⟩
theorem cm23 {e e1 : va_E} {y : Int32} (h : isMd γ e) (he : e1 = cF e 23 (.int y)) : fI e1 23 = y ∧ fI e1 9 = fI e 9 ∧ fI e1 10 = fI e 10 ∧ fI e1 11 = fI e 11 ∧ fI e1 24 = fI e 24 ∧ fI e1 25 = fI e 25 ∧ fI e1 26 = fI e 26 ∧ fI e1 27 = fI e 27 ∧ fI e1 30 = fI e 30 ∧ fI e1 32 = fI e 32 ∧ fI e1 34 = fI e 34 ∧ fR e1 28 = fR e 28 ∧ isMd γ e1 := by
  obtain ⟨r28, r35, v9, v10, v11, v12, v13, v14, v23, v24, v25, v26, v27, v30, v32, v33, v34, h0⟩ := h
  have h1 : e1 = mdE γ r28 r35 v9 v10 v11 v12 v13 v14 y v24 v25 v26 v27 v30 v32 v33 v34 := by rw [he, h0]; rfl
  rw [h1, h0]
  exact ⟨rfl, rfl, rfl, rfl, rfl, rfl, rfl, rfl, rfl, rfl, rfl, rfl, ⟨_, _, _, _, _, _, _, _, _, _, _, _, _, _, _, _, _, rfl⟩⟩
theorem cm24 {e e1 : va_E} {y : Int32} (h : isMd γ e) (he : e1 = cF e 24 (.int y)) : fI e1 24 = y ∧ fI e1 9 = fI e 9 ∧ fI e1 10 = fI e 10 ∧ fI e1 11 = fI e 11 ∧ fI e1 23 = fI e 23 ∧ fI e1 25 = fI e 25 ∧ fI e1 26 = fI e 26 ∧ fI e1 27 = fI e 27 ∧ fI e1 30 = fI e 30 ∧ fI e1 32 = fI e 32 ∧ fI e1 34 = fI e 34 ∧ fR e1 28 = fR e 28 ∧ isMd γ e1 := by
  obtain ⟨r28, r35, v9, v10, v11, v12, v13, v14, v23, v24, v25, v26, v27, v30, v32, v33, v34, h0⟩ := h
  have h1 : e1 = mdE γ r28 r35 v9 v10 v11 v12 v13 v14 v23 y v25 v26 v27 v30 v32 v33 v34 := by rw [he, h0]; rfl
  rw [h1, h0]
  exact ⟨rfl, rfl, rfl, rfl, rfl, rfl, rfl, rfl, rfl, rfl, rfl, rfl, ⟨_, _, _, _, _, _, _, _, _, _, _, _, _, _, _, _, _, rfl⟩⟩
theorem cm25 {e e1 : va_E} {y : Int32} (h : isMd γ e) (he : e1 = cF e 25 (.int y)) : fI e1 25 = y ∧ fI e1 9 = fI e 9 ∧ fI e1 10 = fI e 10 ∧ fI e1 11 = fI e 11 ∧ fI e1 23 = fI e 23 ∧ fI e1 24 = fI e 24 ∧ fI e1 26 = fI e 26 ∧ fI e1 27 = fI e 27 ∧ fI e1 30 = fI e 30 ∧ fI e1 32 = fI e 32 ∧ fI e1 34 = fI e 34 ∧ fR e1 28 = fR e 28 ∧ isMd γ e1 := by
  obtain ⟨r28, r35, v9, v10, v11, v12, v13, v14, v23, v24, v25, v26, v27, v30, v32, v33, v34, h0⟩ := h
  have h1 : e1 = mdE γ r28 r35 v9 v10 v11 v12 v13 v14 v23 v24 y v26 v27 v30 v32 v33 v34 := by rw [he, h0]; rfl
  rw [h1, h0]
  exact ⟨rfl, rfl, rfl, rfl, rfl, rfl, rfl, rfl, rfl, rfl, rfl, rfl, ⟨_, _, _, _, _, _, _, _, _, _, _, _, _, _, _, _, _, rfl⟩⟩
theorem cm26 {e e1 : va_E} {y : Int32} (h : isMd γ e) (he : e1 = cF e 26 (.int y)) : fI e1 26 = y ∧ fI e1 9 = fI e 9 ∧ fI e1 10 = fI e 10 ∧ fI e1 11 = fI e 11 ∧ fI e1 23 = fI e 23 ∧ fI e1 24 = fI e 24 ∧ fI e1 25 = fI e 25 ∧ fI e1 27 = fI e 27 ∧ fI e1 30 = fI e 30 ∧ fI e1 32 = fI e 32 ∧ fI e1 34 = fI e 34 ∧ fR e1 28 = fR e 28 ∧ isMd γ e1 := by
  obtain ⟨r28, r35, v9, v10, v11, v12, v13, v14, v23, v24, v25, v26, v27, v30, v32, v33, v34, h0⟩ := h
  have h1 : e1 = mdE γ r28 r35 v9 v10 v11 v12 v13 v14 v23 v24 v25 y v27 v30 v32 v33 v34 := by rw [he, h0]; rfl
  rw [h1, h0]
  exact ⟨rfl, rfl, rfl, rfl, rfl, rfl, rfl, rfl, rfl, rfl, rfl, rfl, ⟨_, _, _, _, _, _, _, _, _, _, _, _, _, _, _, _, _, rfl⟩⟩
theorem cm27 {e e1 : va_E} {y : Int32} (h : isMd γ e) (he : e1 = cF e 27 (.int y)) : fI e1 27 = y ∧ fI e1 9 = fI e 9 ∧ fI e1 10 = fI e 10 ∧ fI e1 11 = fI e 11 ∧ fI e1 23 = fI e 23 ∧ fI e1 24 = fI e 24 ∧ fI e1 25 = fI e 25 ∧ fI e1 26 = fI e 26 ∧ fI e1 30 = fI e 30 ∧ fI e1 32 = fI e 32 ∧ fI e1 34 = fI e 34 ∧ fR e1 28 = fR e 28 ∧ isMd γ e1 := by
  obtain ⟨r28, r35, v9, v10, v11, v12, v13, v14, v23, v24, v25, v26, v27, v30, v32, v33, v34, h0⟩ := h
  have h1 : e1 = mdE γ r28 r35 v9 v10 v11 v12 v13 v14 v23 v24 v25 v26 y v30 v32 v33 v34 := by rw [he, h0]; rfl
  rw [h1, h0]
  exact ⟨rfl, rfl, rfl, rfl, rfl, rfl, rfl, rfl, rfl, rfl, rfl, rfl, ⟨_, _, _, _, _, _, _, _, _, _, _, _, _, _, _, _, _, rfl⟩⟩
theorem cm30 {e e1 : va_E} {y : Int32} (h : isMd γ e) (he : e1 = cF e 30 (.int y)) : fI e1 30 = y ∧ fI e1 9 = fI e 9 ∧ fI e1 10 = fI e 10 ∧ fI e1 11 = fI e 11 ∧ fI e1 23 = fI e 23 ∧ fI e1 24 = fI e 24 ∧ fI e1 25 = fI e 25 ∧ fI e1 26 = fI e 26 ∧ fI e1 27 = fI e 27 ∧ fI e1 32 = fI e 32 ∧ fI e1 34 = fI e 34 ∧ fR e1 28 = fR e 28 ∧ isMd γ e1 := by
  obtain ⟨r28, r35, v9, v10, v11, v12, v13, v14, v23, v24, v25, v26, v27, v30, v32, v33, v34, h0⟩ := h
  have h1 : e1 = mdE γ r28 r35 v9 v10 v11 v12 v13 v14 v23 v24 v25 v26 v27 y v32 v33 v34 := by rw [he, h0]; rfl
  rw [h1, h0]
  exact ⟨rfl, rfl, rfl, rfl, rfl, rfl, rfl, rfl, rfl, rfl, rfl, rfl, ⟨_, _, _, _, _, _, _, _, _, _, _, _, _, _, _, _, _, rfl⟩⟩
def kd9 (γ : Nat → Nat → Nat) (q0 : Nat) : Prop := γ 0 q0 = 10 ∧ γ 0 (γ 9 20) = 22 ∧ γ 0 (γ 9 21) = 23 ∧ γ 0 (γ 9 22) = 97
theorem kd9_o (hT : RS D I P F γ el) (hm : γ 0 q0 = 10) : kd9 γ q0 := by
  obtain ⟨-, -, -, k20, k21, k22⟩ := md_k9 hT hm
  exact ⟨hm, k20, k21, k22⟩
/-- what is read of INPUT -/
def inP9 (I : FieldType → ClassId) (F : Nat → va_E) (q0 : Nat) (inp : Nat → Int32) (gn : Nat) : Prop := ∃ p, F (fR (F q0) 28) = .inl (I .int, gn, .inl p) ∧ ∀ i, i < gn → p i = inp i
/-- the reference's machine stands at s -/
def am9 (I : FieldType → ClassId) (γ : Nat → Nat → Nat) (q0 : Nat) (inp : Nat → Int32) (gn : Nat) (s : gM9) (F : Nat → va_E) : Prop :=
  isMd γ (F q0) ∧ γ 0 (fR (F q0) 28) = 98 ∧ inP9 I F q0 inp gn ∧ (∀ i, i < 100 → cB (F (γ 9 20)) i = s.2.2.1 i) ∧ (∀ i, i < 100 → cB (F (γ 9 21)) i = s.2.2.2.1 i) ∧ (fI (F q0) 25).toInt = (s.2.2.2.2.2.1 : Int) ∧ (fI (F q0) 27).toInt = (s.2.2.2.2.2.2 : Int) ∧ (∀ i, i < s.2.2.2.2.2.1 → cB (F (γ 9 22)) i = s.2.2.2.2.1 i) ∧ s.2.2.2.2.2.1 ≤ 512 ∧ s.2.2.2.2.2.2 ≤ gn
theorem nek {a b k m : Nat} (h1 : γ 0 a = k) (h2 : γ 0 b = m) (h : k ≠ m) : a ≠ b := fun e => h (by rw [← h1, ← h2, e])
/-- registers written -/
theorem am_rg {v : Int32} {y z : Nat → Int32} (hk : kd9 γ q0) (h : am9 I γ q0 inp gn s F) (fr : ∀ b, b ≠ γ 9 20 → F1 b = F b) (h0 : F (γ 9 20) = .inl (I .int, 2000, .inl y)) (h1 : F1 (γ 9 20) = .inl (I .int, 2000, .inl z)) (hz : z = upd y x.toNat v) : am9 I γ q0 inp gn (rw9 s x v) F1 := by
  obtain ⟨k0, k20, k21, k22⟩ := hk
  obtain ⟨a1, a2, ⟨p, a3, a3'⟩, a4, a5, a6, a7, a8, a9, a10⟩ := h
  have e0 : F1 q0 = F q0 := fr _ (nek k0 k20 (by decide))
  unfold am9 inP9
  rw [e0, fr _ (nek a2 k20 (by decide)), fr _ (nek k21 k20 (by decide)), fr _ (nek k22 k20 (by decide)), cB_of h1]
  refine ⟨a1, a2, ⟨p, a3, a3'⟩, fun i hi => ?_, a5, a6, a7, a8, a9, a10⟩
  rw [cB_of h0] at a4
  rw [hz]
  exact updW a4 i hi
/-- slots written -/
theorem am_sl {v : Int32} {y z : Nat → Int32} (hk : kd9 γ q0) (h : am9 I γ q0 inp gn s F) (fr : ∀ b, b ≠ γ 9 21 → F1 b = F b) (h0 : F (γ 9 21) = .inl (I .int, 2000, .inl y)) (h1 : F1 (γ 9 21) = .inl (I .int, 2000, .inl z)) (hz : z = upd y x.toNat v) : am9 I γ q0 inp gn (s.1, s.2.1 + 1, s.2.2.1, upd s.2.2.2.1 x.toNat v, s.2.2.2.2) F1 := by
  obtain ⟨k0, k20, k21, k22⟩ := hk
  obtain ⟨a1, a2, ⟨p, a3, a3'⟩, a4, a5, a6, a7, a8, a9, a10⟩ := h
  have e0 : F1 q0 = F q0 := fr _ (nek k0 k21 (by decide))
  unfold am9 inP9
  rw [e0, fr _ (nek a2 k21 (by decide)), fr _ (nek k20 k21 (by decide)), fr _ (nek k22 k21 (by decide)), cB_of h1]
  refine ⟨a1, a2, ⟨p, a3, a3'⟩, a4, fun i hi => ?_, a6, a7, a8, a9, a10⟩
  rw [cB_of h0] at a5
  rw [hz]
  exact updW a5 i hi
/-- the model's cell written: what doesn't matter -/
theorem am_q {s2 : gM9} (hk : kd9 γ q0) (h : am9 I γ q0 inp gn s F) (fr : ∀ b, b ≠ q0 → F1 b = F b) (hM : isMd γ (F1 q0)) (hr : fR (F1 q0) 28 = fR (F q0) 28) (e1 : s2.2.2.1 = s.2.2.1) (e2 : s2.2.2.2.1 = s.2.2.2.1) (e3 : s2.2.2.2.2.1 = s.2.2.2.2.1) (e4 : s2.2.2.2.2.2.1 = s.2.2.2.2.2.1) (h5 : (fI (F1 q0) 25).toInt = (s2.2.2.2.2.2.1 : Int)) (h7 : (fI (F1 q0) 27).toInt = (s2.2.2.2.2.2.2 : Int)) (h10 : s2.2.2.2.2.2.2 ≤ gn) : am9 I γ q0 inp gn s2 F1 := by
  obtain ⟨k0, k20, k21, k22⟩ := hk
  obtain ⟨a1, a2, ⟨p, a3, a3'⟩, a4, a5, a6, a7, a8, a9, a10⟩ := h
  refine ⟨hM, by rw [hr]; exact a2, ⟨p, ?_, a3'⟩, ?_, ?_, h5, h7, ?_, by rw [e4]; exact a9, h10⟩
  · rw [hr, fr _ (nek a2 k0 (by decide))]; exact a3
  · rw [fr _ (nek k20 k0 (by decide)), e1]; exact a4
  · rw [fr _ (nek k21 k0 (by decide)), e2]; exact a5
  · rw [fr _ (nek k22 k0 (by decide)), e3, e4]; exact a8
theorem vl_r {q0 : Nat} {a1 : Int32} {a2 : Int32} {o1 : Int32} {rg : Nat → Int32} (hE : opdE x n a2 a1) (h0 : -1 ≤ x) (h99 : x ≤ 99) (hr : ∀ i, i < 100 → cB (F (γ 9 20)) i = rg i) (h : tr_RModel_value D I γ el F q0 a1 a2 o1) : o1 = mvl rg x n := by
  unfold opdE at hE
  unfold mvl
  refine h (fun o1 => o1 = if 0 ≤ x then rg x.toNat else Int32.ofInt n) ?_ ?_
  · intro h1
    have q : x = -1 ∧ a2.toInt = n := by omega
    rw [if_neg (by omega), ← q.2]; exact (Int32.ofInt_toInt a2).symm
  · intro x1 x2 h1 h2 h3 h4
    have q : a2.toInt = x ∧ 0 ≤ x := by omega
    rw [if_pos q.2, h4, nnE (show a2.toInt = ((x.toNat : Nat) : Int) by omega), ← hr _ (by omega), cB_of h3]
theorem op_l {op t a c rA rB sl : Int32} (hO : rnO l) (hE : rwF l op t a c rA rB sl) : (op.toInt = 0 ∧ l 0 = 14) ∨ (op.toInt = 20 ∧ l 0 = 15) ∨ (op.toInt = 22 ∧ l 0 = 16) ∨ (op.toInt = 21 ∧ l 0 = 17) ∨ (op.toInt = 23 ∧ l 0 = 18) ∨ (1 ≤ op.toInt ∧ op.toInt ≤ 14 ∧ l 0 = op.toInt - 1) := by
  obtain ⟨e1, e2, e3, e4, e5, e6⟩ := hE
  have o1 := hO.1
  have h0 : l 0 ≤ 13 ∨ l 0 = 14 ∨ l 0 = 15 ∨ l 0 = 16 ∨ l 0 = 17 ∨ l 0 = 18 := by omega
  rcases h0 with h0 | h0 | h0 | h0 | h0 | h0
  · have := (e1 h0).1; omega
  · have := (e2 h0).1; omega
  · have := (e3 h0).1; omega
  · have := (e4 h0).1; omega
  · have := (e5 h0).1; omega
  · have := (e6 h0).1; omega
/-- what a step of the reference leaves -/
def sr9 (I : FieldType → ClassId) (γ : Nat → Nat → Nat) (q0 : Nat) (Q : gPg) (inp : Nat → Int32) (gn : Nat) (s : gM9) (F : Nat → va_E) (o1 : Int32) (o2 : Nat → va_E) : Prop :=
  ((fI (o2 q0) 24, fI (o2 q0) 30, fI (o2 q0) 34) = (fI (F q0) 24, fI (F q0) 30, fI (F q0) 34) ∧ fI (o2 q0) 26 = fI (F q0) 26) ∧
  ((o1.toInt < 0 ∧ ∃ s2, st9 Q inp gn s = (none, s2) ∧ s2.1 = s.1 ∧ s2.2.1 = s.2.1 + 1 ∧ am9 I γ q0 inp gn s2 o2) ∨
   (0 < o1.toInt ∧ st9 Q inp gn s = (some (o1.toInt, 0), s) ∧ am9 I γ q0 inp gn s o2))
set_option maxHeartbeats 4000000 in
theorem stp_r {q1 : Nat} {o1 : Int32} {o2 : Nat → va_E} (hk : kd9 γ q0) (ha : am9 I γ q0 inp gn s F) (hO : rnO (Q.2.2.1 s.1 s.2.1)) (hl : lnX true (Q.2.2.1 s.1 s.2.1) (F q1)) (h : tr_RModel_step2 D I γ el F q0 q1 o1 o2) : sr9 I γ q0 Q inp gn s F o1 o2 := by
  unfold lnX at hl
  rw [if_pos rfl] at hl
  obtain ⟨kq, k20, k21, k22⟩ := id hk
  obtain ⟨m1, m2, ⟨p, m3, m3'⟩, m4, m5, m6, m7, m8, m9, m10⟩ := id ha
  have ol := op_l hO hl
  obtain ⟨e1, e2, e3, e4, e5, e6⟩ := hl
  obtain ⟨w0, w2, w4, w1, w5⟩ := hO
  refine h (fun o1 o2 => sr9 I γ q0 Q inp gn s F o1 o2) ?_ ?_ ?_ ?_ ?_ ?_ ?_ ?_ ?_
  · intro x1 x2 x3 x4 x5 x6 x7 x8 h1 h2 h3 h4 h5 h6 h7 h8 h9 h10 h11
    rw [h1] at ol e1 e2 e3 e4 e5 e6
    have eo : Q.2.2.1 s.1 s.2.1 0 = 14 := by omega
    obtain ⟨-, y1, y2⟩ := e2 eo
    rw [h4] at y1
    rw [h6] at y2
    rw [h5] at y2
    have va := vl_r y2 w2.1 w2.2 m4 h7
    have w1 := w1 (by omega)
    have ex : x7 = upd x6 (Q.2.2.1 s.1 s.2.1 1).toNat (va9 Q s) := by rw [h9, nnE (show x2.toInt = (((Q.2.2.1 s.1 s.2.1 1).toNat : Nat) : Int) by omega), show x5 = va9 Q s from va]
    have e0 : x8 q0 = F q0 := h10 _ (nek kq k20 (by decide))
    exact ⟨⟨by rw [e0], by rw [e0]⟩, Or.inl ⟨by decide, _, st9_14 eo, rfl, rfl, am_rg hk ha h10 h8 h11 ex⟩⟩
  · intro x1 x2 x3 x4 x5 x6 x7 x8 x9 x10 x11 x12 x13 x14 h1 h2 h3 h4 h5 h6 h7 h8 h9 h10 h11 h12 h13 h14 h15 h16 h17 h18 h19 h20 h21
    rw [h1] at ol e1 e2 e3 e4 e5 e6
    have eo : Q.2.2.1 s.1 s.2.1 0 = 15 := by omega
    obtain ⟨-, y1⟩ := e3 eo
    rw [h4] at y1
    have w1 := w1 (by omega)
    rw [h5] at m7
    rw [h6] at m3
    have en := h7.symm.trans m3
    have e6 : x6 = gn := (Prod.mk.inj (Prod.mk.inj (Sum.inl.inj en)).2).1
    have e5 : x5 = p := Sum.inl.inj (Prod.mk.inj (Prod.mk.inj (Sum.inl.inj en)).2).2
    have ea : x10 q0 = F q0 := h12 _ (nek kq k20 (by decide))
    have hc := h21
    rw [ea] at hc
    obtain ⟨c27, c9, c10, c11, c23, c24, c25, c26, c30, c32, c34, cr, cm⟩ := cm27 m1 hc
    have lt : ¬ s.2.2.2.2.2.2 < gn := by omega
    have tv : tk9 inp gn s.2.2.2.2.2.2 = 0 := if_neg lt
    have tn : tn9 gn s.2.2.2.2.2.2 = s.2.2.2.2.2.2 := if_neg lt
    have ex : x9 = upd x8 (Q.2.2.1 s.1 s.2.1 1).toNat (tk9 inp gn s.2.2.2.2.2.2) := by rw [h11, nnE (show x2.toInt = (((Q.2.2.1 s.1 s.2.1 1).toNat : Nat) : Int) by omega), tv]
    have aa := am_rg hk ha h12 h10 h13 ex
    refine ⟨⟨by rw [c24, c30, c34], c26⟩, Or.inl ⟨by decide, _, st9_15 eo, rfl, rfl, ?_⟩⟩
    refine am_q hk aa h20 cm (by rw [cr, ea]) rfl rfl rfl rfl (by rw [c25]; exact m6) ?_ ?_
    · rw [c27]
      show x13.toInt = (tn9 gn s.2.2.2.2.2.2 : Int)
      rw [tn]
      have q1 := h19
      have q2 := h15
      have q3 := h18
      omega
    · show tn9 gn s.2.2.2.2.2.2 ≤ gn
      rw [tn]; omega
  · intro x1 x2 x3 x4 x5 x6 x7 x8 x9 x10 x11 x12 x13 x14 x15 h1 h2 h3 h4 h5 h6 h7 h8 h9 h10 h11 h12 h13 h14 h15 h16 h17 h18 h19 h20 h21 h22
    rw [h1] at ol e1 e2 e3 e4 e5 e6
    have eo : Q.2.2.1 s.1 s.2.1 0 = 15 := by omega
    obtain ⟨-, y1⟩ := e3 eo
    rw [h4] at y1
    have w1 := w1 (by omega)
    rw [h5] at m7
    rw [h6] at m3
    have en := h7.symm.trans m3
    have e6 : x6 = gn := (Prod.mk.inj (Prod.mk.inj (Sum.inl.inj en)).2).1
    have e5 : x5 = p := Sum.inl.inj (Prod.mk.inj (Prod.mk.inj (Sum.inl.inj en)).2).2
    have ea : x11 q0 = F q0 := h13 _ (nek kq k20 (by decide))
    have hc := h22
    rw [ea] at hc
    obtain ⟨c27, c9, c10, c11, c23, c24, c25, c26, c30, c32, c34, cr, cm⟩ := cm27 m1 hc
    have lt : s.2.2.2.2.2.2 < gn := by omega
    have tv : tk9 inp gn s.2.2.2.2.2.2 = x8 := by unfold tk9; rw [if_pos lt, h10, e5, nnE m7]; exact (m3' _ lt).symm
    have tn : tn9 gn s.2.2.2.2.2.2 = s.2.2.2.2.2.2 + 1 := if_pos lt
    have ex : x10 = upd x9 (Q.2.2.1 s.1 s.2.1 1).toNat (tk9 inp gn s.2.2.2.2.2.2) := by rw [h12, nnE (show x2.toInt = (((Q.2.2.1 s.1 s.2.1 1).toNat : Nat) : Int) by omega), tv]
    have aa := am_rg hk ha h13 h11 h14 ex
    refine ⟨⟨by rw [c24, c30, c34], c26⟩, Or.inl ⟨by decide, _, st9_15 eo, rfl, rfl, ?_⟩⟩
    refine am_q hk aa h21 cm (by rw [cr, ea]) rfl rfl rfl rfl (by rw [c25]; exact m6) ?_ ?_
    · rw [c27]
      show x14.toInt = (tn9 gn s.2.2.2.2.2.2 : Int)
      rw [tn]
      have q1 := h20
      have q2 := h16
      have q3 := h19
      omega
    · show tn9 gn s.2.2.2.2.2.2 ≤ gn
      rw [tn]; omega
  · intro x1 x2 x3 x4 x5 x6 x7 x8 h1 h2 h3 h4 h5 h6 h7 h8 h9 h10 h11 h12
    rw [h1] at ol e1 e2 e3 e4 e5 e6
    have eo : Q.2.2.1 s.1 s.2.1 0 = 17 := by omega
    obtain ⟨-, y1, y5⟩ := e5 eo
    rw [h4] at y1
    rw [h6] at y5
    have w1 := w1 (by omega)
    have w5 := w5 (by omega)
    have ex : x7 = upd x6 (Q.2.2.1 s.1 s.2.1 1).toNat (s.2.2.2.1 (Q.2.2.1 s.1 s.2.1 5).toNat) := by rw [h10, nnE (show x2.toInt = (((Q.2.2.1 s.1 s.2.1 1).toNat : Nat) : Int) by omega), h8, nnE (show x3.toInt = (((Q.2.2.1 s.1 s.2.1 5).toNat : Nat) : Int) by omega), ← cB_of h7, m5 _ (by omega)]
    have e0 : x8 q0 = F q0 := h11 _ (nek kq k20 (by decide))
    exact ⟨⟨by rw [e0], by rw [e0]⟩, Or.inl ⟨by decide, _, st9_17 eo, rfl, rfl, am_rg hk ha h11 h9 h12 ex⟩⟩
  · intro x1 x2 x3 x4 x5 x6 x7 x8 x9 x10 h1 h2 h3 h4 h5 h6 h7 h8 h9 h10 h11 h12 h13 h14 h15 h16
    rw [h1] at ol e1 e2 e3 e4 e5 e6
    have eo : Q.2.2.1 s.1 s.2.1 0 = 16 := by omega
    obtain ⟨-, y2⟩ := e4 eo
    rw [h7] at y2
    rw [h6] at y2
    have va := vl_r y2 w2.1 w2.2 m4 h8
    rw [h3] at m6
    have hlt : s.2.2.2.2.2.1 < 512 := by have := h4; omega
    have ea : x8 q0 = F q0 := h11 _ (nek kq k22 (by decide))
    have hc := h16
    rw [ea] at hc
    obtain ⟨c25, c9, c10, c11, c23, c24, c26, c27, c30, c32, c34, cr, cm⟩ := cm25 m1 hc
    have fr : ∀ b, b ≠ γ 9 22 → b ≠ q0 → x10 b = F b := fun b z1 z2 => (h15 b z2).trans (h11 b z1)
    refine ⟨⟨by rw [c24, c30, c34], c26⟩, Or.inl ⟨by decide, _, st9_16 eo hlt, rfl, rfl, ?_⟩⟩
    refine ⟨cm, by rw [cr]; exact m2, ⟨p, ?_, m3'⟩, ?_, ?_, ?_, ?_, fun i hi => ?_, hlt, m10⟩
    · rw [cr, fr _ (nek m2 k22 (by decide)) (nek m2 kq (by decide))]; exact m3
    · rw [fr _ (nek k20 k22 (by decide)) (nek k20 kq (by decide))]; exact m4
    · rw [fr _ (nek k21 k22 (by decide)) (nek k21 kq (by decide))]; exact m5
    · rw [c25]
      show _ = ((s.2.2.2.2.2.1 + 1 : Nat) : Int)
      have q := h14
      omega
    · rw [c27]; exact m7
    · have hi' : i < s.2.2.2.2.2.1 + 1 := hi
      rw [h15 _ (nek k22 kq (by decide)), cB_of h12, h10, nnE m6]
      show _ = upd s.2.2.2.2.1 s.2.2.2.2.2.1 (va9 Q s) i
      by_cases c : i = s.2.2.2.2.2.1
      · rw [c, updE, updE]; exact va
      · rw [updN c, updN c, ← cB_of h9]; exact m8 i (by omega)
  · intro x1 x2 h1 h2 h3 h4
    rw [h1] at ol e1 e2 e3 e4 e5 e6
    have eo : Q.2.2.1 s.1 s.2.1 0 = 16 := by omega
    obtain ⟨-, y2⟩ := e4 eo
    rw [h3] at m6
    exact ⟨⟨rfl, rfl⟩, Or.inr ⟨by decide, st9_16x eo (by omega), ha⟩⟩
  · intro x1 x2 x3 x4 x5 x6 x7 x8 h1 h2 h3 h4 h5 h6 h7 h8 h9 h10 h11
    rw [h1] at ol e1 e2 e3 e4 e5 e6
    have eo : Q.2.2.1 s.1 s.2.1 0 = 18 := by omega
    obtain ⟨-, y2, y5⟩ := e6 eo
    rw [h6] at y2
    rw [h4] at y5
    rw [h5] at y2
    have va := vl_r y2 w2.1 w2.2 m4 h7
    have w5 := w5 (by omega)
    have ex : x7 = upd x6 (Q.2.2.1 s.1 s.2.1 5).toNat (va9 Q s) := by rw [h9, nnE (show x2.toInt = (((Q.2.2.1 s.1 s.2.1 5).toNat : Nat) : Int) by omega), show x5 = va9 Q s from va]
    have e0 : x8 q0 = F q0 := h10 _ (nek kq k21 (by decide))
    exact ⟨⟨by rw [e0], by rw [e0]⟩, Or.inl ⟨by decide, _, st9_18 eo, rfl, rfl, am_sl hk ha h10 h8 h11 ex⟩⟩
  · intro x1 x2 x3 x4 x5 x6 x7 x8 x9 x10 x11 x12 x13 h1 h2 h3 h4 h5 h6 h7 h8 h9 h10 h11 h12 h13 h14 h15 h16 h17 h18 h19 h20 h21
    rw [h1] at ol e1 e2 e3 e4 e5 e6
    have l13 : Q.2.2.1 s.1 s.2.1 0 ≤ 13 := by omega
    obtain ⟨y0, y1, y2, y4⟩ := e1 l13
    rw [h16] at y1
    rw [h8] at y2
    rw [h11] at y4
    rw [h7] at y2
    rw [h10] at y4
    have va := vl_r y2 w2.1 w2.2 m4 h9
    have vb := vl_r y4 w4.1 w4.2 m4 h12
    have rs := res_r (by omega) (by omega) h13
    have w1 := w1 (by omega)
    rcases rs with ⟨z, -⟩ | ⟨-, z1, z2⟩
    · exact absurd z h14
    have ex : x12 = upd x11 (Q.2.2.1 s.1 s.2.1 1).toNat (clc (Q.2.2.1 s.1 s.2.1 0) (va9 Q s) (vb9 Q s)) := by
      rw [h19, nnE (show x9.toInt = (((Q.2.2.1 s.1 s.2.1 1).toNat : Nat) : Int) by omega), h17, z2, show x1.toInt - 1 = Q.2.2.1 s.1 s.2.1 0 by omega, show x4 = va9 Q s from va, show x7 = vb9 Q s from vb]
    have nz : ¬ ((Q.2.2.1 s.1 s.2.1 0 = 3 ∨ Q.2.2.1 s.1 s.2.1 0 = 4) ∧ (vb9 Q s).toInt = 0) := by rw [← show x7 = vb9 Q s from vb]; omega
    have e0 : x13 q0 = F q0 := h20 _ (nek kq k20 (by decide))
    exact ⟨⟨by rw [e0], by rw [e0]⟩, Or.inl ⟨by decide, _, st9_c l13 nz, rfl, rfl, am_rg hk ha h20 h18 h21 ex⟩⟩
  · intro x1 x2 x3 x4 x5 x6 x7 x8 h1 h2 h3 h4 h5 h6 h7 h8 h9 h10 h11 h12 h13 h14
    rw [h1] at ol e1 e2 e3 e4 e5 e6
    have l13 : Q.2.2.1 s.1 s.2.1 0 ≤ 13 := by omega
    obtain ⟨y0, y1, y2, y4⟩ := e1 l13
    rw [h8] at y2
    rw [h11] at y4
    rw [h7] at y2
    rw [h10] at y4
    have va := vl_r y2 w2.1 w2.2 m4 h9
    have vb := vl_r y4 w4.1 w4.2 m4 h12
    have rs := res_r (by omega) (by omega) h13
    refine ⟨⟨rfl, rfl⟩, Or.inr ⟨by decide, ?_, ha⟩⟩
    rcases rs with ⟨-, z1, z2⟩ | ⟨z, -⟩
    · exact st9_z (by omega) (by rw [← show x7 = vb9 Q s from vb]; exact z2)
    · exact absurd h14 z
set_option maxHeartbeats 4000000 in
theorem rn54_r {q1 : Nat} {a2 : Int32} {s1 : Nat → va_E} {s2 : Int32} {s3 : Int32} {k : Nat} {e1 : Nat} {e2 : Nat → va_E} {e3 : Int32} {kk : Int32} (hT : RS D I P F γ el) (hm : γ 0 q0 = 10) (hc : γ 0 q1 = 9) (hR6 : γ 6 (γ 1 q1) = Q.1) (hP : rnP Q) (hq : rfX γ el F q1 Q) (h : tl_RModel_run_54 D I γ el P F q1 q0 a2 s1 s2 s3 k e1 e2 e3) : ∀ (s : gM9) (t f : Nat), (fI (s1 q0) 26).toInt = (t : Int) → a2.toInt = ((t + f : Nat) : Int) → s2.toInt = (s.1 : Int) → s3.toInt = (s.2.1 : Int) → s.1 < Q.1 → s.2.1 < Q.2.1 s.1 → am9 I γ q0 inp gn s s1 → (fI (s1 q0) 24, fI (s1 q0) 30, fI (s1 q0) 34) = (0, 0, kk) → ((k = 69 ∧ (rn9 Q inp gn f t s).1 = 4) ∨ (k = 118 ∧ 0 < e3.toInt ∧ (rn9 Q inp gn f t s).1 = e3.toInt) ∨ (k = 144 ∧ (rn9 Q inp gn f t s).1 = 0)) ∧ (k ≠ 144 → (rn9 Q inp gn f t s).2.1 = 0) ∧ (k = 144 → ∀ z, tr_RModel_value D I γ el e2 q0 (fI (e2 e1) 5) (fI (e2 e1) 2) z → z = (rn9 Q inp gn f t s).2.1) ∧ (fI (e2 q0) 26).toInt = ((rn9 Q inp gn f t s).2.2.1 : Int) ∧ am9 I γ q0 inp gn (rn9 Q inp gn f t s).2.2.2 e2 ∧ (fI (e2 q0) 24, fI (e2 q0) 30, fI (e2 q0) 34) = (0, 0, kk) := by
  have hk := kd9_o hT hm
  obtain ⟨kq, k20, k21, k22⟩ := id hk
  have hB2 := hB2_ (Q := Q) hT hc rfl hR6
  refine h (fun s1 s2 s3 k e1 e2 e3 => ∀ (s : gM9) (t f : Nat), (fI (s1 q0) 26).toInt = (t : Int) → a2.toInt = ((t + f : Nat) : Int) → s2.toInt = (s.1 : Int) → s3.toInt = (s.2.1 : Int) → s.1 < Q.1 → s.2.1 < Q.2.1 s.1 → am9 I γ q0 inp gn s s1 → (fI (s1 q0) 24, fI (s1 q0) 30, fI (s1 q0) 34) = (0, 0, kk) → ((k = 69 ∧ (rn9 Q inp gn f t s).1 = 4) ∨ (k = 118 ∧ 0 < e3.toInt ∧ (rn9 Q inp gn f t s).1 = e3.toInt) ∨ (k = 144 ∧ (rn9 Q inp gn f t s).1 = 0)) ∧ (k ≠ 144 → (rn9 Q inp gn f t s).2.1 = 0) ∧ (k = 144 → ∀ z, tr_RModel_value D I γ el e2 q0 (fI (e2 e1) 5) (fI (e2 e1) 2) z → z = (rn9 Q inp gn f t s).2.1) ∧ (fI (e2 q0) 26).toInt = ((rn9 Q inp gn f t s).2.2.1 : Int) ∧ am9 I γ q0 inp gn (rn9 Q inp gn f t s).2.2.2 e2 ∧ (fI (e2 q0) 24, fI (e2 q0) 30, fI (e2 q0) 34) = (0, 0, kk)) ?_ ?_ ?_ ?_ ?_ ?_ ?_
  · intro F_1 l3_1 l4_1 x1 x2 x3 x4 x5 x6 x7 x8 x9 x10 x11 k e1 e2 e3 h1 h2 h3 h4 h5 h6 h7 h8 h9 h10 h11 h12 h13 h14 h15 h16 h17 h18 h19 h20 h21 h22 h23 h24 h25 h26 h27 ih
    intro s t f ht hf hs2 hs3 hb hj ha hz24
    have jT := h3
    have hQ1 : rfX γ el F_1 q1 Q := rfX_rs hT hc rfl (by exact hR6) hq h4 (by decide)
    have ht4 := ht
    rw [h14] at ht4
    obtain ⟨f1, rfl⟩ : ∃ f1, f = f1 + 1 := ⟨f - 1, by have := h15; omega⟩
    obtain ⟨lb, lr, rnn, md, w1, ⟨w2, -⟩, -⟩ := show rk_9 γ el q1 (F_1 q1) from RS_o jT hc
    have ex2 : x2 = el (γ 14 q1) s.1 := by
      rw [h11, ← h10, w1, show l3_1.toInt.toNat = s.1 by rw [hs2]; rfl]
      show el lb s.1 = _
      rw [w2]
    have kb : γ 0 x2 = 2 := by rw [ex2]; exact hB2 _ hb
    obtain ⟨c26, c9, c10, c11, c23, c24, c25, c27, c30, c32, c34, cr, cm⟩ := cm26 ha.1 h18
    have f6 := h17
    have a6 : am9 I γ q0 inp gn s x6 := am_q hk ha f6 cm cr rfl rfl rfl rfl (by rw [c25]; exact ha.2.2.2.2.2.1) (by rw [c27]; exact ha.2.2.2.2.2.2.1) ha.2.2.2.2.2.2.2.2.2
    have eb6 : x6 x2 = F_1 x2 := f6 _ (nek kb kq (by decide))
    obtain ⟨ll, nn, pp, ss, v1, ⟨g1, g2, g3⟩, v3, v4, v5, -⟩ := show rk_2 γ x2 (F_1 x2) from RS_o jT kb
    have ex7 : x7 = rwL γ el q1 s.1 := by
      rw [← h19, eb6, v1]
      show ll = γ 14 (el (γ 14 q1) s.1)
      rw [← ex2, g1]
    have mlen : γ 2 (rwL γ el q1 s.1) + 1 = Q.2.1 s.1 := (hQ1.2.1 s.1 hb).1
    have hx8 := h20
    rw [ex7] at hx8
    have t1 : x5.toInt = ((t + 1 : Nat) : Int) := by have := h16; omega
    have ej : s.2.1 = γ 2 (rwL γ el q1 s.1) := by omega
    have e9 : x9 = rAt γ el q1 s.1 s.2.1 := by
      rw [← h23, eb6, v1]
      show nn = _
      rw [show rAt γ el q1 s.1 s.2.1 = γ 15 (el (γ 14 q1) s.1) from if_neg (by omega), ← ex2, g2]
    have k9 : γ 0 x9 = 1 := by rw [e9]; exact (rAt_k jT hc rfl (by omega)).1
    have hr := rn_row hP hb hj
    have hG : 19 ≤ Q.2.2.1 s.1 s.2.1 0 ∧ edO (Q.2.2.1 s.1 s.2.1) ∧ edG (Q.2.2.1 s.1 s.2.1 0) (Q.2.2.2 s.1 0) (Q.2.2.2 s.1 1) := by
      rcases hr with z | z
      · omega
      · exact ⟨z.1, z.2.2⟩
    obtain ⟨hG1, ⟨d1, d2, d4, d5⟩, hG3⟩ := hG
    have hl : edR (Q.2.2.1 s.1 s.2.1) (fI (x6 x9) 0) (fI (x6 x9) 2) (fI (x6 x9) 5) := by
      have q := hQ1.2.2 s.1 hb s.2.1 (by omega)
      have q' : lnX (rwB Q s.1 s.2.1) (Q.2.2.1 s.1 s.2.1) (F_1 (rAt γ el q1 s.1 s.2.1)) := q
      rw [show rwB Q s.1 s.2.1 = false from decide_eq_false (by omega), ← e9] at q'
      rw [f6 _ (nek k9 kq (by decide))]
      exact q'
    obtain ⟨r19, r20, r21⟩ := hl
    have gl : gLX (Q.2.2.1 s.1 s.2.1 0) (Q.2.2.2 s.1) (fI (x6 x2) 2) (fI (x6 x2) 3) := by
      have q := (hQ1.2.1 s.1 hb).2
      rw [show Q.2.1 s.1 - 1 = s.2.1 by omega, ← ex2] at q
      rw [eb6]; exact q
    rw [h24] at r19 r20 r21
    have eo : Q.2.2.1 s.1 s.2.1 0 = 19 := by
      unfold edG at hG3
      rcases hG3 with z | z | z
      · exact z.1
      · have := (r20 z.1).1; omega
      · have := (r21 z.1).1; omega
    obtain ⟨g, y1, y2, y3⟩ := rn_g (i := 0) hP hb (by decide) (by unfold edG at hG3; omega)
    rw [rn9_n (st9_19 eo)]
    have eg : (Q.2.2.2 s.1 0).toNat = g := by rw [y1]; rfl
    refine ih (go9 s (Q.2.2.2 s.1 0)) (t + 1) f1 (by rw [c26]; exact t1) (by omega) ?_ (by show Int32.toInt 0 = (0 : Int); decide) (by show (Q.2.2.2 s.1 0).toNat < Q.1; omega) (by show 0 < Q.2.1 (Q.2.2.2 s.1 0).toNat; rw [eg]; exact y3) a6 (by rw [c24, c30, c34]; exact hz24)
    rw [← h27, (gl.1 eo).1, y1]
    show (g : Int) = (((g : Int).toNat : Nat) : Int)
    rfl
  · intro F_1 l3_1 l4_1 x1 x2 x3 x4 x5 x6 x7 x8 x9 x10 x11 x12 x13 x14 k e1 e2 e3 h1 h2 h3 h4 h5 h6 h7 h8 h9 h10 h11 h12 h13 h14 h15 h16 h17 h18 h19 h20 h21 h22 h23 h24 h25 h26 h27 h28 h29 h30 h31 ih
    intro s t f ht hf hs2 hs3 hb hj ha hz24
    have jT := h3
    have hQ1 : rfX γ el F_1 q1 Q := rfX_rs hT hc rfl (by exact hR6) hq h4 (by decide)
    have ht4 := ht
    rw [h14] at ht4
    obtain ⟨f1, rfl⟩ : ∃ f1, f = f1 + 1 := ⟨f - 1, by have := h15; omega⟩
    obtain ⟨lb, lr, rnn, md, w1, ⟨w2, -⟩, -⟩ := show rk_9 γ el q1 (F_1 q1) from RS_o jT hc
    have ex2 : x2 = el (γ 14 q1) s.1 := by
      rw [h11, ← h10, w1, show l3_1.toInt.toNat = s.1 by rw [hs2]; rfl]
      show el lb s.1 = _
      rw [w2]
    have kb : γ 0 x2 = 2 := by rw [ex2]; exact hB2 _ hb
    obtain ⟨c26, c9, c10, c11, c23, c24, c25, c27, c30, c32, c34, cr, cm⟩ := cm26 ha.1 h18
    have f6 := h17
    have a6 : am9 I γ q0 inp gn s x6 := am_q hk ha f6 cm cr rfl rfl rfl rfl (by rw [c25]; exact ha.2.2.2.2.2.1) (by rw [c27]; exact ha.2.2.2.2.2.2.1) ha.2.2.2.2.2.2.2.2.2
    have eb6 : x6 x2 = F_1 x2 := f6 _ (nek kb kq (by decide))
    obtain ⟨ll, nn, pp, ss, v1, ⟨g1, g2, g3⟩, v3, v4, v5, -⟩ := show rk_2 γ x2 (F_1 x2) from RS_o jT kb
    have ex7 : x7 = rwL γ el q1 s.1 := by
      rw [← h19, eb6, v1]
      show ll = γ 14 (el (γ 14 q1) s.1)
      rw [← ex2, g1]
    have mlen : γ 2 (rwL γ el q1 s.1) + 1 = Q.2.1 s.1 := (hQ1.2.1 s.1 hb).1
    have hx8 := h20
    rw [ex7] at hx8
    have t1 : x5.toInt = ((t + 1 : Nat) : Int) := by have := h16; omega
    have ej : s.2.1 = γ 2 (rwL γ el q1 s.1) := by omega
    have e9 : x9 = rAt γ el q1 s.1 s.2.1 := by
      rw [← h23, eb6, v1]
      show nn = _
      rw [show rAt γ el q1 s.1 s.2.1 = γ 15 (el (γ 14 q1) s.1) from if_neg (by omega), ← ex2, g2]
    have k9 : γ 0 x9 = 1 := by rw [e9]; exact (rAt_k jT hc rfl (by omega)).1
    have hr := rn_row hP hb hj
    have hG : 19 ≤ Q.2.2.1 s.1 s.2.1 0 ∧ edO (Q.2.2.1 s.1 s.2.1) ∧ edG (Q.2.2.1 s.1 s.2.1 0) (Q.2.2.2 s.1 0) (Q.2.2.2 s.1 1) := by
      rcases hr with z | z
      · omega
      · exact ⟨z.1, z.2.2⟩
    obtain ⟨hG1, ⟨d1, d2, d4, d5⟩, hG3⟩ := hG
    have hl : edR (Q.2.2.1 s.1 s.2.1) (fI (x6 x9) 0) (fI (x6 x9) 2) (fI (x6 x9) 5) := by
      have q := hQ1.2.2 s.1 hb s.2.1 (by omega)
      have q' : lnX (rwB Q s.1 s.2.1) (Q.2.2.1 s.1 s.2.1) (F_1 (rAt γ el q1 s.1 s.2.1)) := q
      rw [show rwB Q s.1 s.2.1 = false from decide_eq_false (by omega), ← e9] at q'
      rw [f6 _ (nek k9 kq (by decide))]
      exact q'
    obtain ⟨r19, r20, r21⟩ := hl
    have gl : gLX (Q.2.2.1 s.1 s.2.1 0) (Q.2.2.2 s.1) (fI (x6 x2) 2) (fI (x6 x2) 3) := by
      have q := (hQ1.2.1 s.1 hb).2
      rw [show Q.2.1 s.1 - 1 = s.2.1 by omega, ← ex2] at q
      rw [eb6]; exact q
    rw [h24] at r19 r20 r21
    have eo : Q.2.2.1 s.1 s.2.1 0 = 20 := by
      unfold edG at hG3
      rcases hG3 with z | z | z
      · have := r19 z.1; omega
      · exact z.1
      · have := (r21 z.1).1; omega
    have r20' := (r20 eo).2
    rw [h27, h28] at r20'
    have va : x13 = va9 Q s := vl_r r20' d2.1 d2.2 a6.2.2.2.1 h29
    have vz := h30
    rw [va] at vz
    obtain ⟨g, y1, y2, y3⟩ := rn_g (i := 1) hP hb (by decide) (by unfold edG at hG3; omega)
    rw [rn9_n (st9_20 eo), if_pos vz]
    have eg : (Q.2.2.2 s.1 1).toNat = g := by rw [y1]; rfl
    refine ih (go9 s (Q.2.2.2 s.1 1)) (t + 1) f1 (by rw [c26]; exact t1) (by omega) ?_ (by show Int32.toInt 0 = (0 : Int); decide) (by show (Q.2.2.2 s.1 1).toNat < Q.1; omega) (by show 0 < Q.2.1 (Q.2.2.2 s.1 1).toNat; rw [eg]; exact y3) a6 (by rw [c24, c30, c34]; exact hz24)
    rw [← h31, (gl.2 eo).2, y1]
    show (g : Int) = (((g : Int).toNat : Nat) : Int)
    rfl
  · intro F_1 l3_1 l4_1 x1 x2 x3 x4 x5 x6 x7 x8 x9 x10 x11 x12 x13 x14 k e1 e2 e3 h1 h2 h3 h4 h5 h6 h7 h8 h9 h10 h11 h12 h13 h14 h15 h16 h17 h18 h19 h20 h21 h22 h23 h24 h25 h26 h27 h28 h29 h30 h31 ih
    intro s t f ht hf hs2 hs3 hb hj ha hz24
    have jT := h3
    have hQ1 : rfX γ el F_1 q1 Q := rfX_rs hT hc rfl (by exact hR6) hq h4 (by decide)
    have ht4 := ht
    rw [h14] at ht4
    obtain ⟨f1, rfl⟩ : ∃ f1, f = f1 + 1 := ⟨f - 1, by have := h15; omega⟩
    obtain ⟨lb, lr, rnn, md, w1, ⟨w2, -⟩, -⟩ := show rk_9 γ el q1 (F_1 q1) from RS_o jT hc
    have ex2 : x2 = el (γ 14 q1) s.1 := by
      rw [h11, ← h10, w1, show l3_1.toInt.toNat = s.1 by rw [hs2]; rfl]
      show el lb s.1 = _
      rw [w2]
    have kb : γ 0 x2 = 2 := by rw [ex2]; exact hB2 _ hb
    obtain ⟨c26, c9, c10, c11, c23, c24, c25, c27, c30, c32, c34, cr, cm⟩ := cm26 ha.1 h18
    have f6 := h17
    have a6 : am9 I γ q0 inp gn s x6 := am_q hk ha f6 cm cr rfl rfl rfl rfl (by rw [c25]; exact ha.2.2.2.2.2.1) (by rw [c27]; exact ha.2.2.2.2.2.2.1) ha.2.2.2.2.2.2.2.2.2
    have eb6 : x6 x2 = F_1 x2 := f6 _ (nek kb kq (by decide))
    obtain ⟨ll, nn, pp, ss, v1, ⟨g1, g2, g3⟩, v3, v4, v5, -⟩ := show rk_2 γ x2 (F_1 x2) from RS_o jT kb
    have ex7 : x7 = rwL γ el q1 s.1 := by
      rw [← h19, eb6, v1]
      show ll = γ 14 (el (γ 14 q1) s.1)
      rw [← ex2, g1]
    have mlen : γ 2 (rwL γ el q1 s.1) + 1 = Q.2.1 s.1 := (hQ1.2.1 s.1 hb).1
    have hx8 := h20
    rw [ex7] at hx8
    have t1 : x5.toInt = ((t + 1 : Nat) : Int) := by have := h16; omega
    have ej : s.2.1 = γ 2 (rwL γ el q1 s.1) := by omega
    have e9 : x9 = rAt γ el q1 s.1 s.2.1 := by
      rw [← h23, eb6, v1]
      show nn = _
      rw [show rAt γ el q1 s.1 s.2.1 = γ 15 (el (γ 14 q1) s.1) from if_neg (by omega), ← ex2, g2]
    have k9 : γ 0 x9 = 1 := by rw [e9]; exact (rAt_k jT hc rfl (by omega)).1
    have hr := rn_row hP hb hj
    have hG : 19 ≤ Q.2.2.1 s.1 s.2.1 0 ∧ edO (Q.2.2.1 s.1 s.2.1) ∧ edG (Q.2.2.1 s.1 s.2.1 0) (Q.2.2.2 s.1 0) (Q.2.2.2 s.1 1) := by
      rcases hr with z | z
      · omega
      · exact ⟨z.1, z.2.2⟩
    obtain ⟨hG1, ⟨d1, d2, d4, d5⟩, hG3⟩ := hG
    have hl : edR (Q.2.2.1 s.1 s.2.1) (fI (x6 x9) 0) (fI (x6 x9) 2) (fI (x6 x9) 5) := by
      have q := hQ1.2.2 s.1 hb s.2.1 (by omega)
      have q' : lnX (rwB Q s.1 s.2.1) (Q.2.2.1 s.1 s.2.1) (F_1 (rAt γ el q1 s.1 s.2.1)) := q
      rw [show rwB Q s.1 s.2.1 = false from decide_eq_false (by omega), ← e9] at q'
      rw [f6 _ (nek k9 kq (by decide))]
      exact q'
    obtain ⟨r19, r20, r21⟩ := hl
    have gl : gLX (Q.2.2.1 s.1 s.2.1 0) (Q.2.2.2 s.1) (fI (x6 x2) 2) (fI (x6 x2) 3) := by
      have q := (hQ1.2.1 s.1 hb).2
      rw [show Q.2.1 s.1 - 1 = s.2.1 by omega, ← ex2] at q
      rw [eb6]; exact q
    rw [h24] at r19 r20 r21
    have eo : Q.2.2.1 s.1 s.2.1 0 = 20 := by
      unfold edG at hG3
      rcases hG3 with z | z | z
      · have := r19 z.1; omega
      · exact z.1
      · have := (r21 z.1).1; omega
    have r20' := (r20 eo).2
    rw [h27, h28] at r20'
    have va : x13 = va9 Q s := vl_r r20' d2.1 d2.2 a6.2.2.2.1 h29
    have vz := h30
    rw [va] at vz
    obtain ⟨g, y1, y2, y3⟩ := rn_g (i := 0) hP hb (by decide) (by unfold edG at hG3; omega)
    rw [rn9_n (st9_20 eo), if_neg vz]
    have eg : (Q.2.2.2 s.1 0).toNat = g := by rw [y1]; rfl
    refine ih (go9 s (Q.2.2.2 s.1 0)) (t + 1) f1 (by rw [c26]; exact t1) (by omega) ?_ (by show Int32.toInt 0 = (0 : Int); decide) (by show (Q.2.2.2 s.1 0).toNat < Q.1; omega) (by show 0 < Q.2.1 (Q.2.2.2 s.1 0).toNat; rw [eg]; exact y3) a6 (by rw [c24, c30, c34]; exact hz24)
    rw [← h31, (gl.2 eo).1, y1]
    show (g : Int) = (((g : Int).toNat : Nat) : Int)
    rfl
  · intro F_1 l3_1 l4_1 x1 x2 x3 x4 x5 x6 x7 x8 x9 x10 h1 h2 h3 h4 h5 h6 h7 h8 h9 h10 h11 h12 h13 h14 h15 h16 h17 h18 h19 h20 h21 h22 h23 h24 h25
    intro s t f ht hf hs2 hs3 hb hj ha hz24
    have jT := h3
    have hQ1 : rfX γ el F_1 q1 Q := rfX_rs hT hc rfl (by exact hR6) hq h4 (by decide)
    have ht4 := ht
    rw [h14] at ht4
    obtain ⟨f1, rfl⟩ : ∃ f1, f = f1 + 1 := ⟨f - 1, by have := h15; omega⟩
    obtain ⟨lb, lr, rnn, md, w1, ⟨w2, -⟩, -⟩ := show rk_9 γ el q1 (F_1 q1) from RS_o jT hc
    have ex2 : x2 = el (γ 14 q1) s.1 := by
      rw [h11, ← h10, w1, show l3_1.toInt.toNat = s.1 by rw [hs2]; rfl]
      show el lb s.1 = _
      rw [w2]
    have kb : γ 0 x2 = 2 := by rw [ex2]; exact hB2 _ hb
    obtain ⟨c26, c9, c10, c11, c23, c24, c25, c27, c30, c32, c34, cr, cm⟩ := cm26 ha.1 h18
    have f6 := h17
    have a6 : am9 I γ q0 inp gn s x6 := am_q hk ha f6 cm cr rfl rfl rfl rfl (by rw [c25]; exact ha.2.2.2.2.2.1) (by rw [c27]; exact ha.2.2.2.2.2.2.1) ha.2.2.2.2.2.2.2.2.2
    have eb6 : x6 x2 = F_1 x2 := f6 _ (nek kb kq (by decide))
    obtain ⟨ll, nn, pp, ss, v1, ⟨g1, g2, g3⟩, v3, v4, v5, -⟩ := show rk_2 γ x2 (F_1 x2) from RS_o jT kb
    have ex7 : x7 = rwL γ el q1 s.1 := by
      rw [← h19, eb6, v1]
      show ll = γ 14 (el (γ 14 q1) s.1)
      rw [← ex2, g1]
    have mlen : γ 2 (rwL γ el q1 s.1) + 1 = Q.2.1 s.1 := (hQ1.2.1 s.1 hb).1
    have hx8 := h20
    rw [ex7] at hx8
    have t1 : x5.toInt = ((t + 1 : Nat) : Int) := by have := h16; omega
    have ej : s.2.1 = γ 2 (rwL γ el q1 s.1) := by omega
    have e9 : x9 = rAt γ el q1 s.1 s.2.1 := by
      rw [← h23, eb6, v1]
      show nn = _
      rw [show rAt γ el q1 s.1 s.2.1 = γ 15 (el (γ 14 q1) s.1) from if_neg (by omega), ← ex2, g2]
    have k9 : γ 0 x9 = 1 := by rw [e9]; exact (rAt_k jT hc rfl (by omega)).1
    have hr := rn_row hP hb hj
    have hG : 19 ≤ Q.2.2.1 s.1 s.2.1 0 ∧ edO (Q.2.2.1 s.1 s.2.1) ∧ edG (Q.2.2.1 s.1 s.2.1 0) (Q.2.2.2 s.1 0) (Q.2.2.2 s.1 1) := by
      rcases hr with z | z
      · omega
      · exact ⟨z.1, z.2.2⟩
    obtain ⟨hG1, ⟨d1, d2, d4, d5⟩, hG3⟩ := hG
    have hl : edR (Q.2.2.1 s.1 s.2.1) (fI (x6 x9) 0) (fI (x6 x9) 2) (fI (x6 x9) 5) := by
      have q := hQ1.2.2 s.1 hb s.2.1 (by omega)
      have q' : lnX (rwB Q s.1 s.2.1) (Q.2.2.1 s.1 s.2.1) (F_1 (rAt γ el q1 s.1 s.2.1)) := q
      rw [show rwB Q s.1 s.2.1 = false from decide_eq_false (by omega), ← e9] at q'
      rw [f6 _ (nek k9 kq (by decide))]
      exact q'
    obtain ⟨r19, r20, r21⟩ := hl
    have gl : gLX (Q.2.2.1 s.1 s.2.1 0) (Q.2.2.2 s.1) (fI (x6 x2) 2) (fI (x6 x2) 3) := by
      have q := (hQ1.2.1 s.1 hb).2
      rw [show Q.2.1 s.1 - 1 = s.2.1 by omega, ← ex2] at q
      rw [eb6]; exact q
    rw [h24] at r19 r20 r21
    have eo : Q.2.2.1 s.1 s.2.1 0 = 21 := by
      unfold edG at hG3
      rcases hG3 with z | z | z
      · have := r19 z.1; omega
      · have := (r20 z.1).1; omega
      · exact z.1
    rw [rn9_s (st9_21 eo)]
    exact ⟨Or.inr (Or.inr ⟨rfl, rfl⟩), fun z => absurd rfl z, fun _ z hz => vl_r (r21 eo).2 d2.1 d2.2 a6.2.2.2.1 hz, by rw [c26]; exact t1, a6, by rw [c24, c30, c34]; exact hz24⟩
  · intro F_1 l3_1 l4_1 x1 x2 x3 x4 x5 x6 x7 x8 x9 x10 x11 x12 k e1 e2 e3 h1 h2 h3 h4 h5 h6 h7 h8 h9 h10 h11 h12 h13 h14 h15 h16 h17 h18 h19 h20 h21 h22 h23 h24 h25 h26 h27 h28 h29 h30 h31 h32 h33 h34 ih
    intro s t f ht hf hs2 hs3 hb hj ha hz24
    have jT := h3
    have hQ1 : rfX γ el F_1 q1 Q := rfX_rs hT hc rfl (by exact hR6) hq h4 (by decide)
    have ht4 := ht
    rw [h14] at ht4
    obtain ⟨f1, rfl⟩ : ∃ f1, f = f1 + 1 := ⟨f - 1, by have := h15; omega⟩
    obtain ⟨lb, lr, rnn, md, w1, ⟨w2, -⟩, -⟩ := show rk_9 γ el q1 (F_1 q1) from RS_o jT hc
    have ex2 : x2 = el (γ 14 q1) s.1 := by
      rw [h11, ← h10, w1, show l3_1.toInt.toNat = s.1 by rw [hs2]; rfl]
      show el lb s.1 = _
      rw [w2]
    have kb : γ 0 x2 = 2 := by rw [ex2]; exact hB2 _ hb
    obtain ⟨c26, c9, c10, c11, c23, c24, c25, c27, c30, c32, c34, cr, cm⟩ := cm26 ha.1 h18
    have f6 := h17
    have a6 : am9 I γ q0 inp gn s x6 := am_q hk ha f6 cm cr rfl rfl rfl rfl (by rw [c25]; exact ha.2.2.2.2.2.1) (by rw [c27]; exact ha.2.2.2.2.2.2.1) ha.2.2.2.2.2.2.2.2.2
    have eb6 : x6 x2 = F_1 x2 := f6 _ (nek kb kq (by decide))
    obtain ⟨ll, nn, pp, ss, v1, ⟨g1, g2, g3⟩, v3, v4, v5, -⟩ := show rk_2 γ x2 (F_1 x2) from RS_o jT kb
    have ex7 : x7 = rwL γ el q1 s.1 := by
      rw [← h19, eb6, v1]
      show ll = γ 14 (el (γ 14 q1) s.1)
      rw [← ex2, g1]
    have mlen : γ 2 (rwL γ el q1 s.1) + 1 = Q.2.1 s.1 := (hQ1.2.1 s.1 hb).1
    have hx8 := h20
    rw [ex7] at hx8
    have t1 : x5.toInt = ((t + 1 : Nat) : Int) := by have := h16; omega
    have hj2 : s.2.1 < γ 2 (rwL γ el q1 s.1) := by omega
    have e9 : x9 = rAt γ el q1 s.1 s.2.1 := by
      rw [h23, ex7, show l4_1.toInt.toNat = s.2.1 by rw [hs3]; rfl]
      exact (if_pos hj2).symm
    have k9 : γ 0 x9 = 1 := by rw [e9]; exact (rAt_k jT hc rfl (by omega)).1
    have hr := rn_row hP hb hj
    have hO : rnO (Q.2.2.1 s.1 s.2.1) := by
      rcases hr with z | z
      · exact z.2.2
      · omega
    have hl : lnX true (Q.2.2.1 s.1 s.2.1) (x6 x9) := by
      have q := hQ1.2.2 s.1 hb s.2.1 (by omega)
      have q' : lnX (rwB Q s.1 s.2.1) (Q.2.2.1 s.1 s.2.1) (F_1 (rAt γ el q1 s.1 s.2.1)) := q
      rw [show rwB Q s.1 s.2.1 = true from decide_eq_true (by omega), ← e9] at q'
      rw [f6 _ (nek k9 kq (by decide))]
      exact q'
    obtain ⟨⟨u1, u2⟩, u3⟩ := stp_r hk a6 hO hl h32
    rcases u3 with ⟨-, s2', z1, z2, z3, z4⟩ | ⟨z1, -⟩
    · rw [rn9_n z1]
      exact ih s2' (t + 1) f1 (by rw [u2, c26]; exact t1) (by omega) (by rw [z2]; exact hs2) (by rw [z3]; have := h34; omega) (by rw [z2]; exact hb) (by rw [z2, z3]; omega) z4 (u1.trans (by rw [c24, c30, c34]; exact hz24))
    · have := h33; omega
  · intro F_1 l3_1 l4_1 x1 x2 x3 x4 x5 x6 x7 x8 x9 x10 x11 h1 h2 h3 h4 h5 h6 h7 h8 h9 h10 h11 h12 h13 h14 h15 h16 h17 h18 h19 h20 h21 h22 h23 h24 h25 h26 h27 h28 h29 h30 h31 h32 h33
    intro s t f ht hf hs2 hs3 hb hj ha hz24
    have jT := h3
    have hQ1 : rfX γ el F_1 q1 Q := rfX_rs hT hc rfl (by exact hR6) hq h4 (by decide)
    have ht4 := ht
    rw [h14] at ht4
    obtain ⟨f1, rfl⟩ : ∃ f1, f = f1 + 1 := ⟨f - 1, by have := h15; omega⟩
    obtain ⟨lb, lr, rnn, md, w1, ⟨w2, -⟩, -⟩ := show rk_9 γ el q1 (F_1 q1) from RS_o jT hc
    have ex2 : x2 = el (γ 14 q1) s.1 := by
      rw [h11, ← h10, w1, show l3_1.toInt.toNat = s.1 by rw [hs2]; rfl]
      show el lb s.1 = _
      rw [w2]
    have kb : γ 0 x2 = 2 := by rw [ex2]; exact hB2 _ hb
    obtain ⟨c26, c9, c10, c11, c23, c24, c25, c27, c30, c32, c34, cr, cm⟩ := cm26 ha.1 h18
    have f6 := h17
    have a6 : am9 I γ q0 inp gn s x6 := am_q hk ha f6 cm cr rfl rfl rfl rfl (by rw [c25]; exact ha.2.2.2.2.2.1) (by rw [c27]; exact ha.2.2.2.2.2.2.1) ha.2.2.2.2.2.2.2.2.2
    have eb6 : x6 x2 = F_1 x2 := f6 _ (nek kb kq (by decide))
    obtain ⟨ll, nn, pp, ss, v1, ⟨g1, g2, g3⟩, v3, v4, v5, -⟩ := show rk_2 γ x2 (F_1 x2) from RS_o jT kb
    have ex7 : x7 = rwL γ el q1 s.1 := by
      rw [← h19, eb6, v1]
      show ll = γ 14 (el (γ 14 q1) s.1)
      rw [← ex2, g1]
    have mlen : γ 2 (rwL γ el q1 s.1) + 1 = Q.2.1 s.1 := (hQ1.2.1 s.1 hb).1
    have hx8 := h20
    rw [ex7] at hx8
    have t1 : x5.toInt = ((t + 1 : Nat) : Int) := by have := h16; omega
    have hj2 : s.2.1 < γ 2 (rwL γ el q1 s.1) := by omega
    have e9 : x9 = rAt γ el q1 s.1 s.2.1 := by
      rw [h23, ex7, show l4_1.toInt.toNat = s.2.1 by rw [hs3]; rfl]
      exact (if_pos hj2).symm
    have k9 : γ 0 x9 = 1 := by rw [e9]; exact (rAt_k jT hc rfl (by omega)).1
    have hr := rn_row hP hb hj
    have hO : rnO (Q.2.2.1 s.1 s.2.1) := by
      rcases hr with z | z
      · exact z.2.2
      · omega
    have hl : lnX true (Q.2.2.1 s.1 s.2.1) (x6 x9) := by
      have q := hQ1.2.2 s.1 hb s.2.1 (by omega)
      have q' : lnX (rwB Q s.1 s.2.1) (Q.2.2.1 s.1 s.2.1) (F_1 (rAt γ el q1 s.1 s.2.1)) := q
      rw [show rwB Q s.1 s.2.1 = true from decide_eq_true (by omega), ← e9] at q'
      rw [f6 _ (nek k9 kq (by decide))]
      exact q'
    obtain ⟨⟨u1, u2⟩, u3⟩ := stp_r hk a6 hO hl h32
    rcases u3 with ⟨z1, -⟩ | ⟨z1, z2, z3⟩
    · have := h33; omega
    · rw [rn9_s z2]
      exact ⟨Or.inr (Or.inl ⟨rfl, z1, rfl⟩), fun _ => rfl, fun z => (nomatch z), by rw [u2, c26]; exact t1, z3, u1.trans (by rw [c24, c30, c34]; exact hz24)⟩
  · intro F_1 l3_1 l4_1 x1 x2 x3 x4 h1 h2 h3 h4 h5 h6 h7 h8 h9 h10 h11 h12 h13 h14 h15
    intro s t f ht hf hs2 hs3 hb hj ha hz24
    have jT := h3
    have hQ1 : rfX γ el F_1 q1 Q := rfX_rs hT hc rfl (by exact hR6) hq h4 (by decide)
    have ht4 := ht
    rw [h14] at ht4
    have f0 : f = 0 := by omega
    rw [f0, rn9_0]
    exact ⟨Or.inl ⟨rfl, rfl⟩, fun _ => rfl, fun z => (nomatch z), ht, ha, hz24⟩
theorem rn2_r {s1 : Nat → va_E} {s2 : Int32} {k : Nat} {e1 : Nat → va_E} (hk : kd9 γ q0) (h : tl_RModel_run_2 D I γ el P F q0 s1 s2 k e1) : ∀ m : Nat, s2.toInt = (m : Int) → m ≤ 2000 → (∀ i, i < m → cB (s1 (γ 9 20)) i = 0) → (∀ i, i < m → cB (s1 (γ 9 21)) i = 0) → (∀ i, i < 2000 → cB (e1 (γ 9 20)) i = 0) ∧ (∀ i, i < 2000 → cB (e1 (γ 9 21)) i = 0) ∧ ∀ b, b ≠ γ 9 20 → b ≠ γ 9 21 → e1 b = s1 b := by
  obtain ⟨kq, k20, k21, k22⟩ := hk
  refine h (fun s1 s2 k e1 => ∀ m : Nat, s2.toInt = (m : Int) → m ≤ 2000 → (∀ i, i < m → cB (s1 (γ 9 20)) i = 0) → (∀ i, i < m → cB (s1 (γ 9 21)) i = 0) → (∀ i, i < 2000 → cB (e1 (γ 9 20)) i = 0) ∧ (∀ i, i < 2000 → cB (e1 (γ 9 21)) i = 0) ∧ ∀ b, b ≠ γ 9 20 → b ≠ γ 9 21 → e1 b = s1 b) ?_ ?_
  · intro F_1 l3_1 h1 h2 h3 h4 h5 h6 h7
    intro m hm hm2 z0 z1
    have e : m = 2000 := by omega
    rw [e] at z0 z1
    exact ⟨z0, z1, fun _ _ _ => rfl⟩
  · intro F_1 l3_1 x1 x2 x3 x4 x5 x6 x7 k e1 h1 h2 h3 h4 h5 h6 h7 h8 h9 h10 h11 h12 h13 h14 h15 h16 h17 h18 ih
    intro m hm hm2 z0 z1
    have e20 : x6 (γ 9 20) = x3 (γ 9 20) := h16 _ (nek k20 k21 (by decide))
    have e21 : x3 (γ 9 21) = F_1 (γ 9 21) := h11 _ (nek k21 k20 (by decide))
    obtain ⟨i1, i2, i3⟩ := ih (m + 1) (by rw [h18]; omega) (by omega) (fun i hi => by
      rw [e20, cB_of h12, h10, nnE hm]
      by_cases c : i = m
      · rw [c, updE]
      · rw [updN c, ← cB_of h9]; exact z0 i (by omega)) (fun i hi => by
      rw [cB_of h17, h15, nnE hm]
      by_cases c : i = m
      · rw [c, updE]
      · rw [updN c, ← cB_of h14, e21]; exact z1 i (by omega))
    exact ⟨i1, i2, fun b h20 h21 => (i3 b h20 h21).trans ((h16 b h21).trans (h11 b h20))⟩
theorem m28_9 (hT : RS D I P F γ el) (hm : γ 0 q0 = 10) : γ 0 (fR (F q0) 28) = 98 := by
  obtain ⟨r28, r35, v9, v10, v11, v12, v13, v14, v23, v24, v25, v26, v27, v30, v32, v33, v34, he, hM1, hK, hM2⟩ := rk10_m (show rk_10 γ (F q0) from RS_o hT hm)
  rw [he]
  exact hK.1
theorem md_c9 (hT : RS D I P F γ el) (hm : γ 0 q0 = 10) : (γ 0 (γ 9 6) = 9 ∧ γ 0 (γ 9 7) = 9) ∧ γ 1 (γ 9 6) = 0 ∧ γ 1 (γ 9 7) = 1 := by
  obtain ⟨r28, r35, v9, v10, v11, v12, v13, v14, v23, v24, v25, v26, v27, v30, v32, v33, v34, he, hM1, hK, hM2⟩ := rk10_m (show rk_10 γ (F q0) from RS_o hT hm)
  obtain ⟨k0, k1, k2, k3, k4, k5, k6, k7, k8, k9, k10, k11, k12, k13, k14, k15, k16, k17, k18, kW, k20, k21, k22, k23⟩ := hK
  exact ⟨⟨k8, k9⟩, k21, k22⟩
theorem run_r {q1 : Nat} {a2 : Int32} {o1 : Int32} {o2 : Nat → va_E} (hT : RS D I P F γ el) (hm : γ 0 q0 = 10) (hc : γ 0 q1 = 9) (hR6 : γ 6 (γ 1 q1) = Q.1) (hP : rnP Q) (hq : rfX γ el F q1 Q) (hin : inP9 I F q0 inp gn) (h0 : 0 ≤ a2.toInt) (h30 : fI (F q0) 30 = 0) (h : tr_RModel_run D I γ el P F q0 q1 a2 o1 o2) : ∃ r, r = rn9 Q inp gn a2.toInt.toNat 0 in9 ∧ o1.toInt = r.1 ∧ (fI (o2 q0) 24 = r.2.1 ∧ (fI (o2 q0) 30 = 0 ∧ fI (o2 q0) 34 = fI (F q0) 34) ∧ (r.1 ≠ 0 → r.2.1 = 0)) ∧ (fI (o2 q0) 26).toInt = (r.2.2.1 : Int) ∧ am9 I γ q0 inp gn r.2.2.2 o2 := by
  have hk := kd9_o hT hm
  obtain ⟨kq, k20, k21, k22⟩ := id hk
  have mM : isMd γ (F q0) := isMd_o (RS_o hT hm)
  have m28 : γ 0 (fR (F q0) 28) = 98 := m28_9 hT hm
  refine h (fun o1 o2 => ∃ r, r = rn9 Q inp gn a2.toInt.toNat 0 in9 ∧ o1.toInt = r.1 ∧ (fI (o2 q0) 24 = r.2.1 ∧ (fI (o2 q0) 30 = 0 ∧ fI (o2 q0) 34 = fI (F q0) 34) ∧ (r.1 ≠ 0 → r.2.1 = 0)) ∧ (fI (o2 q0) 26).toInt = (r.2.2.1 : Int) ∧ am9 I γ q0 inp gn r.2.2.2 o2) ?_ ?_ ?_
  · intro x1 x2 x3 x4 x5 x6 x7 x8 x9 x10 x11 h1 h2 h3 h4 h5 h6 h7 h8 h9 h10 h11 h12 h13 h14 h15
    obtain ⟨z0, z1, z2⟩ := rn2_r hk h1 0 (by decide) (by decide) (fun i hi => absurd hi (Nat.not_lt_zero i)) (fun i hi => absurd hi (Nat.not_lt_zero i))
    have e1 : x1 q0 = F q0 := z2 _ (nek kq k20 (by decide)) (nek kq k21 (by decide))
    have c2 := h3
    rw [e1] at c2
    obtain ⟨a24, a9, a10, a11, a23, a25, a26, a27, a30, a32, a34, ar, am⟩ := cm24 mM c2
    obtain ⟨b25, b9, b10, b11, b23, b24, b26, b27, b30, b32, b34, br, bm⟩ := cm25 am h5
    obtain ⟨c26, c9, c10, c11, c23, c24, c25, c27, c30, c32, c34, cr, cm⟩ := cm26 bm h7
    obtain ⟨d27, d9, d10, d11, d23, d24, d25, d26, d30, d32, d34, dr, dm⟩ := cm27 cm h9
    have fr : ∀ b, b ≠ q0 → x5 b = x1 b := fun b hb => (h8 b hb).trans ((h6 b hb).trans ((h4 b hb).trans (h2 b hb)))
    have e28 : fR (x5 q0) 28 = fR (F q0) 28 := by rw [dr, cr, br, ar]
    have a0 : am9 I γ q0 inp gn in9 x5 := by
      obtain ⟨p, p1, p2⟩ := hin
      refine ⟨dm, by rw [e28]; exact m28, ⟨p, ?_, p2⟩, fun i hi => ?_, fun i hi => ?_, by rw [d25, c25, b25]; decide, by rw [d27]; decide, fun i hi => absurd hi (Nat.not_lt_zero i), Nat.zero_le _, Nat.zero_le _⟩
      · rw [e28, fr _ (nek m28 kq (by decide)), z2 _ (nek m28 k20 (by decide)) (nek m28 k21 (by decide))]; exact p1
      · rw [fr _ (nek k20 kq (by decide))]; exact z0 i (by omega)
      · rw [fr _ (nek k21 kq (by decide))]; exact z1 i (by omega)
    obtain ⟨y1, y2, y3, y4, y5, y6⟩ := rn54_r (kk := fI (F q0) 34) hT hm hc hR6 hP hq h10 in9 0 a2.toInt.toNat (by rw [d26, c26]; decide) (by omega) (by decide) (by decide) hP.1.1 (hP.2.2.1 0 hP.1.1).1 a0 (by rw [d24, c24, b24, a24, d30, c30, b30, a30, h30, d34, c34, b34, a34])
    have q0e := y3 rfl
    rw [h11, h12] at q0e
    obtain ⟨g24, g9, g10, g11, g23, g25, g26, g27, g30, g32, g34, gr, gm⟩ := cm24 y5.1 h15
    have r0 : (rn9 Q inp gn a2.toInt.toNat 0 in9).1 = 0 := by
      rcases y1 with z | z | z
      · exact absurd z.1 (by decide)
      · exact absurd z.1 (by decide)
      · exact z.2
    exact ⟨_, rfl, by rw [r0]; decide, ⟨by rw [g24]; exact q0e _ h13, ⟨by rw [g30]; exact congrArg (fun z => z.2.1) y6, by rw [g34]; exact congrArg (fun z => z.2.2) y6⟩, fun z => absurd r0 z⟩, by rw [g26]; exact y4, am_q hk y5 h14 gm gr rfl rfl rfl rfl (by rw [g25]; exact y5.2.2.2.2.2.1) (by rw [g27]; exact y5.2.2.2.2.2.2.1) y5.2.2.2.2.2.2.2.2.2⟩
  · intro x1 x2 x3 x4 x5 x6 x7 h1 h2 h3 h4 h5 h6 h7 h8 h9 h10
    obtain ⟨z0, z1, z2⟩ := rn2_r hk h1 0 (by decide) (by decide) (fun i hi => absurd hi (Nat.not_lt_zero i)) (fun i hi => absurd hi (Nat.not_lt_zero i))
    have e1 : x1 q0 = F q0 := z2 _ (nek kq k20 (by decide)) (nek kq k21 (by decide))
    have c2 := h3
    rw [e1] at c2
    obtain ⟨a24, a9, a10, a11, a23, a25, a26, a27, a30, a32, a34, ar, am⟩ := cm24 mM c2
    obtain ⟨b25, b9, b10, b11, b23, b24, b26, b27, b30, b32, b34, br, bm⟩ := cm25 am h5
    obtain ⟨c26, c9, c10, c11, c23, c24, c25, c27, c30, c32, c34, cr, cm⟩ := cm26 bm h7
    obtain ⟨d27, d9, d10, d11, d23, d24, d25, d26, d30, d32, d34, dr, dm⟩ := cm27 cm h9
    have fr : ∀ b, b ≠ q0 → x5 b = x1 b := fun b hb => (h8 b hb).trans ((h6 b hb).trans ((h4 b hb).trans (h2 b hb)))
    have e28 : fR (x5 q0) 28 = fR (F q0) 28 := by rw [dr, cr, br, ar]
    have a0 : am9 I γ q0 inp gn in9 x5 := by
      obtain ⟨p, p1, p2⟩ := hin
      refine ⟨dm, by rw [e28]; exact m28, ⟨p, ?_, p2⟩, fun i hi => ?_, fun i hi => ?_, by rw [d25, c25, b25]; decide, by rw [d27]; decide, fun i hi => absurd hi (Nat.not_lt_zero i), Nat.zero_le _, Nat.zero_le _⟩
      · rw [e28, fr _ (nek m28 kq (by decide)), z2 _ (nek m28 k20 (by decide)) (nek m28 k21 (by decide))]; exact p1
      · rw [fr _ (nek k20 kq (by decide))]; exact z0 i (by omega)
      · rw [fr _ (nek k21 kq (by decide))]; exact z1 i (by omega)
    obtain ⟨y1, y2, y3, y4, y5, y6⟩ := rn54_r (kk := fI (F q0) 34) hT hm hc hR6 hP hq h10 in9 0 a2.toInt.toNat (by rw [d26, c26]; decide) (by omega) (by decide) (by decide) hP.1.1 (hP.2.2.1 0 hP.1.1).1 a0 (by rw [d24, c24, b24, a24, d30, c30, b30, a30, h30, d34, c34, b34, a34])
    have r0 : 0 < x7.toInt ∧ (rn9 Q inp gn a2.toInt.toNat 0 in9).1 = x7.toInt := by
      rcases y1 with z | z | z
      · exact absurd z.1 (by decide)
      · exact z.2
      · exact absurd z.1 (by decide)
    exact ⟨_, rfl, r0.2.symm, ⟨(congrArg (fun z => z.1) y6).trans (y2 (by decide)).symm, ⟨congrArg (fun z => z.2.1) y6, congrArg (fun z => z.2.2) y6⟩, fun _ => y2 (by decide)⟩, y4, y5⟩
  · intro x1 x2 x3 x4 x5 x6 h1 h2 h3 h4 h5 h6 h7 h8 h9 h10
    obtain ⟨z0, z1, z2⟩ := rn2_r hk h1 0 (by decide) (by decide) (fun i hi => absurd hi (Nat.not_lt_zero i)) (fun i hi => absurd hi (Nat.not_lt_zero i))
    have e1 : x1 q0 = F q0 := z2 _ (nek kq k20 (by decide)) (nek kq k21 (by decide))
    have c2 := h3
    rw [e1] at c2
    obtain ⟨a24, a9, a10, a11, a23, a25, a26, a27, a30, a32, a34, ar, am⟩ := cm24 mM c2
    obtain ⟨b25, b9, b10, b11, b23, b24, b26, b27, b30, b32, b34, br, bm⟩ := cm25 am h5
    obtain ⟨c26, c9, c10, c11, c23, c24, c25, c27, c30, c32, c34, cr, cm⟩ := cm26 bm h7
    obtain ⟨d27, d9, d10, d11, d23, d24, d25, d26, d30, d32, d34, dr, dm⟩ := cm27 cm h9
    have fr : ∀ b, b ≠ q0 → x5 b = x1 b := fun b hb => (h8 b hb).trans ((h6 b hb).trans ((h4 b hb).trans (h2 b hb)))
    have e28 : fR (x5 q0) 28 = fR (F q0) 28 := by rw [dr, cr, br, ar]
    have a0 : am9 I γ q0 inp gn in9 x5 := by
      obtain ⟨p, p1, p2⟩ := hin
      refine ⟨dm, by rw [e28]; exact m28, ⟨p, ?_, p2⟩, fun i hi => ?_, fun i hi => ?_, by rw [d25, c25, b25]; decide, by rw [d27]; decide, fun i hi => absurd hi (Nat.not_lt_zero i), Nat.zero_le _, Nat.zero_le _⟩
      · rw [e28, fr _ (nek m28 kq (by decide)), z2 _ (nek m28 k20 (by decide)) (nek m28 k21 (by decide))]; exact p1
      · rw [fr _ (nek k20 kq (by decide))]; exact z0 i (by omega)
      · rw [fr _ (nek k21 kq (by decide))]; exact z1 i (by omega)
    obtain ⟨y1, y2, y3, y4, y5, y6⟩ := rn54_r (kk := fI (F q0) 34) hT hm hc hR6 hP hq h10 in9 0 a2.toInt.toNat (by rw [d26, c26]; decide) (by omega) (by decide) (by decide) hP.1.1 (hP.2.2.1 0 hP.1.1).1 a0 (by rw [d24, c24, b24, a24, d30, c30, b30, a30, h30, d34, c34, b34, a34])
    have r0 : (rn9 Q inp gn a2.toInt.toNat 0 in9).1 = 4 := by
      rcases y1 with z | z | z
      · exact z.2
      · exact absurd z.1 (by decide)
      · exact absurd z.1 (by decide)
    exact ⟨_, rfl, by rw [r0]; decide, ⟨(congrArg (fun z => z.1) y6).trans (y2 (by decide)).symm, ⟨congrArg (fun z => z.2.1) y6, congrArg (fun z => z.2.2) y6⟩, fun _ => y2 (by decide)⟩, y4, y5⟩
def rnM (I : FieldType → ClassId) (γ el : Nat → Nat → Nat) (F : Nat → va_E) (q0 : Nat) (a1 a2 o1 : Int32) (o2 : Nat → va_E) : Prop := ((a2.toInt < 1 ∨ 100000 < a2.toInt) ∧ (fI (o2 q0) 30).toInt = 1 ∧ (mO (o2 q0) = mO (F q0) ∧ o2 (γ 9 22) = F (γ 9 22))) ∨ ((1 ≤ a2.toInt ∧ a2.toInt ≤ 100000) ∧ ((a1.toInt = 0 ∧ (fI (F q0) 9).toInt = 0) ∨ (a1.toInt ≠ 0 ∧ (fI (F q0) 10).toInt = 0)) ∧ (fI (o2 q0) 30).toInt = 2 ∧ (mO (o2 q0) = mO (F q0) ∧ o2 (γ 9 22) = F (γ 9 22))) ∨ ((1 ≤ a2.toInt ∧ a2.toInt ≤ 100000) ∧ ((a1.toInt = 0 ∧ (fI (F q0) 9).toInt ≠ 0) ∨ (a1.toInt ≠ 0 ∧ (fI (F q0) 10).toInt ≠ 0)) ∧ ∀ (Q : gPg) (inp : Nat → Int32) (gn : Nat), rnP Q → ((a1.toInt = 0 ∧ rfX γ el F (γ 9 6) Q ∧ γ 6 0 = Q.1) ∨ (a1.toInt ≠ 0 ∧ rfX γ el F (γ 9 7) Q ∧ γ 6 1 = Q.1)) → inP9 I F q0 inp gn → ((fI (o2 q0) 30).toInt = 0 ∧ fI (o2 q0) 34 = fI (F q0) 34) ∧ ∃ r, r = rn9 Q inp gn a2.toInt.toNat 0 in9 ∧ o1.toInt = r.1 ∧ fI (o2 q0) 23 = o1 ∧ (fI (o2 q0) 24 = r.2.1 ∧ (r.1 ≠ 0 → r.2.1 = 0)) ∧ (fI (o2 q0) 26).toInt = (r.2.2.1 : Int) ∧ am9 I γ q0 inp gn r.2.2.2 o2)
theorem mO_30 {e e1 : va_E} {y : Int32} (h : isMd γ e) (he : e1 = cF e 30 (.int y)) : mO e1 = mO e ∧ fI e1 30 = y := by
  obtain ⟨c30, -, -, -, c23, c24, c25, c26, c27, -, c34, cr, -⟩ := cm30 h he
  unfold mO
  rw [c23, c24, c25, c26, c27, c34, cr]
  exact ⟨rfl, c30⟩
theorem no_q {a1 : Int32} {o1 : Nat → va_E} (h : tr_RModel_no D I γ el F q0 a1 o1) : o1 q0 = cF (F q0) 30 (.int a1) := by
  refine h (fun o1 => o1 q0 = cF (F q0) 30 (.int a1)) ?_
  intro x1 h1 h2
  exact h2
theorem no_f9 {a1 : Int32} {o1 : Nat → va_E} (h : tr_RModel_no D I γ el F q0 a1 o1) : ∀ b, b ≠ q0 → o1 b = F b := by
  refine h (fun o1 => ∀ b, b ≠ q0 → o1 b = F b) ?_
  intro x1 h1 h2
  exact h1
theorem run2_r {a1 : Int32} {a2 : Int32} {o1 : Int32} {o2 : Nat → va_E} (hT : RS D I P F γ el) (hm : γ 0 q0 = 10) (h : tr_RModel_run2 D I γ el P F q0 a1 a2 o1 o2) : rnM I γ el F q0 a1 a2 o1 o2 := by
  have mM : isMd γ (F q0) := isMd_o (RS_o hT hm)
  have n22 : γ 9 22 ≠ q0 := nek (kd9_o hT hm).2.2.2 hm (by decide)
  obtain ⟨⟨c6, c7⟩, f6, f7⟩ := md_c9 hT hm
  refine h (fun o1 o2 => rnM I γ el F q0 a1 a2 o1 o2) ?_ ?_ ?_ ?_ ?_ ?_
  · intro x1 x2 h1 h2 h3 h4 h5 h6 h7 h8 h9 h10
    obtain ⟨b30, b9, b10, b11, b23, b24, b25, b26, b27, b32, b34, br, bm⟩ := cm30 mM h2
    have e1 := (mO_30 mM h2).1
    obtain ⟨d1, d2⟩ := mO_30 bm (no_q h10)
    exact Or.inl ⟨by omega, by rw [d2]; decide, d1.trans e1, (no_f9 h10 _ n22).trans (h1 _ n22)⟩
  · intro x1 x2 x3 x4 x5 h1 h2 h3 h4 h5 h6 h7 h8 h9 h10 h11 h12 h13 h14 h15 h16 h17 h18
    obtain ⟨b30, b9, b10, b11, b23, b24, b25, b26, b27, b32, b34, br, bm⟩ := cm30 mM h2
    have e1 := (mO_30 mM h2).1
    have g9 : fI (F q0) 9 = x2 := by rw [← b9]; exact h6
    refine Or.inr (Or.inr ⟨by omega, by rw [g9]; omega, fun Q inp gn hP hq hin => ?_⟩)
    have hq2 : rfX γ el F (γ 9 6) Q ∧ γ 6 0 = Q.1 := by
      rcases hq with ⟨z, y1, y2⟩ | ⟨z, -⟩
      · exact ⟨y1, y2⟩
      · omega
    have hT1 : RS D I P x1 γ el := rs_30 hT hm h1 h2
    have st : rStr γ [] F x1 := fun b _ z _ => h1 b (fun e => by rw [e, hm] at z; omega)
    have hq3 : rfX γ el x1 (γ 9 6) Q := rfX_rs hT c6 f6 hq2.2 hq2.1 st ⟨List.not_mem_nil, List.not_mem_nil, List.not_mem_nil⟩
    have hin1 : inP9 I x1 q0 inp gn := by
      obtain ⟨p, p1, p2⟩ := hin
      refine ⟨p, ?_, p2⟩
      rw [br, h1 _ (nek (m28_9 hT hm) hm (by decide))]; exact p1
    obtain ⟨r, y1, y2, ⟨y3, ⟨y4, y44⟩, y7⟩, y5, y6⟩ := run_r hT1 hm c6 (by rw [f6]; exact hq2.2) hP hq3 hin1 (by omega) b30 h15
    obtain ⟨g23, g9, g10, g11, g24, g25, g26, g27, g30, g32, g34, gr, gm⟩ := cm23 y6.1 h17
    exact ⟨⟨by rw [g30, y4]; decide, by rw [g34, y44, b34]⟩, r, y1, y2, g23, ⟨by rw [g24]; exact y3, y7⟩, by rw [g26]; exact y5, am_q (kd9_o hT hm) y6 h16 gm gr rfl rfl rfl rfl (by rw [g25]; exact y6.2.2.2.2.2.1) (by rw [g27]; exact y6.2.2.2.2.2.2.1) y6.2.2.2.2.2.2.2.2.2⟩
  · intro x1 x2 x3 h1 h2 h3 h4 h5 h6 h7 h8 h9 h10 h11 h12 h13 h14
    obtain ⟨b30, b9, b10, b11, b23, b24, b25, b26, b27, b32, b34, br, bm⟩ := cm30 mM h2
    have e1 := (mO_30 mM h2).1
    obtain ⟨d1, d2⟩ := mO_30 bm (no_q h14)
    have g9 : fI (F q0) 9 = x2 := by rw [← b9]; exact h6
    exact Or.inr (Or.inl ⟨by omega, by rw [g9]; omega, by rw [d2]; decide, d1.trans e1, (no_f9 h14 _ n22).trans (h1 _ n22)⟩)
  · intro x1 x2 x3 x4 x5 h1 h2 h3 h4 h5 h6 h7 h8 h9 h10 h11 h12 h13 h14 h15 h16 h17 h18
    obtain ⟨b30, b9, b10, b11, b23, b24, b25, b26, b27, b32, b34, br, bm⟩ := cm30 mM h2
    have e1 := (mO_30 mM h2).1
    have g9 : fI (F q0) 10 = x2 := by rw [← b10]; exact h6
    refine Or.inr (Or.inr ⟨by omega, by rw [g9]; omega, fun Q inp gn hP hq hin => ?_⟩)
    have hq2 : rfX γ el F (γ 9 7) Q ∧ γ 6 1 = Q.1 := by
      rcases hq with ⟨z, -⟩ | ⟨z, y1, y2⟩
      · omega
      · exact ⟨y1, y2⟩
    have hT1 : RS D I P x1 γ el := rs_30 hT hm h1 h2
    have st : rStr γ [] F x1 := fun b _ z _ => h1 b (fun e => by rw [e, hm] at z; omega)
    have hq3 : rfX γ el x1 (γ 9 7) Q := rfX_rs hT c7 f7 hq2.2 hq2.1 st ⟨List.not_mem_nil, List.not_mem_nil, List.not_mem_nil⟩
    have hin1 : inP9 I x1 q0 inp gn := by
      obtain ⟨p, p1, p2⟩ := hin
      refine ⟨p, ?_, p2⟩
      rw [br, h1 _ (nek (m28_9 hT hm) hm (by decide))]; exact p1
    obtain ⟨r, y1, y2, ⟨y3, ⟨y4, y44⟩, y7⟩, y5, y6⟩ := run_r hT1 hm c7 (by rw [f7]; exact hq2.2) hP hq3 hin1 (by omega) b30 h15
    obtain ⟨g23, g9, g10, g11, g24, g25, g26, g27, g30, g32, g34, gr, gm⟩ := cm23 y6.1 h17
    exact ⟨⟨by rw [g30, y4]; decide, by rw [g34, y44, b34]⟩, r, y1, y2, g23, ⟨by rw [g24]; exact y3, y7⟩, by rw [g26]; exact y5, am_q (kd9_o hT hm) y6 h16 gm gr rfl rfl rfl rfl (by rw [g25]; exact y6.2.2.2.2.2.1) (by rw [g27]; exact y6.2.2.2.2.2.2.1) y6.2.2.2.2.2.2.2.2.2⟩
  · intro x1 x2 x3 h1 h2 h3 h4 h5 h6 h7 h8 h9 h10 h11 h12 h13 h14
    obtain ⟨b30, b9, b10, b11, b23, b24, b25, b26, b27, b32, b34, br, bm⟩ := cm30 mM h2
    have e1 := (mO_30 mM h2).1
    obtain ⟨d1, d2⟩ := mO_30 bm (no_q h14)
    have g9 : fI (F q0) 10 = x2 := by rw [← b10]; exact h6
    exact Or.inr (Or.inl ⟨by omega, by rw [g9]; omega, by rw [d2]; decide, d1.trans e1, (no_f9 h14 _ n22).trans (h1 _ n22)⟩)
  · intro x1 x2 h1 h2 h3 h4 h5 h6 h7 h8 h9 h10 h11
    obtain ⟨b30, b9, b10, b11, b23, b24, b25, b26, b27, b32, b34, br, bm⟩ := cm30 mM h2
    have e1 := (mO_30 mM h2).1
    obtain ⟨d1, d2⟩ := mO_30 bm (no_q h11)
    exact Or.inl ⟨by omega, by rw [d2]; decide, d1.trans e1, (no_f9 h11 _ n22).trans (h1 _ n22)⟩
end RN9
end
section
section GZR
variable {D : va_G} {I : FieldType → ClassId} {P : List Nat} {F : Nat → va_E} {γ0 el0 : Nat → Nat → Nat} {f : Nat} {Q : gPg}
theorem ldT_Z (hb : ∀ b, b < Q.1 → blC (Q.2.1 b) (Q.2.2.1 b) (Q.2.2.2 b)) : ldT (pgZ Q) := fun b i hb1 hi h17 => by
  have old : ∀ b j, b < Q.1 → j < Q.2.1 b → Q.2.2.1 b j 0 ≠ 17 := fun b j h1 h2 => by
    obtain ⟨c0, c1, c2, c3⟩ := hb b h1
    by_cases e : j + 1 < Q.2.1 b
    · have := (c1 j e).1; omega
    · rw [show Q.2.1 b - 1 = j by omega] at c3
      rcases c3 with c3 | c3 | c3 <;> omega
  have hi2 : i < if b = 0 then cntP (lz Q) 100 + Q.2.1 0 else Q.2.1 b := hi
  have h17' : (if b = 0 then (if i < cntP (lz Q) 100 then mkL 14 (nthT (lz Q) 100 i : Int) (-1) 0 (-1) 0 else Q.2.2.1 0 (i - cntP (lz Q) 100)) else Q.2.2.1 b i) 0 = 17 := h17
  have hb2 : b < Q.1 := hb1
  by_cases e : b = 0
  · rw [if_pos e] at hi2 h17'
    by_cases g : i < cntP (lz Q) 100
    · rw [if_pos g] at h17'; exact absurd (show (14 : Int) = 17 from h17') (by decide)
    · rw [if_neg g] at h17'; exact absurd h17' (old 0 _ (by omega) (by omega))
  · rw [if_neg e] at hi2 h17'
    exact absurd h17' (old b i hb2 hi2)
theorem gal_r {q0 : Nat} {q1 : Nat} {a2 : Int32} {o1 : Int32} {o2 : List Nat} {o3 : Nat → va_E} {o4 : Nat → Nat → Nat} {o5 : Nat → Nat → Nat} (hT : RS D I P F γ0 el0) (hm : γ0 0 q0 = 10) (hc : γ0 0 q1 = 9) (hcf : γ0 1 q1 = f) (hQ6 : γ0 6 f = Q.1) (hq : rfW γ0 el0 F q1 Q) (hO : qOk Q) (hbl : ∀ b, b < Q.1 → blC (Q.2.1 b) (Q.2.2.1 b) (Q.2.2.2 b)) (hgi : gvI (pgZ Q) 100) (hQ40 : Q.1 ≤ 40) (hP0 : 0 < Q.1) (hT100 : ∀ v, 100 ≤ v → ¬ lz Q v) (hk1 : 1 ≤ a2.toInt) (hk2 : a2.toInt ≤ 32) (h : tr_RModel_giveAll D I γ0 el0 f P F q0 q1 a2 o1 o2 o3 o4 o5) : ∃ Z, GVr a2.toInt (dpt Q) 40 1 (pgZ Q) 100 0 o1.toInt Z ∧ ((1 ≤ o1.toInt ∧ (okZ a2.toInt Z → rfX o4 o5 o3 q1 (fnP Z) ∧ kdX γ0 o4 f q0 q1 Z.1)) ∨ o1.toInt = -1) := by
  refine h (fun o1 o2 o3 o4 o5 => ∃ Z, GVr a2.toInt (dpt Q) 40 1 (pgZ Q) 100 0 o1.toInt Z ∧ ((1 ≤ o1.toInt ∧ (okZ a2.toInt Z → rfX o4 o5 o3 q1 (fnP Z) ∧ kdX γ0 o4 f q0 q1 Z.1)) ∨ o1.toInt = -1)) ?_ ?_ ?_ ?_
  · intro x1 x2 x3 x4 x5 x6 x7 x8 x9 x10 x11 x12 x13 x14 h1 h2 h3 h4 h5 h6 h7 h8 h9 h10 h11 h12 h13 h14 h15 h16 h17 h18
    have eg := h1
    have ee := h2
    subst eg
    subst ee
    have f6 : ∀ a, a ≠ q0 → x6 a = F a := fun a ha => by rw [h9 a ha, h7 a ha, h5 a ha, h3 a ha]
    obtain ⟨r28, r35, v9, v10, v11, v12, v13, v14, v23, v24, v25, v26, v27, v30, v32, v33, v34, he, ⟨m1, m2, m3, m4, m5⟩, hK, hM2⟩ := rk10_m (show rk_10 x1 (F q0) from RS_o hT hm)
    have e6 : x6 q0 = mdE x1 r28 r35 v9 v10 0 0 0 100 v23 v24 v25 v26 v27 v30 v32 v33 v34 := by rw [h10, h8, h6, h4, he]; rfl
    have T6 : RS D I P x6 x1 x2 := RS_md hT hm f6 e6 ⟨m1, m2, ⟨by decide, by decide⟩, ⟨by decide, by decide⟩, m5⟩ hK hM2
    have hB := hB2_ hT hc hcf hQ6
    have q6 : rfX x1 x2 x6 q1 Q := rfX_fr hT hc hcf hQ6 (rfX_W.mpr hq) (fun a ha => f6 a (fun e => by rw [e, hm] at ha; omega))
    obtain ⟨z1, z2⟩ := zr_tr T6 hm hc hcf hQ6 hP0 hQ40 (rfX_W.mp q6) hO hB hT100 h17
    have skZ := h11
    have e8 : x8 q0 = x6 q0 := h16
    obtain ⟨r, Z, r1, r2, r3⟩ := ga28_r (dp := dpt Q) hk1 hk2 h18 (pgZ Q) 100 0 1 (by decide) (Nat.le_refl _) (by decide) (rfX_W.mpr z1) (qZ hO hP0) hgi (ldT_Z hbl) ⟨rSk_k skZ (show rKd x1 q1 9 from hc) (by decide) (by decide), rSk_1 skZ (show rKd x1 q1 9 from hc) (by decide) hcf, rSk_k skZ (show rKd x1 q0 10 from hm) (by decide) (by decide), rSk_9 skZ, (h12).trans hQ6⟩ dptZ (by rw [e8, e6]; rfl) (by rw [e8, e6]; rfl)
    rw [r3 (by decide)] at r1
    exact ⟨Z, r1, Or.inr (by decide)⟩
  · intro x1 x2 x3 x4 x5 x6 x7 x8 x9 x10 x11 x12 x13 x14 h1 h2 h3 h4 h5 h6 h7 h8 h9 h10 h11 h12 h13 h14 h15 h16 h17 h18
    have eg := h1
    have ee := h2
    subst eg
    subst ee
    have f6 : ∀ a, a ≠ q0 → x6 a = F a := fun a ha => by rw [h9 a ha, h7 a ha, h5 a ha, h3 a ha]
    obtain ⟨r28, r35, v9, v10, v11, v12, v13, v14, v23, v24, v25, v26, v27, v30, v32, v33, v34, he, ⟨m1, m2, m3, m4, m5⟩, hK, hM2⟩ := rk10_m (show rk_10 x1 (F q0) from RS_o hT hm)
    have e6 : x6 q0 = mdE x1 r28 r35 v9 v10 0 0 0 100 v23 v24 v25 v26 v27 v30 v32 v33 v34 := by rw [h10, h8, h6, h4, he]; rfl
    have T6 : RS D I P x6 x1 x2 := RS_md hT hm f6 e6 ⟨m1, m2, ⟨by decide, by decide⟩, ⟨by decide, by decide⟩, m5⟩ hK hM2
    have hB := hB2_ hT hc hcf hQ6
    have q6 : rfX x1 x2 x6 q1 Q := rfX_fr hT hc hcf hQ6 (rfX_W.mpr hq) (fun a ha => f6 a (fun e => by rw [e, hm] at ha; omega))
    obtain ⟨z1, z2⟩ := zr_tr T6 hm hc hcf hQ6 hP0 hQ40 (rfX_W.mp q6) hO hB hT100 h17
    have skZ := h11
    have e8 : x8 q0 = x6 q0 := h16
    obtain ⟨r, Z, r1, r2, r3⟩ := ga28_r (dp := dpt Q) hk1 hk2 h18 (pgZ Q) 100 0 1 (by decide) (Nat.le_refl _) (by decide) (rfX_W.mpr z1) (qZ hO hP0) hgi (ldT_Z hbl) ⟨rSk_k skZ (show rKd x1 q1 9 from hc) (by decide) (by decide), rSk_1 skZ (show rKd x1 q1 9 from hc) (by decide) hcf, rSk_k skZ (show rKd x1 q0 10 from hm) (by decide) (by decide), rSk_9 skZ, (h12).trans hQ6⟩ dptZ (by rw [e8, e6]; rfl) (by rw [e8, e6]; rfl)
    rw [r3 (by decide)] at r1
    exact ⟨Z, r1, Or.inr (by decide)⟩
  · intro x1 x2 x3 x4 x5 x6 x7 x8 x9 x10 x11 x12 x13 x14 x15 x16 x17 x18 x19 x20 h1 h2 h3 h4 h5 h6 h7 h8 h9 h10 h11 h12 h13 h14 h15 h16 h17 h18 h19 h20 h21 h22 h23 h24
    have eg := h1
    have ee := h2
    subst eg
    subst ee
    have f6 : ∀ a, a ≠ q0 → x6 a = F a := fun a ha => by rw [h9 a ha, h7 a ha, h5 a ha, h3 a ha]
    obtain ⟨r28, r35, v9, v10, v11, v12, v13, v14, v23, v24, v25, v26, v27, v30, v32, v33, v34, he, ⟨m1, m2, m3, m4, m5⟩, hK, hM2⟩ := rk10_m (show rk_10 x1 (F q0) from RS_o hT hm)
    have e6 : x6 q0 = mdE x1 r28 r35 v9 v10 0 0 0 100 v23 v24 v25 v26 v27 v30 v32 v33 v34 := by rw [h10, h8, h6, h4, he]; rfl
    have T6 : RS D I P x6 x1 x2 := RS_md hT hm f6 e6 ⟨m1, m2, ⟨by decide, by decide⟩, ⟨by decide, by decide⟩, m5⟩ hK hM2
    have hB := hB2_ hT hc hcf hQ6
    have q6 : rfX x1 x2 x6 q1 Q := rfX_fr hT hc hcf hQ6 (rfX_W.mpr hq) (fun a ha => f6 a (fun e => by rw [e, hm] at ha; omega))
    obtain ⟨z1, z2⟩ := zr_tr T6 hm hc hcf hQ6 hP0 hQ40 (rfX_W.mp q6) hO hB hT100 h17
    have skZ := h11
    have e8 : x8 q0 = x6 q0 := h16
    obtain ⟨r, Z, r1, r2, r3⟩ := ga28_r (dp := dpt Q) hk1 hk2 h18 (pgZ Q) 100 0 1 (by decide) (Nat.le_refl _) (by decide) (rfX_W.mpr z1) (qZ hO hP0) hgi (ldT_Z hbl) ⟨rSk_k skZ (show rKd x1 q1 9 from hc) (by decide) (by decide), rSk_1 skZ (show rKd x1 q1 9 from hc) (by decide) hcf, rSk_k skZ (show rKd x1 q0 10 from hm) (by decide) (by decide), rSk_9 skZ, (h12).trans hQ6⟩ dptZ (by rw [e8, e6]; rfl) (by rw [e8, e6]; rfl)
    obtain ⟨y1, y2, y3, y4, y5, y6⟩ := r2 rfl
    rw [y1] at r1 y2
    refine ⟨Z, r1, Or.inl ⟨y2, fun hZ => ?_⟩⟩
    obtain ⟨w1, w2, w3, w4, w5⟩ := id y4
    obtain ⟨⟨k1, k2, k3, k4⟩, k5, k6⟩ := ga90_r (R := Z.1) (col := Z.2.1) hm hc hcf hZ.1 (fun v hv => by rw [← w4]; exact y5 v hv) (fun v hv => by have q := hZ.2.2.2.2 v hv; omega) h19 0 (by decide) (Nat.zero_le _) w5 (hf_0 y3)
    rw [← k2] at y4 w1 w2 w3 w5
    have sh := shr_r (R := rmP Z.1 Z.2.1) (sl := Z.2.2) k6 w3 w1 (by rw [w2]; exact w5) hZ.2.1.choose_spec.2.2.2.2.1 (qOk_rm hk2 hZ) k5 (by rw [k4]; exact y6) hZ.2.2.2.1 (soO_rm hZ.2.2.1) h24
    exact ⟨sh, y4⟩
  · intro x1 x2 x3 x4 x5 x6 x7 x8 x9 x10 x11 x12 x13 x14 h1 h2 h3 h4 h5 h6 h7 h8 h9 h10 h11 h12 h13 h14 h15 h16 h17 h18
    have eg := h1
    have ee := h2
    subst eg
    subst ee
    have f6 : ∀ a, a ≠ q0 → x6 a = F a := fun a ha => by rw [h9 a ha, h7 a ha, h5 a ha, h3 a ha]
    obtain ⟨r28, r35, v9, v10, v11, v12, v13, v14, v23, v24, v25, v26, v27, v30, v32, v33, v34, he, ⟨m1, m2, m3, m4, m5⟩, hK, hM2⟩ := rk10_m (show rk_10 x1 (F q0) from RS_o hT hm)
    have e6 : x6 q0 = mdE x1 r28 r35 v9 v10 0 0 0 100 v23 v24 v25 v26 v27 v30 v32 v33 v34 := by rw [h10, h8, h6, h4, he]; rfl
    have T6 : RS D I P x6 x1 x2 := RS_md hT hm f6 e6 ⟨m1, m2, ⟨by decide, by decide⟩, ⟨by decide, by decide⟩, m5⟩ hK hM2
    have hB := hB2_ hT hc hcf hQ6
    have q6 : rfX x1 x2 x6 q1 Q := rfX_fr hT hc hcf hQ6 (rfX_W.mpr hq) (fun a ha => f6 a (fun e => by rw [e, hm] at ha; omega))
    obtain ⟨z1, z2⟩ := zr_tr T6 hm hc hcf hQ6 hP0 hQ40 (rfX_W.mp q6) hO hB hT100 h17
    have skZ := h11
    have e8 : x8 q0 = x6 q0 := h16
    obtain ⟨r, Z, r1, r2, r3⟩ := ga28_r (dp := dpt Q) hk1 hk2 h18 (pgZ Q) 100 0 1 (by decide) (Nat.le_refl _) (by decide) (rfX_W.mpr z1) (qZ hO hP0) hgi (ldT_Z hbl) ⟨rSk_k skZ (show rKd x1 q1 9 from hc) (by decide) (by decide), rSk_1 skZ (show rKd x1 q1 9 from hc) (by decide) hcf, rSk_k skZ (show rKd x1 q0 10 from hm) (by decide) (by decide), rSk_9 skZ, (h12).trans hQ6⟩ dptZ (by rw [e8, e6]; rfl) (by rw [e8, e6]; rfl)
    rw [r3 (by decide)] at r1
    exact ⟨Z, r1, Or.inr (by decide)⟩
/-- what give answers, and what it leaves -/
def gvA (γ el : Nat → Nat → Nat) (F : Nat → va_E) (q0 p f : Nat) (Q : gPg) (a1 r err : Int32) : Prop := ((a1.toInt < 1 ∨ 32 < a1.toInt) ∧ err.toInt = 1) ∨ (1 ≤ a1.toInt ∧ a1.toInt ≤ 32 ∧ err.toInt = 0 ∧ ∃ Z, GVr a1.toInt (dpt Q) 40 1 (pgZ Q) 100 0 r.toInt Z ∧ ((r.toInt ≠ -1 ∧ (fI (F q0) 10).toInt ≠ 0 ∧ (okZ a1.toInt Z → rfX γ el F p (fnP Z) ∧ γ 6 f = (fnP Z).1)) ∨ (r.toInt = -1 ∧ (fI (F q0) 10).toInt = 0)))
theorem giv_r {fo : Nat} {q0 : Nat} {a1 : Int32} {p : Nat} {p2 : Nat} {o1 : Int32} {o2 : List Nat} {o3 : Nat → va_E} {o4 : Nat → Nat → Nat} {o5 : Nat → Nat → Nat} (hT : RS D I P F γ0 el0) (hm : γ0 0 q0 = 10) (hp9 : γ0 0 p = 9) (hpf : γ0 1 p = f) (ho9 : γ0 0 p2 = 9) (hof : γ0 1 p2 = fo) (hne : fo ≠ f) (hQ6 : γ0 6 fo = Q.1) (hq : rfP γ0 el0 F p2 Q) (hO : qOk Q) (hbl : ∀ b, b < Q.1 → blC (Q.2.1 b) (Q.2.2.1 b) (Q.2.2.2 b)) (hgi : gvI (pgZ Q) 100) (hQ40 : Q.1 ≤ 40) (hP0 : 0 < Q.1) (hT100 : ∀ v, 100 ≤ v → ¬ lz Q v) (hB2 : ∀ i, i < Q.1 → γ0 0 (el0 (γ0 14 p2) i) = 2) (h : tr_RModel_give D I γ0 el0 f fo P F q0 a1 p p2 o1 o2 o3 o4 o5) : (fI (F q0) 9).toInt ≠ 0 → gvA o4 o5 o3 q0 p f Q a1 o1 (fI (o3 q0) 30) := by
  refine h (fun o1 o2 o3 o4 o5 => (fI (F q0) 9).toInt ≠ 0 → gvA o4 o5 o3 q0 p f Q a1 o1 (fI (o3 q0) 30)) ?_ ?_ ?_ ?_ ?_
  · intro x1 x2 x3 x4 h1 h2 h3 h4 h5 h6 h7 h8 h9 h10
    intro h9
    have eg := h1
    have ee := h2
    subst eg
    subst ee
    have hk10 : rk_10 x1 (F q0) := RS_o hT hm
    have hT3 : RS D I P x3 x1 x2 := rs_30 hT hm h3 h4
    have hm3 : rk_10 x1 (x3 q0) := RS_o hT3 hm
    have e39 : fI (x3 q0) 9 = fI (F q0) 9 := by rw [h4]; exact (cF30 hk10).2 9 (by decide)
    have er : fI (x4 q0) 30 = 1 := by rw [no_tr h10]; exact (cF30 hm3).1
    rw [er]
    exact Or.inl ⟨by omega, by decide⟩
  · intro x1 x2 x3 x4 x5 x6 x7 x8 x9 x10 x11 x12 x13 x14 h1 h2 h3 h4 h5 h6 h7 h8 h9 h10 h11 h12 h13 h14 h15 h16 h17 h18 h19 h20 h21 h22 h23 h24
    intro h9
    have eg := h1
    have ee := h2
    subst eg
    subst ee
    have hk10 : rk_10 x1 (F q0) := RS_o hT hm
    have hT3 : RS D I P x3 x1 x2 := rs_30 hT hm h3 h4
    have hm3 : rk_10 x1 (x3 q0) := RS_o hT3 hm
    have e39 : fI (x3 q0) 9 = fI (F q0) 9 := by rw [h4]; exact (cF30 hk10).2 9 (by decide)
    have hs3 : rStr x1 [] F x3 := fun a ha hk _ => h3 a (fun e => by rw [e, hm] at hk; omega)
    have hq3 : rfP x1 x2 x3 p2 Q := rfP_rs hT hq ho9 hB2 hs3
    obtain ⟨c1, c2⟩ := cp_tr hT3 ho9 (by rw [hof]; exact hne) hp9 hpf hq3 hB2 h16
    have sk := h11
    have T6 : RS D I x5 x6 x7 x8 := sk.1
    have m6 : x7 0 q0 = 10 := rSk_k sk (show rKd x1 q0 10 from hm) (by decide) (by decide)
    have p6 : x7 0 p = 9 := rSk_k sk (show rKd x1 p 9 from hp9) (by decide) (by decide)
    have pf6 : x7 1 p = f := rSk_1 sk (show rKd x1 p 9 from hp9) (by decide) hpf
    have g := gal_r (Q := Q) T6 m6 p6 pf6 ((h12).trans hQ6) (rfP_w hbl c1) hO hbl hgi hQ40 hP0 hT100 h5 h6 h21
    have skG := h18
    have eq6 : x6 q0 = x3 q0 := rSk_F sk (show rKd x1 q0 10 from hm) (by decide) (by decide)
    have m11 : x11 0 q0 = 10 := rSk_k skG (show rKd x7 q0 10 from m6) (by decide) (by decide)
    have T10 : RS D I x9 x10 x11 x12 := skG.1
    obtain ⟨r28, r35, v9, v10, v11, v12, v13, v14, v23, v24, v25, v26, v27, v30, v32, v33, v34, he, -⟩ := rk10_m (show rk_10 x11 (x10 q0) from RS_o T10 m11)
    have er : fI (x14 q0) 30 = fI (x10 q0) 30 := by rw [h24, he]; rfl
    have e30 : (fI (x10 q0) 30).toInt = 0 := by rw [mKp_30 h20, eq6, h4, (cF30 hk10).1]; decide
    rw [er]
    have e10 : fI (x14 q0) 10 = 0 := by rw [h24, he]; rfl
    obtain ⟨Z, g1, g2⟩ := g
    refine Or.inr ⟨h5, h6, e30, Z, g1, ?_⟩
    rcases g2 with ⟨g2, g3⟩ | g2
    · have := h22; omega
    · exact Or.inr ⟨g2, by rw [e10]; decide⟩
  · intro x1 x2 x3 x4 x5 x6 x7 x8 x9 x10 x11 x12 x13 x14 h1 h2 h3 h4 h5 h6 h7 h8 h9 h10 h11 h12 h13 h14 h15 h16 h17 h18 h19 h20 h21 h22 h23 h24
    intro h9
    have eg := h1
    have ee := h2
    subst eg
    subst ee
    have hk10 : rk_10 x1 (F q0) := RS_o hT hm
    have hT3 : RS D I P x3 x1 x2 := rs_30 hT hm h3 h4
    have hm3 : rk_10 x1 (x3 q0) := RS_o hT3 hm
    have e39 : fI (x3 q0) 9 = fI (F q0) 9 := by rw [h4]; exact (cF30 hk10).2 9 (by decide)
    have hs3 : rStr x1 [] F x3 := fun a ha hk _ => h3 a (fun e => by rw [e, hm] at hk; omega)
    have hq3 : rfP x1 x2 x3 p2 Q := rfP_rs hT hq ho9 hB2 hs3
    obtain ⟨c1, c2⟩ := cp_tr hT3 ho9 (by rw [hof]; exact hne) hp9 hpf hq3 hB2 h16
    have sk := h11
    have T6 : RS D I x5 x6 x7 x8 := sk.1
    have m6 : x7 0 q0 = 10 := rSk_k sk (show rKd x1 q0 10 from hm) (by decide) (by decide)
    have p6 : x7 0 p = 9 := rSk_k sk (show rKd x1 p 9 from hp9) (by decide) (by decide)
    have pf6 : x7 1 p = f := rSk_1 sk (show rKd x1 p 9 from hp9) (by decide) hpf
    have g := gal_r (Q := Q) T6 m6 p6 pf6 ((h12).trans hQ6) (rfP_w hbl c1) hO hbl hgi hQ40 hP0 hT100 h5 h6 h21
    have skG := h18
    have eq6 : x6 q0 = x3 q0 := rSk_F sk (show rKd x1 q0 10 from hm) (by decide) (by decide)
    have m11 : x11 0 q0 = 10 := rSk_k skG (show rKd x7 q0 10 from m6) (by decide) (by decide)
    have T10 : RS D I x9 x10 x11 x12 := skG.1
    obtain ⟨r28, r35, v9, v10, v11, v12, v13, v14, v23, v24, v25, v26, v27, v30, v32, v33, v34, he, -⟩ := rk10_m (show rk_10 x11 (x10 q0) from RS_o T10 m11)
    have er : fI (x14 q0) 30 = fI (x10 q0) 30 := by rw [h24, he]; rfl
    have e30 : (fI (x10 q0) 30).toInt = 0 := by rw [mKp_30 h20, eq6, h4, (cF30 hk10).1]; decide
    rw [er]
    have e10 : fI (x14 q0) 10 = 1 := by rw [h24, he]; rfl
    obtain ⟨Z, g1, g2⟩ := g
    refine Or.inr ⟨h5, h6, e30, Z, g1, ?_⟩
    rcases g2 with ⟨g2, g3⟩ | g2
    · refine Or.inl ⟨by omega, by rw [e10]; decide, fun hZ => ?_⟩
      obtain ⟨y1, y2⟩ := g3 hZ
      have c9 : x11 0 p = 9 := y2.1
      have c1f : x11 1 p = f := y2.2.1
      exact ⟨rfX_fr T10 c9 c1f (by exact y2.2.2.2.2) y1 (fun a ha => h23 a (fun e => by rw [e, m11] at ha; omega)), y2.2.2.2.2⟩
    · have := h22; omega
  · intro x1 x2 x3 x4 x5 h1 h2 h3 h4 h5 h6 h7 h8 h9 h10 h11 h12 h13
    intro h9
    have eg := h1
    have ee := h2
    subst eg
    subst ee
    have hk10 : rk_10 x1 (F q0) := RS_o hT hm
    have hT3 : RS D I P x3 x1 x2 := rs_30 hT hm h3 h4
    have hm3 : rk_10 x1 (x3 q0) := RS_o hT3 hm
    have e39 : fI (x3 q0) 9 = fI (F q0) 9 := by rw [h4]; exact (cF30 hk10).2 9 (by decide)
    rw [← e39, h7] at h9
    exact absurd h8 h9
  · intro x1 x2 x3 x4 h1 h2 h3 h4 h5 h6 h7 h8 h9 h10 h11
    intro h9
    have eg := h1
    have ee := h2
    subst eg
    subst ee
    have hk10 : rk_10 x1 (F q0) := RS_o hT hm
    have hT3 : RS D I P x3 x1 x2 := rs_30 hT hm h3 h4
    have hm3 : rk_10 x1 (x3 q0) := RS_o hT3 hm
    have e39 : fI (x3 q0) 9 = fI (F q0) 9 := by rw [h4]; exact (cF30 hk10).2 9 (by decide)
    have er : fI (x4 q0) 30 = 1 := by rw [no_tr h11]; exact (cF30 hm3).1
    rw [er]
    exact Or.inl ⟨by omega, by decide⟩
end GZR
end
section
/-! what the model's methods keep of its cell -/
section Q9
variable {D : va_G} {I : FieldType → ClassId} {P : List Nat} {F : Nat → va_E} {γ el : Nat → Nat → Nat} {q0 : Nat}
/-- INPUT's array and the latest RUN -/
def kq9 (γ : Nat → Nat → Nat) (e e1 : va_E) : Prop := isMd γ e1 ∧ ((fR e1 28, fI e1 34), fI e1 23, fI e1 24, fI e1 25, fI e1 26, fI e1 27) = ((fR e 28, fI e 34), fI e 23, fI e 24, fI e 25, fI e 26, fI e 27)
theorem kq9_r {e : va_E} (h : isMd γ e) : kq9 γ e e := ⟨h, rfl⟩
theorem kq9_t {e e1 e2 : va_E} (h : kq9 γ e e1) (g : kq9 γ e1 e2) : kq9 γ e e2 := ⟨g.1, g.2.trans h.2⟩
theorem kq9_e {e e1 e2 : va_E} (h : kq9 γ e e1) (g : e2 = e1) : kq9 γ e e2 := by rw [g]; exact h
theorem kq9_28 {e e1 : va_E} (h : kq9 γ e e1) : fR e1 28 = fR e 28 := congrArg (fun z => z.1.1) h.2
theorem kq9_30 {e e1 e2 : va_E} {y : Int32} (h : kq9 γ e e1) (he : e2 = cF e1 30 (.int y)) : kq9 γ e e2 := by
  refine kq9_t h ?_
  obtain ⟨r28, r35, v9, v10, v11, v12, v13, v14, v23, v24, v25, v26, v27, v30, v32, v33, v34, h0⟩ := h.1
  have h1 : e2 = mdE γ r28 r35 v9 v10 v11 v12 v13 v14 v23 v24 v25 v26 v27 y v32 v33 v34 := by rw [he, h0]; rfl
  rw [h1, h0]
  exact ⟨⟨_, _, _, _, _, _, _, _, _, _, _, _, _, _, _, _, _, rfl⟩, rfl⟩
theorem kq9_32 {e e1 e2 : va_E} {y : Int32} (h : kq9 γ e e1) (he : e2 = cF e1 32 (.int y)) : kq9 γ e e2 := by
  refine kq9_t h ?_
  obtain ⟨r28, r35, v9, v10, v11, v12, v13, v14, v23, v24, v25, v26, v27, v30, v32, v33, v34, h0⟩ := h.1
  have h1 : e2 = mdE γ r28 r35 v9 v10 v11 v12 v13 v14 v23 v24 v25 v26 v27 v30 y v33 v34 := by rw [he, h0]; rfl
  rw [h1, h0]
  exact ⟨⟨_, _, _, _, _, _, _, _, _, _, _, _, _, _, _, _, _, rfl⟩, rfl⟩
theorem no9 {a1 : Int32} {o1 : Nat → va_E} (h : tr_RModel_no D I γ el F q0 a1 o1) : o1 q0 = cF (F q0) 30 (.int a1) := by
  refine h (fun o1 => o1 q0 = cF (F q0) 30 (.int a1)) ?_
  · intro x1 h1 h2
    exact h2
theorem wd2_9 {a2 : Int32} {a1 : Int32} {s1 : Nat → va_E} {s2 : Int32} {k : Nat} {e1 : Nat → va_E} (h : tl_RModel_word_2 D I γ el P F q0 a2 a1 s1 s2 k e1) : ∀ b, b ≠ γ 9 31 → e1 b = s1 b := by
  refine h (fun s1 s2 _ e1 => ∀ b, b ≠ γ 9 31 → e1 b = s1 b) ?_ ?_
  · intro F_1 l3_1 h1 h2 h3 h4 h5 h6 h7 h8
    exact fun _ _ => rfl
  · intro F_1 l3_1 x1 x2 x3 x4 x5 x6 x7 x8 x9 k e1 h1 h2 h3 h4 h5 h6 h7 h8 h9 h10 h11 h12 h13 h14 h15 h16 h17 h18 h19 ih
    exact fun b hb => (ih b hb).trans (h17 b hb)
theorem wd_9 {a1 : Int32} {a2 : Int32} {o1 : Nat → va_E} (h : tr_RModel_word D I γ el P F q0 a1 a2 o1) : ∀ b, b ≠ γ 9 31 → o1 b = F b := by
  refine h (fun o1 => ∀ b, b ≠ γ 9 31 → o1 b = F b) ?_
  · intro x1 h1
    exact wd2_9 h1
theorem told_9 {a1 : Int32} {o1 : Int32} {o2 : Nat → va_E} (hM : isMd γ (F q0)) (n31 : q0 ≠ γ 9 31) (h : tr_RModel_told D I γ el P F q0 a1 o1 o2) : kq9 γ (F q0) (o2 q0) := by
  refine h (fun o1 o2 => kq9 γ (F q0) (o2 q0)) ?_ ?_ ?_ ?_ ?_ ?_ ?_
  · intro x1 x2 h1 h2 h3 h4 h5
    exact (kq9_30 (kq9_r hM) h2)
  · intro x1 x2 x3 h1 h2 h3 h4 h5 h6
    exact (kq9_30 (kq9_r hM) h2)
  · intro x1 x2 h1 h2 h3 h4
    exact (kq9_30 (kq9_r hM) h2)
  · intro x1 x2 h1 h2 h3 h4
    exact (kq9_30 (kq9_r hM) h2)
  · intro x1 x2 h1 h2 h3 h4
    exact (kq9_30 (kq9_r hM) h2)
  · intro x1 x2 h1 h2 h3 h4
    exact (kq9_30 (kq9_r hM) h2)
  · intro x1 x2 h1 h2 h3 h4 h5 h6 h7 h8 h9 h10 h11 h12 h13 h14
    exact (kq9_30 (kq9_30 (kq9_r hM) h2) (no9 h14))
theorem shown_9 {a1 : Int32} {o1 : Int32} {o2 : Nat → va_E} (hM : isMd γ (F q0)) (n31 : q0 ≠ γ 9 31) (h : tr_RModel_shown D I γ el P F q0 a1 o1 o2) : kq9 γ (F q0) (o2 q0) := by
  refine h (fun o1 o2 => kq9 γ (F q0) (o2 q0)) ?_ ?_ ?_
  · intro x1 x2 h1 h2 h3 h4 h5 h6 h7 h8 h9 h10
    exact (kq9_30 (kq9_30 (kq9_r hM) h2) (no9 h10))
  · intro x1 x2 x3 h1 h2 h3 h4 h5 h6 h7 h8 h9 h10 h11 h12
    exact (kq9_30 (kq9_30 (kq9_r hM) h2) (no9 h12))
  · intro x1 x2 x3 x4 h1 h2 h3 h4 h5 h6 h7 h8
    exact (kq9_30 (kq9_r hM) h2)
theorem word_9 {a1 : Int32} {o1 : Int64} {o2 : Nat → va_E} (hM : isMd γ (F q0)) (n31 : q0 ≠ γ 9 31) (h : tr_RModel_word2 D I γ el P F q0 a1 o1 o2) : kq9 γ (F q0) (o2 q0) := by
  refine h (fun o1 o2 => kq9 γ (F q0) (o2 q0)) ?_ ?_ ?_
  · intro x1 x2 x3 h1 h2 h3 h4 h5 h6 h7 h8 h9 h10 h11
    exact (kq9_30 (kq9_30 (kq9_r hM) h2) (no9 h10))
  · intro x1 x2 x3 h1 h2 h3 h4 h5 h6
    exact (kq9_30 (kq9_r hM) h2)
  · intro x1 x2 x3 x4 h1 h2 h3 h4 h5 h6 h7 h8 h9 h10 h11 h12 h13
    exact (kq9_30 (kq9_30 (kq9_r hM) h2) (no9 h12))
theorem count_9 {a1 : Int32} {o1 : Int32} {o2 : Nat → va_E} (hM : isMd γ (F q0)) (n31 : q0 ≠ γ 9 31) (h : tr_RModel_count2 D I γ el P F q0 a1 o1 o2) : kq9 γ (F q0) (o2 q0) := by
  refine h (fun o1 o2 => kq9 γ (F q0) (o2 q0)) ?_ ?_ ?_ ?_ ?_ ?_ ?_ ?_ ?_ ?_ ?_ ?_ ?_ ?_ ?_ ?_ ?_ ?_ ?_ ?_ ?_ ?_
  · intro x1 x2 h1 h2 h3 h4 h5
    exact (kq9_30 (kq9_r hM) h2)
  · intro x1 x2 x3 h1 h2 h3 h4 h5 h6 h7
    exact (kq9_30 (kq9_r hM) h2)
  · intro x1 x2 h1 h2 h3 h4 h5
    exact (kq9_30 (kq9_r hM) h2)
  · intro x1 x2 x3 h1 h2 h3 h4 h5 h6 h7
    exact (kq9_30 (kq9_r hM) h2)
  · intro x1 x2 h1 h2 h3 h4
    exact (kq9_30 (kq9_r hM) h2)
  · intro x1 x2 h1 h2 h3 h4
    exact (kq9_30 (kq9_r hM) h2)
  · intro x1 x2 h1 h2 h3 h4
    exact (kq9_30 (kq9_r hM) h2)
  · intro x1 x2 h1 h2 h3 h4 h5
    exact (kq9_30 (kq9_r hM) h2)
  · intro x1 x2 x3 h1 h2 h3 h4 h5 h6 h7
    exact (kq9_30 (kq9_r hM) h2)
  · intro x1 x2 h1 h2 h3 h4 h5
    exact (kq9_30 (kq9_r hM) h2)
  · intro x1 x2 x3 x4 h1 h2 h3 h4 h5 h6 h7 h8 h9
    exact (kq9_e (kq9_30 (kq9_r hM) h2) h8)
  · intro x1 x2 h1 h2 h3 h4 h5
    exact (kq9_30 (kq9_r hM) h2)
  · intro x1 x2 x3 h1 h2 h3 h4 h5 h6
    exact (kq9_30 (kq9_r hM) h2)
  · intro x1 x2 h1 h2 h3 h4 h5
    exact (kq9_30 (kq9_r hM) h2)
  · intro x1 x2 x3 h1 h2 h3 h4 h5 h6
    exact (kq9_30 (kq9_r hM) h2)
  · intro x1 x2 h1 h2 h3 h4 h5
    exact (kq9_30 (kq9_r hM) h2)
  · intro x1 x2 x3 h1 h2 h3 h4 h5 h6
    exact (kq9_30 (kq9_r hM) h2)
  · intro x1 x2 h1 h2 h3 h4 h5
    exact (kq9_30 (kq9_r hM) h2)
  · intro x1 x2 x3 h1 h2 h3 h4 h5 h6 h7
    exact (kq9_30 (kq9_r hM) h2)
  · intro x1 x2 h1 h2 h3 h4 h5
    exact (kq9_30 (kq9_r hM) h2)
  · intro x1 x2 x3 h1 h2 h3 h4 h5 h6 h7
    exact (kq9_30 (kq9_r hM) h2)
  · intro x1 x2 h1 h2 h3 h4 h5 h6 h7 h8 h9 h10 h11 h12 h13 h14 h15 h16 h17 h18 h19 h20 h21
    exact (kq9_30 (kq9_30 (kq9_r hM) h2) (no9 h21))
theorem end_9 {a1 : Int32} {o1 : Int32} {o2 : Nat → va_E} (hM : isMd γ (F q0)) (n31 : q0 ≠ γ 9 31) (h : tr_RModel_end D I γ el P F q0 a1 o1 o2) : kq9 γ (F q0) (o2 q0) := by
  refine h (fun o1 o2 => kq9 γ (F q0) (o2 q0)) ?_ ?_ ?_
  · intro x1 x2 h1 h2 h3 h4 h5 h6 h7 h8 h9 h10
    exact (kq9_30 (kq9_30 (kq9_r hM) h2) (no9 h10))
  · intro x1 x2 x3 h1 h2 h3 h4 h5 h6 h7
    exact (kq9_32 (kq9_30 (kq9_r hM) h2) h7)
  · intro x1 x2 x3 h1 h2 h3 h4 h5 h6 h7 h8 h9 h10 h11 h12
    exact (kq9_30 (kq9_30 (kq9_r hM) h2) (no9 h12))
theorem feed_9 {a1 : Int32} {a2 : Int32} {a3 : Int32} {a4 : Int32} {a5 : Int32} {o1 : Int32} {o2 : Nat → va_E} (hM : isMd γ (F q0)) (n31 : q0 ≠ γ 9 31) (h : tr_RModel_feed D I γ el P F q0 a1 a2 a3 a4 a5 o1 o2) : kq9 γ (F q0) (o2 q0) := by
  refine h (fun o1 o2 => kq9 γ (F q0) (o2 q0)) ?_ ?_
  · intro x1 x2 x3 x4 x5 x6 x7 x8 x9 x10 x11 x12 x13 x14 x15 x16 x17 x18 x19 h1 h2 h3 h4 h5 h6 h7 h8 h9 h10 h11 h12 h13 h14 h15 h16 h17 h18 h19 h20 h21 h22 h23 h24 h25 h26 h27 h28 h29 h30 h31 h32 h33 h34 h35 h36 h37 h38 h39 h40 h41 h42 h43 h44 h45 h46 h47 h48 h49 h50 h51 h52 h53
    exact (kq9_32 (kq9_e (kq9_e (kq9_e (kq9_e (kq9_e (kq9_30 (kq9_r hM) h2) (wd_9 h12 _ n31)) (wd_9 h21 _ n31)) (wd_9 h30 _ n31)) (wd_9 h39 _ n31)) (wd_9 h48 _ n31)) h52)
  · intro x1 x2 x3 x4 h1 h2 h3 h4 h5 h6 h7 h8 h9 h10 h11 h12
    exact (kq9_30 (kq9_30 (kq9_r hM) h2) (no9 h12))
/-- told: the answer -/
def tdM (F : Nat → va_E) (m : Nat) (a1 z : Int32) (F1 : Nat → va_E) : Prop := ((a1.toInt < 0 ∨ 4 < a1.toInt) ∧ (fI (F1 m) 30).toInt = 1) ∨ ((fI (F1 m) 30).toInt = 0 ∧ ((a1.toInt = 0 ∧ (((fI (F m) 23).toInt ≠ 0 ∧ z = 0) ∨ ((fI (F m) 23).toInt = 0 ∧ z = fI (F m) 24))) ∨ (a1.toInt = 1 ∧ z = fI (F m) 25) ∨ (a1.toInt = 2 ∧ z = fI (F m) 26) ∨ (a1.toInt = 3 ∧ z = fI (F m) 27) ∨ (a1.toInt = 4 ∧ z = fI (F m) 23)))
theorem told_r {a1 : Int32} {o1 : Int32} {o2 : Nat → va_E} (hM : isMd γ (F q0)) (h : tr_RModel_told D I γ el P F q0 a1 o1 o2) : tdM F q0 a1 o1 o2 := by
  refine h (fun o1 o2 => tdM F q0 a1 o1 o2) ?_ ?_ ?_ ?_ ?_ ?_ ?_
  · intro x1 x2 h1 h2 h3 h4 h5
    obtain ⟨b30, b9, b10, b11, b23, b24, b25, b26, b27, b32, b34, br, bm⟩ := cm30 hM h2
    exact Or.inr ⟨by rw [b30]; decide, Or.inl ⟨h3, Or.inl ⟨by rw [← b23, h4]; exact h5, rfl⟩⟩⟩
  · intro x1 x2 x3 h1 h2 h3 h4 h5 h6
    obtain ⟨b30, b9, b10, b11, b23, b24, b25, b26, b27, b32, b34, br, bm⟩ := cm30 hM h2
    exact Or.inr ⟨by rw [b30]; decide, Or.inl ⟨h3, Or.inr ⟨by rw [← b23, h4]; exact h5, by rw [← b24]; exact h6.symm⟩⟩⟩
  · intro x1 x2 h1 h2 h3 h4
    obtain ⟨b30, b9, b10, b11, b23, b24, b25, b26, b27, b32, b34, br, bm⟩ := cm30 hM h2
    exact Or.inr ⟨by rw [b30]; decide, Or.inr (Or.inl ⟨h3, by rw [← b25]; exact h4.symm⟩)⟩
  · intro x1 x2 h1 h2 h3 h4
    obtain ⟨b30, b9, b10, b11, b23, b24, b25, b26, b27, b32, b34, br, bm⟩ := cm30 hM h2
    exact Or.inr ⟨by rw [b30]; decide, Or.inr (Or.inr (Or.inl ⟨h3, by rw [← b26]; exact h4.symm⟩))⟩
  · intro x1 x2 h1 h2 h3 h4
    obtain ⟨b30, b9, b10, b11, b23, b24, b25, b26, b27, b32, b34, br, bm⟩ := cm30 hM h2
    exact Or.inr ⟨by rw [b30]; decide, Or.inr (Or.inr (Or.inr (Or.inl ⟨h3, by rw [← b27]; exact h4.symm⟩)))⟩
  · intro x1 x2 h1 h2 h3 h4
    obtain ⟨b30, b9, b10, b11, b23, b24, b25, b26, b27, b32, b34, br, bm⟩ := cm30 hM h2
    exact Or.inr ⟨by rw [b30]; decide, Or.inr (Or.inr (Or.inr (Or.inr (⟨h3, by rw [← b23]; exact h4.symm⟩))))⟩
  · intro x1 x2 h1 h2 h3 h4 h5 h6 h7 h8 h9 h10 h11 h12 h13 h14
    exact Or.inl ⟨by omega, h13⟩
/-- shown: the answer -/
def shM (γ : Nat → Nat → Nat) (F : Nat → va_E) (m : Nat) (a1 z : Int32) (F1 : Nat → va_E) : Prop := ((a1.toInt < 0 ∨ (fI (F m) 25).toInt ≤ a1.toInt) ∧ (fI (F1 m) 30).toInt = 1) ∨ ((0 ≤ a1.toInt ∧ a1.toInt < (fI (F m) 25).toInt) ∧ (fI (F1 m) 30).toInt = 0 ∧ z = cB (F (γ 9 22)) a1.toInt.toNat)
theorem shn_r {a1 : Int32} {o1 : Int32} {o2 : Nat → va_E} (hM : isMd γ (F q0)) (n22 : γ 9 22 ≠ q0) (h : tr_RModel_shown D I γ el P F q0 a1 o1 o2) : shM γ F q0 a1 o1 o2 := by
  refine h (fun o1 o2 => shM γ F q0 a1 o1 o2) ?_ ?_ ?_
  · intro x1 x2 h1 h2 h3 h4 h5 h6 h7 h8 h9 h10
    obtain ⟨b30, b9, b10, b11, b23, b24, b25, b26, b27, b32, b34, br, bm⟩ := cm30 hM h2
    exact Or.inl ⟨Or.inl h3, h9⟩
  · intro x1 x2 x3 h1 h2 h3 h4 h5 h6 h7 h8 h9 h10 h11 h12
    obtain ⟨b30, b9, b10, b11, b23, b24, b25, b26, b27, b32, b34, br, bm⟩ := cm30 hM h2
    have e5 := h4
    rw [b25] at e5
    exact Or.inl ⟨Or.inr (by rw [e5]; exact h5), h11⟩
  · intro x1 x2 x3 x4 h1 h2 h3 h4 h5 h6 h7 h8
    obtain ⟨b30, b9, b10, b11, b23, b24, b25, b26, b27, b32, b34, br, bm⟩ := cm30 hM h2
    have e5 := h4
    rw [b25] at e5
    have ec : cB (F (γ 9 22)) = x3 := by rw [← h1 _ n22]; exact cB_of h7
    refine Or.inr ⟨⟨h3, by rw [e5]; exact h5⟩, by rw [b30]; decide, ?_⟩
    rw [ec]; exact h8
/-- word: the answer -/
def wdM (F : Nat → va_E) (m : Nat) (a1 : Int32) (z : Int64) (F1 : Nat → va_E) : Prop := ((a1.toInt < 0 ∨ (fI (F m) 34).toInt ≤ a1.toInt) ∧ (fI (F1 m) 30).toInt = 1) ∨ ((0 ≤ a1.toInt ∧ a1.toInt < (fI (F m) 34).toInt) ∧ (fI (F1 m) 30).toInt = 0 ∧ z = w8 (cB (F (fR (F m) 35))) (fI (F m) 34).toInt.toNat a1.toInt.toNat 8)
theorem w29_r {a1 : Int32} {c1 : Nat → va_E} {s1 : Int32} {s2 : Int64} {k : Nat} {e1 : Int64} (h : tl_RModel_word2_29 D I γ el a1 c1 q0 s1 s2 k e1) : ∀ i j n : Nat, a1.toInt = (i : Int) → (fI (c1 q0) 34).toInt = (n : Int) → j ≤ 8 → s1.toInt = (j : Int) → s2 = w8 (cB (c1 (fR (c1 q0) 35))) n i j → e1 = w8 (cB (c1 (fR (c1 q0) 35))) n i 8 := by
  refine h (fun s1 s2 _ e1 => ∀ i j n : Nat, a1.toInt = (i : Int) → (fI (c1 q0) 34).toInt = (n : Int) → j ≤ 8 → s1.toInt = (j : Int) → s2 = w8 (cB (c1 (fR (c1 q0) 35))) n i j → e1 = w8 (cB (c1 (fR (c1 q0) 35))) n i 8) ?_ ?_ ?_
  · intro l4_1 l2_1 h1 h2
    intro i j n hi hn hj hs hw
    have e : j = 8 := by omega
    rw [e] at hw
    exact hw
  · intro l4_1 l2_1 x1 x2 x3 x4 x5 x6 k e1 h1 h2 h3 h4 h5 h6 h7 h8 h9 ih
    intro i j n hi hn hj hs hw
    have e34 := h5
    rw [e34] at hn
    refine ih i (j + 1) n hi (by rw [e34]; exact hn) (by omega) (by omega) ?_
    show _ = w8 (cB (c1 (fR (c1 q0) 35))) n i j <<< ((8 : Int32).toInt64 &&& 63) ||| (if i + j < n then (cB (c1 (fR (c1 q0) 35)) (i + j) &&& 255).toInt64 else 0)
    rw [if_neg (by omega), h8, h3, hw, h7]; rfl
  · intro l4_1 l2_1 x1 x2 x3 x4 x5 x6 x7 x8 x9 x10 x11 x12 k e1 h1 h2 h3 h4 h5 h6 h7 h8 h9 h10 h11 h12 h13 h14 h15 ih
    intro i j n hi hn hj hs hw
    have e34 := h5
    rw [e34] at hn
    refine ih i (j + 1) n hi (by rw [e34]; exact hn) (by omega) (by omega) ?_
    show _ = w8 (cB (c1 (fR (c1 q0) 35))) n i j <<< ((8 : Int32).toInt64 &&& 63) ||| (if i + j < n then (cB (c1 (fR (c1 q0) 35)) (i + j) &&& 255).toInt64 else 0)
    have ec : cB (c1 (fR (c1 q0) 35)) = x6 := by rw [h7]; exact cB_of h9
    rw [if_pos (by omega), h14, h3, hw, h13, h12, h10, ec, nnE (show x5.toInt = ((i + j : Nat) : Int) by omega)]
theorem wrd_r {a1 : Int32} {o1 : Int64} {o2 : Nat → va_E} (hM : isMd γ (F q0)) (n35 : fR (F q0) 35 ≠ q0) (h : tr_RModel_word2 D I γ el P F q0 a1 o1 o2) : wdM F q0 a1 o1 o2 := by
  have r35 : ∀ {e1 : va_E} {y : Int32}, e1 = cF (F q0) 30 (.int y) → fR e1 35 = fR (F q0) 35 := fun he => by
    obtain ⟨r28, r35, v9, v10, v11, v12, v13, v14, v23, v24, v25, v26, v27, v30, v32, v33, v34, h0⟩ := hM
    rw [he, h0]; rfl
  refine h (fun o1 o2 => wdM F q0 a1 o1 o2) ?_ ?_ ?_
  · intro x1 x2 x3 h1 h2 h3 h4 h5 h6 h7 h8 h9 h10 h11
    obtain ⟨b30, b9, b10, b11, b23, b24, b25, b26, b27, b32, b34, br, bm⟩ := cm30 hM h2
    exact Or.inl ⟨Or.inl h3, h9⟩
  · intro x1 x2 x3 h1 h2 h3 h4 h5 h6
    obtain ⟨b30, b9, b10, b11, b23, b24, b25, b26, b27, b32, b34, br, bm⟩ := cm30 hM h2
    have e5 := h4
    have w := w29_r h6 a1.toInt.toNat 0 (fI (x1 q0) 34).toInt.toNat (by have := h3; omega) (by rw [e5]; have := h3; have := h5; omega) (by decide) (by decide) rfl
    rw [r35 h2, h1 _ n35, b34] at w
    rw [b34] at e5
    exact Or.inr ⟨⟨h3, by rw [e5]; exact h5⟩, by rw [b30]; decide, w⟩
  · intro x1 x2 x3 x4 h1 h2 h3 h4 h5 h6 h7 h8 h9 h10 h11 h12 h13
    obtain ⟨b30, b9, b10, b11, b23, b24, b25, b26, b27, b32, b34, br, bm⟩ := cm30 hM h2
    have e5 := h4
    rw [b34] at e5
    exact Or.inl ⟨Or.inr (by rw [e5]; exact h5), h11⟩
end Q9
end
section
/-! how long a listing is -/
section WT
variable {so : Nat → Int} {x : Int} {l g : Nat → Int} {Q R P : gPg} {nm b j v n : Nat} {s : gSp6} {k : Int} {w : (Nat → Int) → Nat} {dp : Nat → Nat}
/-- letters of an operand, of a line, at most; and what its registers may cost in loads and stores -/
def cwO (x : Int) : Nat := if 0 ≤ x then 3 else 11
def cwL (l : Nat → Int) : Nat := if l 0 ≤ 13 then 11 + cwO (l 2) + cwO (l 4) else if l 0 = 14 then 7 + cwO (l 2) else if l 0 = 15 then 9 else if l 0 = 16 then 6 + cwO (l 2) else if l 0 ≤ 18 then 14 else if l 0 = 19 then 9 else if l 0 = 20 then 12 + cwO (l 2) else 5 + cwO (l 2)
def cwt (l : Nat → Int) : Nat := cwL l + 14 * occ l
def wsm (w : (Nat → Int) → Nat) (Q : gPg) : Nat := fsm (fun b => fsm (fun j => w (Q.2.2.1 b j)) (Q.2.1 b)) Q.1
theorem wsm_L (h : 0 < Q.1) : wsm w (pgL Q l) = wsm w Q + w l := by
  obtain ⟨m, em⟩ : ∃ m, Q.1 = m + 1 := ⟨Q.1 - 1, by omega⟩
  unfold wsm
  show fsm (fun b => fsm (fun j => w (if b + 1 = Q.1 ∧ j = Q.2.1 b then l else Q.2.2.1 b j)) (if b + 1 = Q.1 then Q.2.1 b + 1 else Q.2.1 b)) Q.1 = _
  rw [em]
  show fsm (fun b => fsm (fun j => w (if b + 1 = m + 1 ∧ j = Q.2.1 b then l else Q.2.2.1 b j)) (if b + 1 = m + 1 then Q.2.1 b + 1 else Q.2.1 b)) m + fsm (fun j => w (if m + 1 = m + 1 ∧ j = Q.2.1 m then l else Q.2.2.1 m j)) (if m + 1 = m + 1 then Q.2.1 m + 1 else Q.2.1 m) = fsm (fun b => fsm (fun j => w (Q.2.2.1 b j)) (Q.2.1 b)) m + fsm (fun j => w (Q.2.2.1 m j)) (Q.2.1 m) + w l
  rw [if_pos rfl]
  have e1 : fsm (fun b => fsm (fun j => w (if b + 1 = m + 1 ∧ j = Q.2.1 b then l else Q.2.2.1 b j)) (if b + 1 = m + 1 then Q.2.1 b + 1 else Q.2.1 b)) m = fsm (fun b => fsm (fun j => w (Q.2.2.1 b j)) (Q.2.1 b)) m := by
    refine fsm_c (fun c hc => ?_)
    rw [if_neg (show ¬ c + 1 = m + 1 by omega)]
    exact fsm_c (fun j hj => by rw [if_neg (fun z => by omega)])
  have e2 : fsm (fun j => w (if m + 1 = m + 1 ∧ j = Q.2.1 m then l else Q.2.2.1 m j)) (Q.2.1 m + 1) = fsm (fun j => w (Q.2.2.1 m j)) (Q.2.1 m) + w l := by
    show fsm (fun j => w (if m + 1 = m + 1 ∧ j = Q.2.1 m then l else Q.2.2.1 m j)) (Q.2.1 m) + w (if m + 1 = m + 1 ∧ Q.2.1 m = Q.2.1 m then l else Q.2.2.1 m (Q.2.1 m)) = _
    rw [if_pos ⟨rfl, rfl⟩]
    congr 1
    exact fsm_c (fun j hj => by rw [if_neg (fun z => by omega)])
  rw [e1, e2]
  omega
theorem wsm_OL : wsm w (pgOL Q R) = wsm w R := by
  unfold wsm
  show fsm (fun b => fsm (fun j => w (R.2.2.1 b j)) (if b = R.1 then 0 else R.2.1 b)) R.1 + fsm (fun j => w (R.2.2.1 R.1 j)) (if R.1 = R.1 then 0 else R.2.1 R.1) = _
  rw [if_pos rfl]
  show fsm (fun b => fsm (fun j => w (R.2.2.1 b j)) (if b = R.1 then 0 else R.2.1 b)) R.1 + 0 = _
  rw [Nat.add_zero]
  exact fsm_c (fun c hc => by rw [if_neg (show ¬ c = R.1 by omega)])
theorem cwO_e {y : Int} (h : (0 ≤ x ∧ 0 ≤ y) ∨ (x < 0 ∧ y < 0)) : cwO x = cwO y := by
  unfold cwO
  rcases h with ⟨a, c⟩ | ⟨a, c⟩
  · rw [if_pos a, if_pos c]
  · rw [if_neg (by omega), if_neg (by omega)]
theorem cwL_e {m : Nat → Int} (h0 : m 0 = l 0) (h2 : cwO (m 2) = cwO (l 2)) (h4 : cwO (m 4) = cwO (l 4)) : cwL m = cwL l := by
  unfold cwL
  rw [h0, h2, h4]
theorem cwL_s (h : l 0 = 17 ∨ l 0 = 18) : cwL l = 14 := by
  unfold cwL
  rw [if_neg (by omega), if_neg (by omega), if_neg (by omega), if_neg (by omega), if_pos (by omega)]
theorem slf_w (h : ¬ slf so x = -1) : 0 ≤ x ∧ x < 100 := by
  unfold slf at h
  by_cases d : 0 ≤ x ∧ x < 100
  · exact d
  · rw [if_neg d] at h; exact absurd rfl h
theorem ldV_w : cwO (ldV so x nm) = cwO x := by
  unfold ldV
  by_cases c : slf so x = -1
  · rw [if_pos c]
  · rw [if_neg c]
    have d := slf_w c
    exact cwO_e (Or.inl ⟨by omega, d.1⟩)
theorem ldN_w (h0 : 0 < s.1.1) (h1 : 100 ≤ s.2) : wsm cwt (ldN so x s).1 = wsm cwt s.1 + 14 * (if slf so x = -1 then 0 else 1) := by
  unfold ldN
  by_cases c : slf so x = -1
  · rw [if_pos c, if_pos c] <;> omega
  · rw [if_neg c, if_neg c]
    show wsm cwt (pgL s.1 (mkL 17 (s.2 : Int) (-1) 0 (-1) (slf so x))) = _
    rw [wsm_L h0]
    have e : cwt (mkL 17 (s.2 : Int) (-1) 0 (-1) (slf so x)) = 14 := by
      unfold cwt
      rw [cwL_s (l := mkL 17 (s.2 : Int) (-1) 0 (-1) (slf so x)) (Or.inl rfl), occ_mk, oc1_h (show (100 : Int) ≤ (s.2 : Int) by omega), oc1_n] <;> rfl
    omega
theorem spV_w : cwO (spV so l s) = cwO (l 4) := by
  unfold spV
  by_cases c : l 4 = l 2
  · rw [if_pos c, ldV_w, c]
  · rw [if_neg c, ldV_w]
theorem spW_w {a c : Int} (h0 : 0 < s.1.1) (h1 : 100 ≤ s.2) (ha : cwO a = cwO (l 2)) (hc : cwO c = cwO (l 4)) : wsm cwt (spW so l a c s).1 ≤ wsm cwt s.1 + (cwL l + 14 * (oc1 (l 1) + oc1 a + oc1 c)) := by
  unfold spW
  by_cases q : slf so (l 1) = -1
  · rw [if_pos q]
    show wsm cwt (pgL s.1 (mkL (l 0) (l 1) a (l 3) c (l 5))) ≤ _
    rw [wsm_L h0]
    have e : cwt (mkL (l 0) (l 1) a (l 3) c (l 5)) = cwL l + 14 * (oc1 (l 1) + oc1 a + oc1 c) := by
      unfold cwt
      rw [occ_mk, cwL_e (l := l) (m := mkL (l 0) (l 1) a (l 3) c (l 5)) rfl ha hc]
    omega
  · rw [if_neg q]
    have o1 := oc1_s q
    have h2 : oc1 (s.2 : Int) = 0 := oc1_h (by omega)
    show wsm cwt (pgL (pgL s.1 (mkL (l 0) (s.2 : Int) a (l 3) c (l 5))) (mkL 18 (-1) (s.2 : Int) 0 (-1) (slf so (l 1)))) ≤ _
    rw [wsm_L (show 0 < (pgL s.1 _).1 from h0), wsm_L h0]
    have e : cwt (mkL (l 0) (s.2 : Int) a (l 3) c (l 5)) = cwL l + 14 * (oc1 a + oc1 c) := by
      unfold cwt
      rw [occ_mk, cwL_e (l := l) (m := mkL (l 0) (s.2 : Int) a (l 3) c (l 5)) rfl ha hc, h2] <;> omega
    have e2 : cwt (mkL 18 (-1) (s.2 : Int) 0 (-1) (slf so (l 1))) = 14 := by
      unfold cwt
      rw [cwL_s (l := mkL 18 (-1) (s.2 : Int) 0 (-1) (slf so (l 1))) (Or.inr rfl), occ_mk, h2, oc1_n] <;> rfl
    omega
theorem spLn_w (h0 : 0 < s.1.1) (h1 : 100 ≤ s.2) : wsm cwt (spLn so l s).1 ≤ wsm cwt s.1 + cwt l := by
  unfold spLn
  have w := spW_w (so := so) (l := l) (a := ldV so (l 2) s.2) (c := spV so l s) (spR_1 (so := so) (l := l) h0) (spR_2 h1) ldV_w spV_w
  have r : wsm cwt (spR so l s).1 = wsm cwt s.1 + 14 * ((if slf so (l 2) = -1 then 0 else 1) + (if l 4 = l 2 then 0 else if slf so (l 4) = -1 then 0 else 1)) := by
    unfold spR
    by_cases c : l 4 = l 2
    · rw [if_pos c, if_pos c, ldN_w h0 h1]
      omega
    · rw [if_neg c, if_neg c, ldN_w (ldN_1 h0) (ldN_2 h1), ldN_w h0 h1] <;> omega
  have e2 := ldV_o (so := so) (x := l 2) h1
  have e4 : oc1 (spV so l s) + (if l 4 = l 2 then 0 else if slf so (l 4) = -1 then 0 else 1) ≤ oc1 (l 4) := by
    unfold spV
    by_cases c : l 4 = l 2
    · rw [if_pos c, if_pos c, c]; omega
    · rw [if_neg c, if_neg c]
      have := ldV_o (so := so) (x := l 4) (ldN_2 (so := so) (x := l 2) h1)
      omega
  have e9 : cwt l = cwL l + 14 * (oc1 (l 1) + oc1 (l 2) + oc1 (l 4)) := rfl
  omega
theorem spB_w {ls : Nat → Nat → Int} (h0 : 0 < s.1.1) (h1 : 100 ≤ s.2) : ∀ m, wsm cwt (spB so ls m s).1 ≤ wsm cwt s.1 + fsm (fun j => cwt (ls j)) m
  | 0 => Nat.le_refl _
  | m + 1 => by
    have i : wsm cwt (spB so ls m s).1 ≤ wsm cwt s.1 + fsm (fun j => cwt (ls j)) m := spB_w h0 h1 m
    obtain ⟨-, i2, i3⟩ := spB_k (so := so) (ls := ls) h0 h1 m
    have q := spLn_w (so := so) (l := ls m) i2 i3
    show wsm cwt (spLn so (ls m) (spB so ls m s)).1 ≤ wsm cwt s.1 + (fsm (fun j => cwt (ls j)) m + cwt (ls m))
    omega
theorem spP_w (h1 : 100 ≤ nm) : ∀ b, wsm cwt (spP so Q nm b).1 ≤ fsm (fun b => fsm (fun j => cwt (Q.2.2.1 b j)) (Q.2.1 b)) b
  | 0 => Nat.le_refl _
  | b + 1 => by
    have i : wsm cwt (spP so Q nm b).1 ≤ fsm (fun b => fsm (fun j => cwt (Q.2.2.1 b j)) (Q.2.1 b)) b := spP_w h1 b
    obtain ⟨-, i2, -, -⟩ := spP_k (so := so) (Q := Q) h1 b
    have q : wsm cwt (spP so Q nm (b + 1)).1 ≤ wsm cwt (pgOL Q (spP so Q nm b).1) + fsm (fun j => cwt (Q.2.2.1 b j)) (Q.2.1 b) := spB_w (so := so) (ls := Q.2.2.1 b) (s := (pgOL Q (spP so Q nm b).1, (spP so Q nm b).2)) (Nat.succ_pos _) i2 (Q.2.1 b)
    have e : wsm cwt (pgOL Q (spP so Q nm b).1) = wsm cwt (spP so Q nm b).1 := wsm_OL
    show wsm cwt (spP so Q nm (b + 1)).1 ≤ fsm (fun b => fsm (fun j => cwt (Q.2.2.1 b j)) (Q.2.1 b)) b + fsm (fun j => cwt (Q.2.2.1 b j)) (Q.2.1 b)
    omega
/-- merging -/
theorem cwO_rn {u y : Int} (h : u = y ∨ (0 ≤ u ∧ 0 ≤ y)) : cwO (rnV u y x) = cwO x := by
  unfold rnV
  by_cases c : x = u
  · rw [if_pos c]
    rcases h with h | ⟨h1, h2⟩
    · rw [← h, c]
    · exact cwO_e (Or.inl ⟨h2, by omega⟩)
  · rw [if_neg c]
theorem wsm_mg (h : mgb Q k b j) : wsm cwt (mg1 Q b j) ≤ wsm cwt Q := by
  obtain ⟨hb, hj, h0, h1, h2, h3⟩ := h
  have hw : max (Q.2.2.1 b j 1) (Q.2.2.1 b j 2) = min (Q.2.2.1 b j 1) (Q.2.2.1 b j 2) ∨ (max (Q.2.2.1 b j 1) (Q.2.2.1 b j 2) < 100 ∧ min (Q.2.2.1 b j 1) (Q.2.2.1 b j 2) < 100 ∧ 0 ≤ max (Q.2.2.1 b j 1) (Q.2.2.1 b j 2) ∧ 0 ≤ min (Q.2.2.1 b j 1) (Q.2.2.1 b j 2)) := by
    rcases h3 with h3 | h3
    · exact Or.inl (by omega)
    · have a := h3.1
      have c := h3.2.1
      exact Or.inr (by omega)
  have hw2 : max (Q.2.2.1 b j 1) (Q.2.2.1 b j 2) = min (Q.2.2.1 b j 1) (Q.2.2.1 b j 2) ∨ (0 ≤ max (Q.2.2.1 b j 1) (Q.2.2.1 b j 2) ∧ 0 ≤ min (Q.2.2.1 b j 1) (Q.2.2.1 b j 2)) := Or.inr ⟨by omega, by omega⟩
  have oe : ∀ l : Nat → Int, cwt (rnL (max (Q.2.2.1 b j 1) (Q.2.2.1 b j 2)) (min (Q.2.2.1 b j 1) (Q.2.2.1 b j 2)) l) = cwt l := fun l => by
    have o : occ (rnL (max (Q.2.2.1 b j 1) (Q.2.2.1 b j 2)) (min (Q.2.2.1 b j 1) (Q.2.2.1 b j 2)) l) = occ l := by
      show oc1 (rnV _ _ (l 1)) + oc1 (rnV _ _ (l 2)) + oc1 (rnV _ _ (l 4)) = _
      rw [oc1_rn hw, oc1_rn hw, oc1_rn hw]
      rfl
    unfold cwt
    rw [o, cwL_e (l := l) (m := rnL (max (Q.2.2.1 b j 1) (Q.2.2.1 b j 2)) (min (Q.2.2.1 b j 1) (Q.2.2.1 b j 2)) l) rfl (cwO_rn hw2) (cwO_rn hw2)]
  unfold wsm
  refine fsm_le Q.1 (fun c hc => ?_)
  show fsm (fun i => cwt (rnL _ _ (Q.2.2.1 c (if c = b ∧ j ≤ i then i + 1 else i)))) (if c = b then Q.2.1 c - 1 else Q.2.1 c) ≤ fsm (fun j => cwt (Q.2.2.1 c j)) (Q.2.1 c)
  by_cases e : c = b
  · rw [if_pos e]
    have q := fsm_sh (f := fun i => cwt (Q.2.2.1 c i)) (j := j) (Q.2.1 c - 1)
    rw [show Q.2.1 c - 1 + 1 = Q.2.1 c by rw [e]; omega] at q
    refine Nat.le_trans (Nat.le_of_eq (fsm_c (fun i hi => ?_))) q
    rw [oe]
    by_cases d : j ≤ i
    · rw [if_pos ⟨e, d⟩, if_pos d]
    · rw [if_neg (fun z => d z.2), if_neg d]
  · rw [if_neg e]
    refine Nat.le_of_eq (fsm_c (fun i hi => ?_))
    rw [oe, if_neg (fun z => e z.1)]
theorem MGn_w : ∀ {m : Nat} {Q R : gPg}, MGn k m Q R → wsm cwt R ≤ wsm cwt Q
  | 0, _, _, h => by rw [h.1]; exact Nat.le_refl _
  | m + 1, Q, R, ⟨b, j, q, h⟩ => Nat.le_trans (MGn_w h) (wsm_mg q.1)
theorem GVr_w : ∀ {f t : Nat} {Q : gPg} {nm sl : Nat} {r : Int} {Z : gPg × (Nat → Int) × Nat}, gvI Q nm → GVr k dp f t Q nm sl r Z → r ≠ -1 → wsm cwt Z.1 ≤ wsm cwt Q
  | 0, _, _, _, _, _, _, _, h, hr => absurd h.1 hr
  | f + 1, t, Q, nm, sl, r, Z, hI, ⟨R, n, p, ⟨⟨m, hm⟩, ta⟩, h⟩, hr => by
    obtain ⟨gR, -⟩ := gvI_m hI hm
    have w1 := MGn_w hm
    rcases h with ⟨a1, a2, a3⟩ | ⟨a1, a2, a3, a4⟩ | ⟨a1, a2, a3⟩
    · rw [a3]; exact w1
    · exact absurd a3 hr
    · obtain ⟨qi1, qi2, qi3, qi4⟩ := spP_i (so := soU (unc R (clN (JJ R) k p n n)) sl) gR
      have w2 := GVr_w qi2 a3 hr
      have w3 : wsm cwt (spP (soU (unc R (clN (JJ R) k p n n)) sl) R nm R.1).1 ≤ wsm cwt R := spP_w (so := soU (unc R (clN (JJ R) k p n n)) sl) (Q := R) gR.2.1 R.1
      omega
/-- where it begins -/
theorem fsm_k {f : Nat → Nat} {q : Nat} : ∀ n, (∀ i, i < n → f i ≤ q) → fsm f n ≤ q * n
  | 0, _ => Nat.zero_le _
  | n + 1, h => by
    have i := fsm_k (f := f) (q := q) n (fun i hi => h i (by omega))
    have c := h n (Nat.lt_succ_self n)
    show fsm f n + f n ≤ q * (n + 1)
    rw [Nat.mul_succ]
    omega
theorem cwO_1 : cwO x + 14 * oc1 x ≤ 17 := by
  have o := oc1_le (x := x)
  unfold cwO
  by_cases c : 0 ≤ x
  · rw [if_pos c]; omega
  · rw [if_neg c]
    have e : oc1 x = 0 := if_neg (fun z => c z.1)
    omega
theorem cwO_11 : cwO x ≤ 11 := by
  unfold cwO
  split <;> omega
theorem cwt_r (h : l 0 ≤ 16) : cwt l ≤ 59 := by
  have a := cwO_1 (x := l 2)
  have c := cwO_1 (x := l 4)
  have o1 := oc1_le (x := l 1)
  have o2 := oc1_le (x := l 2)
  have o4 := oc1_le (x := l 4)
  unfold cwt occ cwL
  by_cases h1 : l 0 ≤ 13
  · rw [if_pos h1]; omega
  · rw [if_neg h1]
    by_cases h2 : l 0 = 14
    · rw [if_pos h2]; omega
    · rw [if_neg h2]
      by_cases h3 : l 0 = 15
      · rw [if_pos h3]; omega
      · rw [if_neg h3, if_pos (by omega)]; omega
theorem cwt_e (h : 19 ≤ l 0) (h1 : l 1 = -1) (h4 : l 4 = -1) : cwt l ≤ 29 := by
  have a := cwO_1 (x := l 2)
  have o2 := oc1_le (x := l 2)
  unfold cwt occ cwL
  rw [h1, h4, oc1_n, if_neg (by omega), if_neg (by omega), if_neg (by omega), if_neg (by omega), if_neg (by omega)]
  by_cases h2 : l 0 = 19
  · rw [if_pos h2]; omega
  · rw [if_neg h2]
    by_cases h3 : l 0 = 20
    · rw [if_pos h3]; omega
    · rw [if_neg h3]; omega
theorem fsm_59 {f g : Nat → Nat} : ∀ n, (∀ i, i < n → f i + 30 ≤ 59 * g i) → fsm f n + 30 * n ≤ 59 * fsm g n
  | 0, _ => Nat.le_refl _
  | n + 1, h => by
    have i := fsm_59 (f := f) (g := g) n (fun i hi => h i (by omega))
    have q := h n (Nat.lt_succ_self n)
    show fsm f n + f n + 30 * (n + 1) ≤ 59 * (fsm g n + g n)
    omega
theorem wsm_P (hb : ∀ b, b < P.1 → blC (P.2.1 b) (P.2.2.1 b) (P.2.2.2 b)) : wsm cwt P + 30 * P.1 ≤ 59 * lsm P := by
  unfold wsm lsm
  refine fsm_59 P.1 (fun b hb1 => ?_)
  obtain ⟨c0, c1, c2, c3⟩ := hb b hb1
  obtain ⟨m, em⟩ : ∃ m, P.2.1 b = m + 1 := ⟨P.2.1 b - 1, by omega⟩
  rw [em] at c1 c2 c3 ⊢
  rw [show m + 1 - 1 = m from rfl] at c2 c3
  show fsm (fun j => cwt (P.2.2.1 b j)) m + cwt (P.2.2.1 b m) + 30 ≤ 59 * (m + 1)
  have i := fsm_k (f := fun j => cwt (P.2.2.1 b j)) (q := 59) m (fun i hi => cwt_r (by have := (c1 i (by omega)).1; omega))
  have e := cwt_e (l := P.2.2.1 b m) (by unfold edG at c3; omega) c2.1 c2.2.2.1
  omega
theorem wsm_Z (h0 : 0 < P.1) : wsm cwt (pgZ P) ≤ 3200 + wsm cwt P := by
  obtain ⟨m, em⟩ : ∃ m, P.1 = 1 + m := ⟨P.1 - 1, by omega⟩
  have cz := cntP_le (T := lz P) 100
  unfold wsm
  show fsm (fun b => fsm (fun j => cwt (if b = 0 then (if j < cntP (lz P) 100 then mkL 14 (nthT (lz P) 100 j : Int) (-1) 0 (-1) 0 else P.2.2.1 0 (j - cntP (lz P) 100)) else P.2.2.1 b j)) (if b = 0 then cntP (lz P) 100 + P.2.1 0 else P.2.1 b)) P.1 ≤ 3200 + fsm (fun b => fsm (fun j => cwt (P.2.2.1 b j)) (P.2.1 b)) P.1
  rw [em, fsm_ap m, fsm_ap m]
  have e1 : fsm (fun i => (fun b => fsm (fun j => cwt (if b = 0 then (if j < cntP (lz P) 100 then mkL 14 (nthT (lz P) 100 j : Int) (-1) 0 (-1) 0 else P.2.2.1 0 (j - cntP (lz P) 100)) else P.2.2.1 b j)) (if b = 0 then cntP (lz P) 100 + P.2.1 0 else P.2.1 b)) (1 + i)) m = fsm (fun i => (fun b => fsm (fun j => cwt (P.2.2.1 b j)) (P.2.1 b)) (1 + i)) m := by
    refine fsm_c (fun c hc => ?_)
    have ne : ¬ 1 + c = 0 := by omega
    simp only [if_neg ne]
  have e2 : fsm (fun j => cwt (if (0 : Nat) = 0 then (if j < cntP (lz P) 100 then mkL 14 (nthT (lz P) 100 j : Int) (-1) 0 (-1) 0 else P.2.2.1 0 (j - cntP (lz P) 100)) else P.2.2.1 0 j)) (if (0 : Nat) = 0 then cntP (lz P) 100 + P.2.1 0 else P.2.1 0) ≤ 3200 + fsm (fun j => cwt (P.2.2.1 0 j)) (P.2.1 0) := by
    rw [if_pos rfl, fsm_ap]
    have a := fsm_k (f := fun j => cwt (if (0 : Nat) = 0 then (if j < cntP (lz P) 100 then mkL 14 (nthT (lz P) 100 j : Int) (-1) 0 (-1) 0 else P.2.2.1 0 (j - cntP (lz P) 100)) else P.2.2.1 0 j)) (q := 32) (cntP (lz P) 100) (fun i hi => by
      show cwt (if (0 : Nat) = 0 then (if i < cntP (lz P) 100 then mkL 14 (nthT (lz P) 100 i : Int) (-1) 0 (-1) 0 else P.2.2.1 0 (i - cntP (lz P) 100)) else P.2.2.1 0 i) ≤ 32
      rw [if_pos rfl, if_pos hi]
      unfold cwt
      have o := oc1_le (x := (nthT (lz P) 100 i : Int))
      have e : cwL (mkL 14 (nthT (lz P) 100 i : Int) (-1) 0 (-1) 0) = 18 := rfl
      rw [e, occ_mk, oc1_n]
      omega)
    have c : fsm (fun i => (fun j => cwt (if (0 : Nat) = 0 then (if j < cntP (lz P) 100 then mkL 14 (nthT (lz P) 100 j : Int) (-1) 0 (-1) 0 else P.2.2.1 0 (j - cntP (lz P) 100)) else P.2.2.1 0 j)) (cntP (lz P) 100 + i)) (P.2.1 0) = fsm (fun j => cwt (P.2.2.1 0 j)) (P.2.1 0) := by
      refine fsm_c (fun i hi => ?_)
      show cwt (if (0 : Nat) = 0 then (if cntP (lz P) 100 + i < cntP (lz P) 100 then mkL 14 (nthT (lz P) 100 (cntP (lz P) 100 + i) : Int) (-1) 0 (-1) 0 else P.2.2.1 0 (cntP (lz P) 100 + i - cntP (lz P) 100)) else P.2.2.1 0 (cntP (lz P) 100 + i)) = _
      rw [if_pos rfl, if_neg (by omega), show cntP (lz P) 100 + i - cntP (lz P) 100 = i by omega]
    exact Nat.le_trans (Nat.add_le_add a (Nat.le_of_eq c)) (Nat.add_le_add_right (Nat.le_trans (Nat.mul_le_mul_left 32 cz) (Nat.le_refl 3200)) _)
  have s1 : ∀ f : Nat → Nat, fsm f 1 = f 0 := fun f => Nat.zero_add _
  rw [s1, s1, e1]
  exact Nat.le_trans (Nat.add_le_add_right e2 _) (Nat.le_of_eq (Nat.add_assoc _ _ _))
theorem wsm_0 {B : Int → Int} {n : Int} (hB : bOk B n) (h : okP B n P) : wsm cwt P ≤ 10600 ∧ P.1 ≤ 40 ∧ wsm cwt (pgZ P) ≤ 13800 := by
  obtain ⟨f1, f2, f3, f4, f5, f6⟩ := okP_f hB h
  have l1 : lsm P ≤ 160 + P.1 := by
    obtain ⟨j, st, lf, ln, op, rw, h1, h2, h3⟩ := h
    obtain ⟨⟨-, -, w3, -, w5, -, -, -, -, -, -, w12, w13, -⟩, -⟩ := mrn_w hB h1
    have w := w5 rfl
    unfold lsm
    omega
  have a := wsm_P f6
  have c := wsm_Z f3
  exact ⟨by omega, f2, by omega⟩
/-! stores: what they keep is a register -/
def stL6 (l : Nat → Int) (_ : Nat) : Prop := l 0 = 18 → 0 ≤ l 2
def stQ (Q : gPg) : Prop := ∀ b j, b < Q.1 → j < Q.2.1 b → stL6 (Q.2.2.1 b j) 0
theorem stL_m : ∀ (l : Nat → Int) (a c : Nat), a ≤ c → stL6 l a → stL6 l c := fun _ _ _ _ h => h
theorem stQ_mg (h : stQ Q) (hm : mgb Q k b j) : stQ (mg1 Q b j) := fun d i hd hi h18 => by
  have hi2 : i < if d = b then Q.2.1 d - 1 else Q.2.1 d := hi
  have hx : (if d = b ∧ j ≤ i then i + 1 else i) < Q.2.1 d := by
    by_cases e : d = b
    · rw [if_pos e] at hi2; split <;> omega
    · rw [if_neg e] at hi2; rw [if_neg (fun z => e z.1)]; exact hi2
  have q : 0 ≤ Q.2.2.1 d (if d = b ∧ j ≤ i then i + 1 else i) 2 := h d _ hd hx h18
  obtain ⟨-, -, -, m1, m2, -⟩ := hm
  show 0 ≤ rnV (max (Q.2.2.1 b j 1) (Q.2.2.1 b j 2)) (min (Q.2.2.1 b j 1) (Q.2.2.1 b j 2)) (Q.2.2.1 d (if d = b ∧ j ≤ i then i + 1 else i) 2)
  unfold rnV
  by_cases c : Q.2.2.1 d (if d = b ∧ j ≤ i then i + 1 else i) 2 = max (Q.2.2.1 b j 1) (Q.2.2.1 b j 2)
  · rw [if_pos c]; omega
  · rw [if_neg c]; exact q
theorem stQ_MG : ∀ {m : Nat} {Q R : gPg}, stQ Q → MGn k m Q R → stQ R
  | 0, _, _, h, g => by rw [g.1]; exact h
  | m + 1, _, _, h, ⟨b, j, q, g⟩ => stQ_MG (stQ_mg h q.1) g
theorem ldV_p (h : 0 ≤ x) : 0 ≤ ldV so x nm := by
  unfold ldV
  by_cases c : slf so x = -1
  · rw [if_pos c]; exact h
  · rw [if_neg c]; omega
theorem st_N (h : allL stL6 s) : allL stL6 (ldN so x s) := by
  unfold ldN
  by_cases c : slf so x = -1
  · rw [if_pos c]; exact h
  · rw [if_neg c]; exact allL_L stL_m h (Nat.le_succ _) (fun z => absurd (show (17 : Int) = 18 from z) (by decide))
theorem st_Ln (hl : stL6 l 0) (h : allL stL6 s) : allL stL6 (spLn so l s) := by
  have r : allL stL6 (spR so l s) := by
    unfold spR
    split
    · exact st_N h
    · exact st_N (st_N h)
  unfold spLn spW
  by_cases c : slf so (l 1) = -1
  · rw [if_pos c]; exact allL_L stL_m r (Nat.le_refl _) (fun z => ldV_p (hl z))
  · rw [if_neg c]
    have a1 := allL_L (l := mkL (l 0) ((spR so l s).2 : Int) (ldV so (l 2) s.2) (l 3) (spV so l s) (l 5)) (m := (spR so l s).2 + 1) stL_m r (Nat.le_succ _) (fun z => ldV_p (hl z))
    exact allL_L (s := (pgL (spR so l s).1 (mkL (l 0) ((spR so l s).2 : Int) (ldV so (l 2) s.2) (l 3) (spV so l s) (l 5)), (spR so l s).2 + 1)) stL_m a1 (Nat.le_refl _) (fun _ => Int.natCast_nonneg _)
theorem st_B {ls : Nat → Nat → Int} (h : allL stL6 s) : ∀ m, (∀ j, j < m → stL6 (ls j) 0) → allL stL6 (spB so ls m s)
  | 0, _ => h
  | m + 1, hl => st_Ln (hl m (Nat.lt_succ_self m)) (st_B h m (fun j hj => hl j (by omega)))
theorem st_P : ∀ b, (∀ c j, c < b → j < R.2.1 c → stL6 (R.2.2.1 c j) 0) → allL stL6 (spP so R nm b)
  | 0, _ => fun b j hb _ => absurd hb (Nat.not_lt_zero b)
  | b + 1, h => st_B (s := (pgOL R (spP so R nm b).1, (spP so R nm b).2)) (allL_OL (st_P b (fun c j hc => h c j (by omega)))) (R.2.1 b) (fun j hj => h b j (Nat.lt_succ_self b) hj)
theorem GVr_st : ∀ {f t : Nat} {Q : gPg} {nm sl : Nat} {r : Int} {Z : gPg × (Nat → Int) × Nat}, stQ Q → GVr k dp f t Q nm sl r Z → r ≠ -1 → stQ Z.1
  | 0, _, _, _, _, _, _, _, h, hr => absurd h.1 hr
  | f + 1, t, Q, nm, sl, r, Z, hI, ⟨R, n, p, ⟨⟨m, hm⟩, ta⟩, h⟩, hr => by
    have w1 := stQ_MG hI hm
    rcases h with ⟨a1, a2, a3⟩ | ⟨a1, a2, a3, a4⟩ | ⟨a1, a2, a3⟩
    · rw [a3]; exact w1
    · exact absurd a3 hr
    · exact GVr_st (fun b i hb hi h18 => st_P R.1 (fun c j hc hj => w1 c j hc hj) b i hb hi h18) a3 hr
theorem st_rd (hb : ∀ b, b < P.1 → blC (P.2.1 b) (P.2.2.1 b) (P.2.2.2 b)) : stQ P := fun b j h1 h2 h18 => by
  obtain ⟨c0, c1, c2, c3⟩ := hb b h1
  by_cases e : j + 1 < P.2.1 b
  · have := (c1 j e).1; omega
  · rw [show P.2.1 b - 1 = j by omega] at c3
    unfold edG at c3
    omega
theorem st_Z (hb : ∀ b, b < P.1 → blC (P.2.1 b) (P.2.2.1 b) (P.2.2.2 b)) : stQ (pgZ P) := fun b i hb1 hi h18 => by
  have hi2 : i < if b = 0 then cntP (lz P) 100 + P.2.1 0 else P.2.1 b := hi
  have h18' : (if b = 0 then (if i < cntP (lz P) 100 then mkL 14 (nthT (lz P) 100 i : Int) (-1) 0 (-1) 0 else P.2.2.1 0 (i - cntP (lz P) 100)) else P.2.2.1 b i) 0 = 18 := h18
  show 0 ≤ (if b = 0 then (if i < cntP (lz P) 100 then mkL 14 (nthT (lz P) 100 i : Int) (-1) 0 (-1) 0 else P.2.2.1 0 (i - cntP (lz P) 100)) else P.2.2.1 b i) 2
  have hb2 : b < P.1 := hb1
  by_cases e : b = 0
  · rw [if_pos e] at hi2 h18' ⊢
    by_cases g : i < cntP (lz P) 100
    · rw [if_pos g] at h18'
      exact absurd (show (14 : Int) = 18 from h18') (by decide)
    · rw [if_neg g] at h18' ⊢
      exact st_rd hb 0 _ (by omega) (by omega) h18'
  · rw [if_neg e] at hi2 h18' ⊢
    exact st_rd hb b i hb2 hi2 h18'
/-- letters of a line -/
theorem zlO_l {y : Int} (h : x ≤ 99) : (zlO x y).length ≤ cwO x := by
  unfold zlO cwO
  by_cases c : 0 ≤ x
  · rw [if_pos c, if_pos c]
    have q := dgI_2 c h
    show (dgI x).length + 1 ≤ 3
    omega
  · rw [if_neg c, if_neg c]
    exact dgI_l
theorem zit_l {p : Prop} [Decidable p] {a b : List Int32} (ha : a.length ≤ 2) (hb : b.length ≤ 2) : (if p then a else b).length ≤ 2 := by
  by_cases c : p
  · rw [if_pos c]; exact ha
  · rw [if_neg c]; exact hb
theorem zlS_l {o : Int} : (zlS o).length ≤ 2 := by
  unfold zlS
  repeat refine zit_l (by decide) ?_
  decide
theorem zlR_l (h : rnO l) : (zlR l).length + 1 ≤ cwL l := by
  obtain ⟨o0, o2, o4, o1, o5⟩ := h
  have a2 := zlO_l (y := l 3) o2.2
  have a4 := zlO_l (y := l 5) o4.2
  have s0 := zlS_l (o := l 0)
  have c : l 0 ≤ 13 ∨ l 0 = 14 ∨ l 0 = 15 ∨ l 0 = 16 ∨ l 0 = 17 ∨ l 0 = 18 := by omega
  unfold zlR zlE cwL
  rcases c with c | c | c | c | c | c
  · have d1 := o1 (Or.inl (by omega))
    have d := dgI_2 d1.1 d1.2
    rw [if_neg (by omega), if_neg (by omega), if_neg (by omega), if_neg (by omega), if_pos c, if_pos c]
    simp only [List.length_append, List.length_cons, List.length_nil]
    omega
  · have d1 := o1 (Or.inl (by omega))
    have d := dgI_2 d1.1 d1.2
    rw [if_neg (by omega), if_neg (by omega), if_neg (by omega), if_neg (by omega), if_neg (by omega), if_neg (by omega), if_pos c]
    simp only [List.length_append, List.length_cons, List.length_nil]
    omega
  · have d1 := o1 (Or.inl (by omega))
    have d := dgI_2 d1.1 d1.2
    rw [if_neg (by omega), if_neg (by omega), if_pos c, if_neg (by omega), if_neg (by omega), if_pos c]
    simp only [List.length_append, List.length_cons, List.length_nil]
    omega
  · rw [if_pos c, if_neg (by omega), if_neg (by omega), if_neg (by omega), if_pos c]
    simp only [List.length_append, List.length_cons, List.length_nil]
    omega
  · have d1 := o1 (Or.inr c)
    have d := dgI_2 d1.1 d1.2
    have e1 := o5 (Or.inl c)
    have e := dgI_2 e1.1 e1.2
    rw [if_neg (by omega), if_neg (by omega), if_neg (by omega), if_pos c, if_neg (by omega), if_neg (by omega), if_neg (by omega), if_neg (by omega), if_pos (by omega)]
    simp only [List.length_append, List.length_cons, List.length_nil]
    omega
  · have e1 := o5 (Or.inr c)
    have e := dgI_2 e1.1 e1.2
    have f : (dgI (l 2)).length ≤ 2 ∨ l 2 = -1 := by
      by_cases g : 0 ≤ l 2
      · exact Or.inl (dgI_2 g o2.2)
      · exact Or.inr (by omega)
    have f2 : (dgI (l 2)).length ≤ 2 := by
      rcases f with f | f
      · exact f
      · rw [f]; decide +kernel
    rw [if_neg (by omega), if_pos c, if_neg (by omega), if_neg (by omega), if_neg (by omega), if_neg (by omega), if_pos (by omega)]
    simp only [List.length_append, List.length_cons, List.length_nil]
    omega
theorem zlF_l (h : edO l) (hG : edG (l 0) (g 0) (g 1)) : (zlF g l).length + 1 ≤ cwL l := by
  obtain ⟨o1, o2, o4, o5⟩ := h
  have a2 := zlO_l (y := l 3) o2.2
  unfold edG at hG
  unfold zlF cwL
  rcases hG with ⟨c, g0, g1, g2⟩ | ⟨c, g0, g1, g2, g3⟩ | ⟨c, g0, g1⟩
  · have d := dgI_2 g0 (show g 0 ≤ 99 by omega)
    rw [if_neg (by omega), if_pos c, if_neg (by omega), if_neg (by omega), if_neg (by omega), if_neg (by omega), if_neg (by omega), if_pos c]
    simp only [List.length_append, List.length_cons, List.length_nil]
    omega
  · have d := dgI_2 g0 (show g 0 ≤ 99 by omega)
    have e := dgI_2 g2 (show g 1 ≤ 99 by omega)
    rw [if_neg (by omega), if_neg (by omega), if_neg (by omega), if_neg (by omega), if_neg (by omega), if_neg (by omega), if_neg (by omega), if_neg (by omega), if_pos c]
    simp only [List.length_append, List.length_cons, List.length_nil]
    omega
  · rw [if_pos c, if_neg (by omega), if_neg (by omega), if_neg (by omega), if_neg (by omega), if_neg (by omega), if_neg (by omega), if_neg (by omega)]
    simp only [List.length_append, List.length_cons, List.length_nil]
    omega
theorem zlJ_l (hP : rnP Q) (hb : b < Q.1) : ∀ j, j ≤ Q.2.1 b → (zlJ Q b j).length ≤ fsm (fun i => cwL (Q.2.2.1 b i)) j
  | 0, _ => Nat.le_refl _
  | j + 1, h => by
    have i := zlJ_l hP hb j (by omega)
    show (zlJ Q b j ++ zlN (Q.2.2.2 b) (Q.2.2.1 b j)).length ≤ fsm (fun i => cwL (Q.2.2.1 b i)) j + cwL (Q.2.2.1 b j)
    rw [List.length_append]
    have q : (zlN (Q.2.2.2 b) (Q.2.2.1 b j)).length ≤ cwL (Q.2.2.1 b j) := by
      unfold zlN
      rcases rn_row hP hb (show j < Q.2.1 b by omega) with ⟨a1, a2, a3⟩ | ⟨a1, a2, a3, a4⟩
      · rw [if_pos a1, List.length_append]; exact zlR_l a3
      · rw [if_neg (by omega), List.length_append]; exact zlF_l a3 a4
    omega
theorem zlB_l (hP : rnP Q) : ∀ c, c ≤ Q.1 → (zlB Q c).length ≤ 5 * c + fsm (fun b => fsm (fun j => cwL (Q.2.2.1 b j)) (Q.2.1 b)) c
  | 0, _ => Nat.le_refl _
  | c + 1, h => by
    have i := zlB_l hP c (by omega)
    have q := zlJ_l hP (show c < Q.1 by omega) (Q.2.1 c) (Nat.le_refl _)
    have p1 := hP.1.2
    have d := dgI_2 (x := (c : Int)) (by omega) (by omega)
    show (zlB Q c ++ zlG Q c).length ≤ 5 * (c + 1) + (fsm (fun b => fsm (fun j => cwL (Q.2.2.1 b j)) (Q.2.1 b)) c + fsm (fun j => cwL (Q.2.2.1 c j)) (Q.2.1 c))
    unfold zlG
    simp only [List.length_append, List.length_cons, List.length_nil]
    omega
theorem wsm_c (h : ∀ b j, b < Q.1 → j < Q.2.1 b → cwL (Q.2.2.1 b j) ≤ cwt (R.2.2.1 b j)) (h1 : R.1 = Q.1) (h2 : R.2.1 = Q.2.1) : wsm cwL Q ≤ wsm cwt R := by
  unfold wsm
  rw [h1, h2]
  exact fsm_le Q.1 (fun b hb => fsm_le _ (fun j hj => h b j hb hj))
/-- a program that was read -/
theorem zl_rd {B : Int → Int} {n : Int} (hB : bOk B n) (h : okP B n P) : (zlB P P.1).length ≤ 16384 := by
  obtain ⟨a1, a2, -⟩ := wsm_0 hB h
  have q := zlB_l (rnP_P hB h) P.1 (Nat.le_refl _)
  have e : wsm cwL P ≤ wsm cwt P := wsm_c (fun b j _ _ => Nat.le_add_right _ _) rfl rfl
  unfold wsm at e
  unfold wsm at a1
  omega
/-- what is given out -/
theorem zl_fn {B : Int → Int} {n : Int} {f t : Nat} {r : Int} {Z : gPg × (Nat → Int) × Nat} (hk : 0 ≤ k) (hk2 : k ≤ 32) (hB : bOk B n) (hP : okP B n P) (h : GVr k dp f t (pgZ P) 100 0 r Z) (hr : r ≠ -1) : (zlB (fnP Z) (fnP Z).1).length ≤ 16384 := by
  have ok := GVr_okP hk hB hP h hr
  have w := GVr_w (gvI_Z hB hP) h hr
  obtain ⟨a1, a2, a3⟩ := wsm_0 hB hP
  have rn := fn_run hk2 ok
  have q := zlB_l rn (fnP Z).1 (Nat.le_refl _)
  have p1 := rn.1.2
  obtain ⟨-, ⟨nm, i1, i2, i3, i4, i5, i6⟩, -, -, h5⟩ := ok
  have cm : ∀ b j f, b < Z.1.1 → j < Z.1.2.1 b → (f = 1 ∨ f = 2 ∨ f = 4) → Z.1.2.2.1 b j f < 2000 → cwO (cM Z.2.1 (Z.1.2.2.1 b j f)) = cwO (Z.1.2.2.1 b j f) := fun b j f hb hj hf h19 => by
    unfold cM
    by_cases c : 0 ≤ Z.1.2.2.1 b j f
    · rw [if_pos c]
      exact cwO_e (Or.inl ⟨(h5 _ (Sd_f hb hj hf c h19)).1, c⟩)
    · rw [if_neg c]
  have e : wsm cwL (fnP Z) ≤ wsm cwt Z.1 := wsm_c (fun b j hb hj => by
    obtain ⟨m1, m2, m4⟩ := i1 b j hb hj
    have e1 : cwL ((fnP Z).2.2.1 b j) = cwL (Z.1.2.2.1 b j) := cwL_e rfl (cm b j 2 hb hj (Or.inr (Or.inl rfl)) (by omega)) (cm b j 4 hb hj (Or.inr (Or.inr rfl)) (by omega))
    rw [e1]
    exact Nat.le_add_right _ _) rfl rfl
  have e2 : fsm (fun b => fsm (fun j => cwL ((fnP Z).2.2.1 b j)) ((fnP Z).2.1 b)) (fnP Z).1 = wsm cwL (fnP Z) := rfl
  omega
theorem st_fn {B : Int → Int} {n : Int} {f t : Nat} {r : Int} {Z : gPg × (Nat → Int) × Nat} (hk : 0 ≤ k) (hB : bOk B n) (hP : okP B n P) (h : GVr k dp f t (pgZ P) 100 0 r Z) (hr : r ≠ -1) : stQ (fnP Z) := fun b j hb hj h18 => by
  have ok := GVr_okP hk hB hP h hr
  have q : 0 ≤ Z.1.2.2.1 b j 2 := GVr_st (st_Z (okP_f hB hP).2.2.2.2.2) h hr b j hb hj h18
  obtain ⟨-, ⟨nm, i1, i2, i3, i4, i5, i6⟩, -, -, h5⟩ := ok
  obtain ⟨m1, m2, m4⟩ := i1 b j hb hj
  show 0 ≤ cM Z.2.1 (Z.1.2.2.1 b j 2)
  unfold cM
  rw [if_pos q]
  exact (h5 _ (Sd_f hb hj (Or.inr (Or.inl rfl)) q (by omega))).1
end WT
end
section
theorem dr_cX17_input_30 : decode cX17_input 30 = .ok (.iload_n 2, 1) := by decide +kernel
theorem dr_cX17_input_31 : decode cX17_input 31 = .ok (.iconst 4, 1) := by decide +kernel
theorem dr_cX17_input_32 : decode cX17_input 32 = .ok (.if_icmp .ge 39, 3) := by decide +kernel
theorem dr_cX17_input_35 : decode cX17_input 35 = .ok (.aload_n 0, 1) := by decide +kernel
theorem dr_cX17_input_36 : decode cX17_input 36 = .ok (.getfield 303, 3) := by decide +kernel
theorem dr_cX17_input_39 : decode cX17_input 39 = .ok (.iload_n 1, 1) := by decide +kernel
theorem dr_cX17_input_40 : decode cX17_input 40 = .ok (.aload_n 0, 1) := by decide +kernel
theorem dr_cX17_input_41 : decode cX17_input 41 = .ok (.getfield 303, 3) := by decide +kernel
theorem dr_cX17_input_44 : decode cX17_input 44 = .ok (.iload_n 1, 1) := by decide +kernel
theorem dr_cX17_input_45 : decode cX17_input 45 = .ok (.iaload, 1) := by decide +kernel
theorem dr_cX17_input_46 : decode cX17_input 46 = .ok (.bipush 8, 2) := by decide +kernel
theorem dr_cX17_input_48 : decode cX17_input 48 = .ok (.ishl, 1) := by decide +kernel
theorem dr_cX17_input_49 : decode cX17_input 49 = .ok (.aload_n 0, 1) := by decide +kernel
theorem dr_cX17_input_50 : decode cX17_input 50 = .ok (.getfield 374, 3) := by decide +kernel
theorem dr_cX17_input_53 : decode cX17_input 53 = .ok (.iconst 4, 1) := by decide +kernel
theorem dr_cX17_input_54 : decode cX17_input 54 = .ok (.iload_n 1, 1) := by decide +kernel
theorem dr_cX17_input_55 : decode cX17_input 55 = .ok (.imul, 1) := by decide +kernel
theorem dr_cX17_input_56 : decode cX17_input 56 = .ok (.iload_n 2, 1) := by decide +kernel
theorem dr_cX17_input_57 : decode cX17_input 57 = .ok (.iadd, 1) := by decide +kernel
theorem dr_cX17_input_58 : decode cX17_input 58 = .ok (.baload, 1) := by decide +kernel
theorem dr_cX17_input_59 : decode cX17_input 59 = .ok (.sipush 255, 3) := by decide +kernel
theorem dr_cX17_input_62 : decode cX17_input 62 = .ok (.iand, 1) := by decide +kernel
theorem dr_cX17_input_63 : decode cX17_input 63 = .ok (.ior, 1) := by decide +kernel
theorem dr_cX17_input_64 : decode cX17_input 64 = .ok (.iastore, 1) := by decide +kernel
theorem dr_cX17_input_65 : decode cX17_input 65 = .ok (.iinc 2 1, 3) := by decide +kernel
theorem dr_cX17_input_68 : decode cX17_input 68 = .ok (.goto (-38), 3) := by decide +kernel
theorem dr_cX17_input_19 : decode cX17_input 19 = .ok (.iload_n 1, 1) := by decide +kernel
theorem dr_cX17_input_20 : decode cX17_input 20 = .ok (.aload_n 0, 1) := by decide +kernel
theorem dr_cX17_input_21 : decode cX17_input 21 = .ok (.getfield 303, 3) := by decide +kernel
theorem dr_cX17_input_24 : decode cX17_input 24 = .ok (.arraylength, 1) := by decide +kernel
theorem dr_cX17_input_25 : decode cX17_input 25 = .ok (.if_icmp .ge 52, 3) := by decide +kernel
theorem dr_cX17_input_28 : decode cX17_input 28 = .ok (.iconst 0, 1) := by decide +kernel
theorem dr_cX17_input_29 : decode cX17_input 29 = .ok (.istore_n 2, 1) := by decide +kernel
theorem dr_cX17_input_71 : decode cX17_input 71 = .ok (.iinc 1 1, 3) := by decide +kernel
theorem dr_cX17_input_74 : decode cX17_input 74 = .ok (.goto (-55), 3) := by decide +kernel
theorem dr_cX17_input_0 : decode cX17_input 0 = .ok (.aload_n 0, 1) := by decide +kernel
theorem dr_cX17_input_1 : decode cX17_input 1 = .ok (.iconst 0, 1) := by decide +kernel
theorem dr_cX17_input_2 : decode cX17_input 2 = .ok (.putfield 380, 3) := by decide +kernel
theorem dr_cX17_input_5 : decode cX17_input 5 = .ok (.aload_n 0, 1) := by decide +kernel
theorem dr_cX17_input_6 : decode cX17_input 6 = .ok (.aload_n 0, 1) := by decide +kernel
theorem dr_cX17_input_7 : decode cX17_input 7 = .ok (.getfield 383, 3) := by decide +kernel
theorem dr_cX17_input_10 : decode cX17_input 10 = .ok (.iconst 4, 1) := by decide +kernel
theorem dr_cX17_input_11 : decode cX17_input 11 = .ok (.idiv, 1) := by decide +kernel
theorem dr_cX17_input_12 : decode cX17_input 12 = .ok (.newarray .int, 2) := by decide +kernel
theorem dr_cX17_input_14 : decode cX17_input 14 = .ok (.putfield 303, 3) := by decide +kernel
theorem dr_cX17_input_17 : decode cX17_input 17 = .ok (.iconst 0, 1) := by decide +kernel
theorem dr_cX17_input_18 : decode cX17_input 18 = .ok (.istore_n 1, 1) := by decide +kernel
theorem dr_cX17_input_77 : decode cX17_input 77 = .ok (.aload_n 0, 1) := by decide +kernel
theorem dr_cX17_input_78 : decode cX17_input 78 = .ok (.iconst 0, 1) := by decide +kernel
theorem dr_cX17_input_79 : decode cX17_input 79 = .ok (.putfield 383, 3) := by decide +kernel
theorem dr_cX17_input_82 : decode cX17_input 82 = .ok (.aload_n 0, 1) := by decide +kernel
theorem dr_cX17_input_83 : decode cX17_input 83 = .ok (.getfield 303, 3) := by decide +kernel
theorem dr_cX17_input_86 : decode cX17_input 86 = .ok (.arraylength, 1) := by decide +kernel
theorem dr_cX17_input_87 : decode cX17_input 87 = .ok (.ireturn, 1) := by decide +kernel
abbrev ky_inp : gKey := (cX17_input, 3, "SpillForgeModel", (some FieldType.int), [], "input", fun _ _ => True)
def inS (D : va_G) (I : FieldType → ClassId) (P0 : List Nat) (F0 : Nat → va_E) (γ0 el : Nat → Nat → Nat) (P : List Nat) (γ : Nat → Nat → Nat) (m A N : Nat) (e : va_E) (C : (Nat → Int32) → Prop) (F : Nat → va_E) : Prop := rSk 0 [] [10, 98] D I P0 F0 γ0 el P F γ el ∧ F m = e ∧ A ∈ P ∧ γ 0 A = 98 ∧ ∃ f : Nat → Int32, F A = .inl (I .int, N, .inl f) ∧ C f
/-- q ints are done, and j bytes of the next -/
def iC9 (t : Nat → Int32) (i j : Nat) (f : Nat → Int32) : Prop := (∀ q, q < i → f q = i4 t q 4) ∧ f i = i4 t i j ∧ ∀ q, i < q → f q = 0
theorem inS_a {D : va_G} {I : FieldType → ClassId} {P0 P : List Nat} {F0 F F1 : Nat → va_E} {γ0 γ el : Nat → Nat → Nat} {m A N : Nat} {e : va_E} {C C2 : (Nat → Int32) → Prop} {f1 : Nat → Int32} (h : inS D I P0 F0 γ0 el P γ m A N e C F) (hm : γ 0 m = 10) (hN : N ≤ 2048) (e1 : F1 A = .inl (I .int, N, .inl f1)) (n : ∀ b, b ≠ A → F1 b = F b) (hC : C2 f1) : inS D I P0 F0 γ0 el P γ m A N e C2 F1 := by
  obtain ⟨h1, h2, h3, h4, -⟩ := h
  have hmA : m ≠ A := fun q => by rw [q, h4] at hm; cases hm
  exact ⟨rSk_put h1 (RS_set h1.1 n (show rKd γ A 98 from h4) (by decide) ⟨N, f1, e1, by omega⟩) n (show rKd γ A 98 from h4) (by decide) (fun _ z => nomatch z), (n m hmA).trans h2, h3, h4, f1, e1, hC⟩
set_option maxRecDepth 100000 in
set_option maxHeartbeats 4000000 in
theorem in_l2 {l : Launch} {D : va_G} {I : FieldType → ClassId} {P0 P : List Nat} {F0 : Nat → va_E} {γ0 γ el : Nat → Nat → Nat} {m A N cs sl mc ms : Nat} {Qf : gFin} {r35 : Nat} {v9 v10 v11 v12 v13 v14 v23 v24 v25 v26 v27 v30 v32 v33 v34 i : Int32} (hm : γ 0 m = 10) (t25 : γ 0 (γ 9 31) = 99) (hN : N ≤ 2048) {ft : Nat → Int32} (htp : F0 (γ0 9 31) = .inl (I .byte, 8192, .inl ft)) (t250 : γ0 0 (γ0 9 31) = 99) (hi0 : 0 ≤ i.toInt) (hiN : i.toInt < (N : Int))
    (kk : ∀ (F : Nat → va_E) (jj : Int32), inS D I P0 F0 γ0 el P γ m A N (mdE γ A r35 v9 v10 v11 v12 v13 v14 v23 v24 v25 v26 v27 v30 v32 v33 v34) (iC9 ft i.toInt.toNat 4) F → G (gV D I) l (gRm 1 20 mc ms) Qf ky_inp 71 [(2, .int jj), (1, .int i), (0, .ref m)] [] (va_pl P F) cs sl) :
    ∀ (μ : Nat) (F : Nat → va_E) (jj : Int32), 4 - jj.toInt < (μ : Int) → 0 ≤ jj.toInt → jj.toInt ≤ 4 → inS D I P0 F0 γ0 el P γ m A N (mdE γ A r35 v9 v10 v11 v12 v13 v14 v23 v24 v25 v26 v27 v30 v32 v33 v34) (iC9 ft i.toInt.toNat jj.toInt.toNat) F →
    G (gV D I) l (gRm 1 20 mc ms) Qf ky_inp 30 [(2, .int jj), (1, .int i), (0, .ref m)] [] (va_pl P F) cs sl := by
  intro μ
  induction μ with
  | zero => intro F jj h h0 h4 _; exact absurd h (by omega)
  | succ μ ih =>
  intro F jj hμ h0 h4 hS
  obtain ⟨hk, he, mA, kA, fA, eA, hC⟩ := id hS
  have mm : m ∈ P := hk.1.1 m (by omega)
  have f1 : F (γ 9 31) = .inl (I .byte, 8192, .inl ft) := by rw [rSk_9 hk]; exact (rSk_F hk (show rKd γ0 _ 99 from t250) (by decide) (by decide)).trans htp
  have mt : γ 9 31 ∈ P := hk.1.1 _ (by omega)
  refine G_iload_n 0 dr_cX17_input_30 rfl ?_
  refine G_iconst 4 dr_cX17_input_31 (by decide +kernel) ?_
  have z4 : Int32.toInt 4 = 4 := by decide
  refine G_icmp_ge 71 dr_cX17_input_32 (by decide +kernel) (fun hc => kk F jj (by have q := Int32.le_iff_toInt_le.mp hc; rw [z4] at q; rw [show jj.toInt.toNat = 4 by omega] at hS; exact hS)) (fun hc => ?_)
  have hlt : jj.toInt < 4 := gj_nle hc rfl
  refine G_aload_n 2 dr_cX17_input_35 rfl ?_
  refine Gp_get 28 mm he dr_cX17_input_36 (gk_X17 D I) (Nat.le_of_ble_eq_true rfl) wr_7_102 rfl ?_
  refine G_iload_n 1 dr_cX17_input_39 rfl ?_
  refine G_aload_n 2 dr_cX17_input_40 rfl ?_
  refine Gp_get 28 mm he dr_cX17_input_41 (gk_X17 D I) (Nat.le_of_ble_eq_true rfl) wr_7_102 rfl ?_
  refine G_iload_n 1 dr_cX17_input_44 rfl ?_
  refine Gp_iald 0 mA eA dr_cX17_input_45 rfl (gB_inr hi0 hiN) (G_nam fun z1 hz1 => ?_)
  refine G_bipush 8 dr_cX17_input_46 (by decide +kernel) ?_
  refine G_ishl dr_cX17_input_48 (G_nam fun z2 hz2 => ?_)
  refine G_aload_n 2 dr_cX17_input_49 rfl ?_
  refine Gp_get 31 mm he dr_cX17_input_50 (gk_X17 D I) (Nat.le_of_ble_eq_true rfl) wr_7_105 rfl ?_
  refine G_iconst 4 dr_cX17_input_53 (by decide +kernel) ?_
  refine G_iload_n 1 dr_cX17_input_54 rfl ?_
  refine G_imul dr_cX17_input_55 (G_nam fun z3 hz3 => ?_)
  have bi : gB i 0 2048 := ⟨hi0, by omega⟩
  have e3 : z3.toInt = 4 * i.toInt := by rw [gI_mul hz3 (gBl z4) bi (by decide) (by decide) (by decide), z4]
  refine G_iload_n 0 dr_cX17_input_56 rfl ?_
  refine G_iadd dr_cX17_input_57 (G_nam fun z5 hz5 => ?_)
  have e5 : z5.toInt = z3.toInt + jj.toInt := gI_add hz5 (⟨by omega, by omega⟩ : gB z3 0 8192) (⟨h0, h4⟩ : gB jj 0 4) (by decide) (by decide)
  refine Gp_bald 1 mt f1 dr_cX17_input_58 rfl (gB_inr (by omega) (by omega)) (G_nam fun z6 hz6 => ?_)
  refine G_sipush 255 dr_cX17_input_59 (by decide +kernel) ?_
  refine G_iand dr_cX17_input_62 (G_nam fun z7 hz7 => ?_)
  refine G_ior dr_cX17_input_63 (G_nam fun z8 hz8 => ?_)
  refine Gp_iast 0 mA eA dr_cX17_input_64 rfl (gB_inr hi0 hiN) (fun F1 e1 n1 => ?_)
  obtain ⟨j1, hj1⟩ : ∃ z, z = jj + 1 := ⟨_, rfl⟩
  have ej : j1.toInt = jj.toInt + 1 := by rw [gI_add hj1 (⟨h0, h4⟩ : gB jj 0 4) (gBl (show Int32.toInt 1 = 1 by decide)) (by decide) (by decide), show Int32.toInt 1 = 1 from by decide]
  have ni : i.toNatClampNeg = i.toInt.toNat := nnE (show i.toInt = ((i.toInt.toNat : Nat) : Int) by omega)
  have n5 : z5.toNatClampNeg = 4 * i.toInt.toNat + jj.toInt.toNat := nnE (show z5.toInt = ((4 * i.toInt.toNat + jj.toInt.toNat : Nat) : Int) by omega)
  obtain ⟨q1, q2, q3⟩ := hC
  have v8 : z8 = i4 ft i.toInt.toNat (jj.toInt.toNat + 1) := by
    rw [hz8, hz7, hz2, hz1, hz6, n5, ni, q2]
    rfl
  have hS1 : inS D I P0 F0 γ0 el P γ m A N (mdE γ A r35 v9 v10 v11 v12 v13 v14 v23 v24 v25 v26 v27 v30 v32 v33 v34) (iC9 ft i.toInt.toNat j1.toInt.toNat) F1 := inS_a hS hm hN e1 n1 (by
    rw [show j1.toInt.toNat = jj.toInt.toNat + 1 by omega]
    refine ⟨fun q hq => ?_, ?_, fun q hq => ?_⟩
    · rw [ni, updN (by omega)]; exact q1 q hq
    · rw [ni, updE]; exact v8
    · rw [ni, updN (by omega)]; exact q3 q hq)
  refine G_iinc (L' := [(2, .int j1), (1, .int i), (0, .ref m)]) j1 0 dr_cX17_input_65 rfl (by rw [hj1]; rfl) (Nat.le_of_ble_eq_true rfl) rfl ?_
  refine G_goto 30 dr_cX17_input_68 (by decide +kernel) ?_
  exact ih F1 j1 (by omega) (by omega) (by omega) hS1
set_option maxRecDepth 100000 in
set_option maxHeartbeats 4000000 in
theorem in_l1 {l : Launch} {D : va_G} {I : FieldType → ClassId} {P0 P : List Nat} {F0 : Nat → va_E} {γ0 γ el : Nat → Nat → Nat} {m A N cs sl mc ms : Nat} {Qf : gFin} {r35 : Nat} {v9 v10 v11 v12 v13 v14 v23 v24 v25 v26 v27 v30 v32 v33 v34 : Int32} (hm : γ 0 m = 10) (t25 : γ 0 (γ 9 31) = 99) (hN : N ≤ 2048) {ft : Nat → Int32} (htp : F0 (γ0 9 31) = .inl (I .byte, 8192, .inl ft)) (t250 : γ0 0 (γ0 9 31) = 99)
    (kk : ∀ (F : Nat → va_E) (i : Int32), inS D I P0 F0 γ0 el P γ m A N (mdE γ A r35 v9 v10 v11 v12 v13 v14 v23 v24 v25 v26 v27 v30 v32 v33 v34) (iC9 ft N 0) F → G (gV D I) l (gRm 1 20 mc ms) Qf ky_inp 77 [(1, .int i), (0, .ref m)] [] (va_pl P F) cs sl) :
    ∀ (μ : Nat) (F : Nat → va_E) (i : Int32), (N : Int) - i.toInt < (μ : Int) → 0 ≤ i.toInt → i.toInt ≤ (N : Int) → inS D I P0 F0 γ0 el P γ m A N (mdE γ A r35 v9 v10 v11 v12 v13 v14 v23 v24 v25 v26 v27 v30 v32 v33 v34) (iC9 ft i.toInt.toNat 0) F →
    G (gV D I) l (gRm 1 20 mc ms) Qf ky_inp 19 [(1, .int i), (0, .ref m)] [] (va_pl P F) cs sl := by
  intro μ
  induction μ with
  | zero => intro F i h h0 h4 _; exact absurd h (by omega)
  | succ μ ih =>
  intro F i hμ h0 h4 hS
  obtain ⟨hk, he, mA, kA, fA, eA, hC⟩ := id hS
  have mm : m ∈ P := hk.1.1 m (by omega)
  refine G_iload_n 0 dr_cX17_input_19 rfl ?_
  refine G_aload_n 1 dr_cX17_input_20 rfl ?_
  refine Gp_get 28 mm he dr_cX17_input_21 (gk_X17 D I) (Nat.le_of_ble_eq_true rfl) wr_7_102 rfl ?_
  refine Gp_alen (Int32.ofNat N) 0 mA eA dr_cX17_input_24 rfl rfl (G_nam fun z hz => ?_)
  have ez : z.toInt = (N : Nat) := gI_ofM hz (by omega)
  refine G_icmp_ge 77 dr_cX17_input_25 (by decide +kernel) (fun hc => kk F i (by have q := Int32.le_iff_toInt_le.mp hc; rw [show i.toInt.toNat = N by omega] at hS; exact hS)) (fun hc => ?_)
  have hlt : i.toInt < z.toInt := gj_nle hc rfl
  refine G_iconst 0 dr_cX17_input_28 (by decide +kernel) ?_
  refine G_istore_n (L' := [(2, .int 0), (1, .int i), (0, .ref m)]) dr_cX17_input_29 (Nat.le_of_ble_eq_true rfl) rfl ?_
  have z0 : Int32.toInt 0 = 0 := by decide
  refine in_l2 hm t25 hN htp t250 h0 (by omega) (fun F1 jj hS1 => ?_) 5 F 0 (by rw [z0]; decide) (by rw [z0]; decide) (by rw [z0]; decide) hS
  obtain ⟨i1, hi1⟩ : ∃ z, z = i + 1 := ⟨_, rfl⟩
  have ei : i1.toInt = i.toInt + 1 := by rw [gI_add hi1 (⟨h0, by omega⟩ : gB i 0 2048) (gBl (show Int32.toInt 1 = 1 by decide)) (by decide) (by decide), show Int32.toInt 1 = 1 from by decide]
  refine G_iinc (L' := [(1, .int i1), (2, .int jj), (0, .ref m)]) i1 1 dr_cX17_input_71 rfl (by rw [hi1]; rfl) (Nat.le_of_ble_eq_true rfl) rfl ?_
  refine G_goto 19 dr_cX17_input_74 (by decide +kernel) ?_
  refine G_lv [0, 2] rfl ?_
  obtain ⟨u1, u2, u3, u4, u5, u6, u7⟩ := hS1
  exact ih F1 i1 (by omega) (by omega) (by omega) ⟨u1, u2, u3, u4, u5, u6, by
    rw [show i1.toInt.toNat = i.toInt.toNat + 1 by omega]
    refine ⟨fun q hq => ?_, u7.2.2 _ (by omega), fun q hq => u7.2.2 q (by omega)⟩
    by_cases e : q = i.toInt.toNat
    · rw [e]; exact u7.2.1
    · exact u7.1 q (by omega)⟩
set_option maxRecDepth 100000 in
set_option maxHeartbeats 4000000 in
theorem cp_input (l : Launch) (hl0 : l.stackTraces = false) (D : va_G) (I : FieldType → ClassId) {P : List Nat} {F : Nat → va_E} {γ el : Nat → Nat → Nat} {m : Nat} (hT : RS D I P F γ el) (hm : γ 0 m = 10) :
    CtA (gV D I) l yX17_input cX17_input 3 (some FieldType.int) 1 20 1 2048 [.ref m] (va_pl P F) (inP D I P F γ el m) gNA := by
  refine CtA_of hl0 (by decide) (Nat.le_of_ble_eq_true rfl) ?_
  obtain ⟨r28, r35, v9, v10, v11, v12, v13, v14, v23, v24, v25, v26, v27, v30, v32, v33, v34, he, hM1, hK, hM2⟩ := rk10_m (show rk_10 γ (F m) from RS_o hT hm)
  have hM1' := hM1
  obtain ⟨q9, q10, q11, q14, q25, q26, q27, q32, q34⟩ := hM1
  have mm : m ∈ P := hT.1 m (by omega)
  have e32 : fI (F m) 32 = v32 := by rw [he]; rfl
  have e10 : fI (F m) 10 = v10 := by rw [he]; rfl
  have e9 : fI (F m) 9 = v9 := by rw [he]; rfl
  have t25 : γ 0 (γ 9 31) = 99 := hK.2.2.2.2.2.2.2.2.2.2.2.2.2.2.2.2.2.2.2.2.1
  refine G_aload_n 0 dr_cX17_input_0 rfl ?_
  refine G_iconst 0 dr_cX17_input_1 (by decide +kernel) ?_
  refine Gp_put 30 mm he dr_cX17_input_2 (gk_X17 D I) (Nat.le_of_ble_eq_true rfl) wr_7_104 rfl rfl rfl (Nat.le_of_ble_eq_true rfl) (fun F1 e1 n1 => ?_)
  have e1' : F1 m = mdE γ r28 r35 v9 v10 v11 v12 v13 v14 v23 v24 v25 v26 v27 0 v32 v33 v34 := e1
  have hT1 := RS_md hT hm n1 e1' hM1' hK hM2
  have hk1 := rSk_put (rSk_rf (f := 0) (K := []) (KF := [10, 98]) hT) hT1 n1 (show rKd γ m 10 from hm) (by decide) (fun _ z => nomatch z)
  refine G_aload_n 0 dr_cX17_input_5 rfl ?_
  refine G_aload_n 0 dr_cX17_input_6 rfl ?_
  refine Gp_get 32 mm e1' dr_cX17_input_7 (gk_X17 D I) (Nat.le_of_ble_eq_true rfl) wr_7_106 rfl ?_
  refine G_iconst 4 dr_cX17_input_10 (by decide +kernel) ?_
  refine G_idiv dr_cX17_input_11 (by decide) (G_nam fun z hz => ?_)
  have ez : z.toInt = v32.toInt / 4 := gI_div hz q32 (by decide) (by decide) (by decide)
  have q32a := q32.1
  have q32b := q32.2
  have hz0 : 0 ≤ z.toInt := by omega
  have hz1 : z.toInt ≤ 2048 := by omega
  refine G_newa 0 (z.toInt.toNat, .inl (fun _ => 0)) dr_cX17_input_12 rfl rfl (by intro C h; cases h) wr_1_95 (fun _ => ga_int _ _) (g_n0 (by omega)) rfl (show z.toInt.toNat * 4 ≤ 536870912 by omega) (show 0 + 1 ≤ 1 by decide) (show 0 + z.toInt.toNat ≤ 2048 by omega) (fun A => Gp_in (fun P2 F2 hq hP e2 n2 => ?_))
  have hs2 : rSub P P2 := rSub_new (rSub_rf (P := P)) hP
  have A0 : γ 0 A = 0 := RS_new hT hq
  have mA2 : A ∈ P2 := (hP A).mpr (Or.inr rfl)
  have hN : z.toInt.toNat ≤ 2048 := by omega
  have sk2 : rSk 0 [] [10, 98] D I P F1 γ el P2 F2 (gNw γ A 98) el := rSk_nw hT1 hq hs2 mA2 n2 ⟨z.toInt.toNat, fun _ => 0, e2, by omega⟩
  have hk2 := rSk_tr hk1 sk2 (fun _ z => nomatch z) (fun _ z => z) (fun _ z => nomatch z)
  have hmA : m ≠ A := fun e => by rw [e, A0] at hm; cases hm
  have hm2 : gNw γ A 98 0 m = 10 := (gNw_ne hmA).trans hm
  have g9 : gNw γ A 98 9 = γ 9 := gNw_j (by decide)
  have e2m : F2 m = mdE (gNw γ A 98) r28 r35 v9 v10 v11 v12 v13 v14 v23 v24 v25 v26 v27 0 v32 v33 v34 := (n2 m hmA).trans e1'
  have mm2 := hs2 m mm
  have kA : gNw γ A 98 0 A = 98 := if_pos ⟨rfl, rfl⟩
  have hM2' : rM2 (gNw γ A 98) v9 v10 v34 r35 := by
    unfold rM2
    rw [gNw_j (j := 6) (by decide), gNw_j (j := 23) (by decide), gNw_j (j := 12) (by decide)]
    exact hM2
  refine Gp_put 28 mm2 e2m dr_cX17_input_14 (gk_X17 D I) (Nat.le_of_ble_eq_true rfl) wr_7_102 rfl rfl rfl (Nat.le_of_ble_eq_true rfl) (fun F3 e3 n3 => ?_)
  have e3' : F3 m = mdE (gNw γ A 98) A r35 v9 v10 v11 v12 v13 v14 v23 v24 v25 v26 v27 0 v32 v33 v34 := e3
  have hK3 := mdK_nw A0 hK
  have hT3 := RS_md hk2.1 hm2 n3 e3' hM1' hK3 hM2'
  have hk3 := rSk_put hk2 hT3 n3 (show rKd (gNw γ A 98) m 10 from hm2) (by decide) (fun _ z => nomatch z)
  have t25' : gNw γ A 98 0 (gNw γ A 98 9 31) = 99 := hK3.2.2.2.2.2.2.2.2.2.2.2.2.2.2.2.2.2.2.2.2.1
  obtain ⟨ft, htp, -⟩ := show rk_99 I (F (γ 9 31)) from RS_o hT t25
  have hS3 : inS D I P F γ el P2 (gNw γ A 98) m A z.toInt.toNat (mdE (gNw γ A 98) A r35 v9 v10 v11 v12 v13 v14 v23 v24 v25 v26 v27 0 v32 v33 v34) (iC9 ft (Int32.toInt 0).toNat 0) F3 := ⟨hk3, e3', mA2, kA, fun _ => 0, (n3 A (Ne.symm hmA)).trans e2, fun q hq => absurd hq (by rw [show (Int32.toInt 0).toNat = 0 from by decide]; omega), rfl, fun _ _ => rfl⟩
  refine G_iconst 0 dr_cX17_input_17 (by decide +kernel) ?_
  refine G_istore_n (L' := [(1, .int 0), (0, .ref m)]) dr_cX17_input_18 (Nat.le_of_ble_eq_true rfl) rfl ?_
  have z0 : Int32.toInt 0 = 0 := by decide
  refine in_l1 hm2 t25' hN htp t25 (fun F4 i hS4 => ?_) (z.toInt.toNat + 1) F3 0 (by rw [z0]; omega) (by rw [z0]; decide) (by rw [z0]; omega) hS3
  obtain ⟨hk4, he4, -, -, fA, eA4, hC4⟩ := id hS4
  refine G_aload_n 1 dr_cX17_input_77 rfl ?_
  refine G_iconst 0 dr_cX17_input_78 (by decide +kernel) ?_
  refine Gp_put 32 mm2 he4 dr_cX17_input_79 (gk_X17 D I) (Nat.le_of_ble_eq_true rfl) wr_7_106 rfl rfl rfl (Nat.le_of_ble_eq_true rfl) (fun F5 e5 n5 => ?_)
  have e5' : F5 m = mdE (gNw γ A 98) A r35 v9 v10 v11 v12 v13 v14 v23 v24 v25 v26 v27 0 0 v33 v34 := e5
  have hT5 := RS_md hk4.1 hm2 n5 e5' ⟨q9, q10, q11, q14, q25, q26, q27, ⟨by decide, by decide⟩, q34⟩ hK3 hM2'
  have hk5 := rSk_put hk4 hT5 n5 (show rKd (gNw γ A 98) m 10 from hm2) (by decide) (fun _ z => nomatch z)
  refine G_aload_n 1 dr_cX17_input_82 rfl ?_
  refine Gp_get 28 mm2 e5' dr_cX17_input_83 (gk_X17 D I) (Nat.le_of_ble_eq_true rfl) wr_7_102 rfl ?_
  refine Gp_alen (Int32.ofNat z.toInt.toNat) 0 mA2 ((n5 A (Ne.symm hmA)).trans eA4) dr_cX17_input_86 rfl rfl (G_nam fun x hx => ?_)
  exact G_iretA dr_cX17_input_87 rfl (show 0 + 1 ≤ 1 by decide) (show 0 + z.toInt.toNat ≤ 2048 by omega) ⟨P2, F5, gNw γ A 98, x, rfl, rfl, hk5, fun j hj => gNw_j hj, by rw [e5', e9]; rfl, by rw [e5', e10]; rfl, by rw [e5']; rfl, by omega, by rw [e32]; omega, by rw [e5', he]; rfl, by have ex := gI_ofM hx (by omega); rw [ex, e32]; omega, by rw [e5', he]; rfl, by rw [e5', he]; rfl, ft, htp, fA, by rw [e5']; exact ((n5 A (Ne.symm hmA)).trans eA4).trans (by rw [e32, ← ez]), fun q hq => hC4.1 q (by rw [e32, ← ez] at hq; exact hq)⟩
/- tr_RAbstractStringBuilder_ensureCapacityInternal3:  -/
def tr_RAbstractStringBuilder_ensureCapacityInternal3 (a1 : Int32) (a0_value_n : Nat) : Prop := ∀ R : Prop,
  (∀ (x1 : Int32) (x2 : Int32) (x3 : Int32), x1.toInt = (a0_value_n : Nat) → x2.toInt = x1.toInt / 1 → x3.toInt = a1.toInt - x2.toInt → x3.toInt ≤ 0 → R) →
  R
/- tr_RAbstractStringBuilder_ensureCapacityInternal3_g2: a.0.value.#, a.0.value.[] -/
def tr_RAbstractStringBuilder_ensureCapacityInternal3_g2 (a1 : Int32) (a0_value_v : Nat → Int32) (a0_value_n : Nat) (o1 : Nat) (o2 : Nat → Int32) : Prop := ∀ R : (Nat) → (Nat → Int32) → Prop,
  (∀ (x1 : Int32) (x2 : Int32) (x3 : Int32) (x4 : Int32) (x5 : Int32) (x6 : Nat → Int32), x1.toInt = (a0_value_n : Nat) → x2.toInt = x1.toInt / 1 → x3.toInt = a1.toInt - x2.toInt → 0 < x3.toInt → gB x4 1 33554432 → tr_RAbstractStringBuilder_newCapacity a1 a0_value_n x4 → x5.toInt = x4.toInt * 1 → tr_RArrays_copyOf3 x5 a0_value_v a0_value_n x6 → R x5.toInt.toNat x6) →
  R o1 o2
abbrev ky_677241_AbstractStringBuilder_ensureCapacityInternal : gKey := (cJ5_ensureCapacityInternal_d00df, 3, "java/lang/AbstractStringBuilder", none, [], "ensureCapacityInternal", fun _ _ => True)
def pp_677241_AbstractStringBuilder_ensureCapacityInternal (D : va_G) (I : FieldType → ClassId) (P677230 : List Nat) (F677231 : Nat → va_E) (q677232 : Nat) (q677233 : Nat) (p677234 : Int32) (p677235 : Int32) (p677236 : Int32) (f677237 : Nat → Int32) (n677238 : Nat) : Option Value → va_W → Nat → Nat → Prop := fun r w dc ds => (r = none ∧ w = va_pl P677230 F677231 ∧ dc ≤ 0 ∧ ds ≤ 0 ∧ p677234.toInt ≤ (n677238 : Int) ∧ (n677238 : Int) ≤ (n677238 : Int) ∧ ((n677238 : Int) = (n677238 : Int) ∨ (n677238 : Int) < p677234.toInt) ∧ ((n677238 : Int) ≤ 2 * (n677238 : Int) + 2 ∨ (n677238 : Int) ≤ p677234.toInt) ∧ ((n677238 : Int) = (n677238 : Int) ∨ (n677238 : Int) < p677234.toInt) ∧ ((n677238 : Int) = (n677238 : Int) ∨ 2 * (n677238 : Int) + 2 ≤ (n677238 : Int)) ∧ tr_RAbstractStringBuilder_ensureCapacityInternal3 p677234 n677238) ∨ (∃ (P677291 : List Nat) (F677292 : Nat → va_E) (q677288 : Nat) (n677289 : Nat) (f677290 : Nat → Int32), r = none ∧ w = va_pl P677291 F677292 ∧ rSub P677230 P677291 ∧ rFr [q677232] P677230 F677231 F677292 ∧ F677292 q677232 = .inr (1, [.ref q677288, .int 0, .int p677235, .int p677236]) ∧ F677292 q677288 = .inl (I .byte, n677289, .inl f677290) ∧ q677288 ∈ P677291 ∧ q677288 ∉ P677230 ∧ dc ≤ (min 1 (n677289 - n677238)) ∧ ds ≤ 2 * (n677289 - n677238) ∧ gF f677290 (-128) 127 ∧ p677234.toInt ≤ (n677289 : Int) ∧ (n677238 : Int) ≤ (n677289 : Int) ∧ ((n677289 : Int) = (n677238 : Int) ∨ (n677238 : Int) < p677234.toInt) ∧ ((n677289 : Int) ≤ 2 * (n677238 : Int) + 2 ∨ (n677289 : Int) ≤ p677234.toInt) ∧ ((n677289 : Int) = (n677238 : Int) ∨ (n677238 : Int) < p677234.toInt) ∧ ((n677289 : Int) = (n677238 : Int) ∨ 2 * (n677238 : Int) + 2 ≤ (n677289 : Int)) ∧ tr_RAbstractStringBuilder_ensureCapacityInternal3_g2 p677234 f677237 n677238 n677289 f677290)
set_option maxRecDepth 100000 in
set_option maxHeartbeats 4000000 in
theorem cp_677241_AbstractStringBuilder_ensureCapacityInternal (l : Launch) (hl0 : l.stackTraces = false) (D : va_G) (I : FieldType → ClassId) (P677230 : List Nat) (F677231 : Nat → va_E) (q677232 : Nat) (q677233 : Nat) (p677234 : Int32) (p677235 : Int32) (p677236 : Int32) (f677237 : Nat → Int32) (n677238 : Nat) (hmq677232 : q677232 ∈ P677230) (hmq677233 : q677233 ∈ P677230) (heq677232 : F677231 q677232 = .inr (1, [.ref q677233, .int 0, .int p677235, .int p677236])) (heq677233 : F677231 q677233 = .inl (I .byte, n677238, .inl f677237)) (bp677234 : gB p677234 0 8388608) (bp677235 : gB p677235 0 1) (bp677236 : gB p677236 0 16777216) (bf677237 : gF f677237 (-128) 127) (x677239 : (n677238 : Int) ≤ 8388608) (x677240 : ((n677238 : Int) ≤ 16777216)) : CtA (gV D I) l yJ5_ensureCapacityInternal_d00df cJ5_ensureCapacityInternal_d00df 3 none 3 62 1 (2 * n677238 + 2 + p677234.toInt.toNat) [.ref q677232, .int p677234] (va_pl P677230 F677231) (pp_677241_AbstractStringBuilder_ensureCapacityInternal D I P677230 F677231 q677232 q677233 p677234 p677235 p677236 f677237 n677238) gNA := by
  refine CtA_ofF hl0 (by decide +kernel) (Nat.le_of_ble_eq_true rfl) ?_
  refine G_aload_n 0 dr_cJ5_ensureCapacityInternal_d00df_0 rfl ?_
  refine Gp_get 0 hmq677232 heq677232 dr_cJ5_ensureCapacityInternal_d00df_1 (gk_J4 D I) (Nat.le_of_ble_eq_true rfl) wr_7_60 rfl ?_
  refine Gp_alen (Int32.ofNat n677238) 1 hmq677233 heq677233 dr_cJ5_ensureCapacityInternal_d00df_4 rfl rfl (G_nam fun z677242 hz677242 => ?_)
  have ez677242 : z677242.toInt = (n677238 : Nat) := gI_ofM hz677242 (by omega)
  have bz677242 : gB z677242 0 16777216 := ⟨by omega, by omega⟩
  refine G_aload_n 0 dr_cJ5_ensureCapacityInternal_d00df_5 rfl ?_
  refine Gp_get 1 hmq677232 heq677232 dr_cJ5_ensureCapacityInternal_d00df_6 (gk_J4 D I) (Nat.le_of_ble_eq_true rfl) wr_7_61 rfl ?_
  refine G_ishr dr_cJ5_ensureCapacityInternal_d00df_9 (G_nam fun z677243 hz677243 => ?_)
  have ez677243 : z677243.toInt = z677242.toInt / 1 := gI_shr (k := 0) hz677243 (by decide)
  have bz677243 : gB z677243 0 16777216 := ⟨by omega, by omega⟩
  refine G_istore_n (L' := [(2, .int z677243), (0, .ref q677232), (1, .int p677234)]) dr_cJ5_ensureCapacityInternal_d00df_10 (Nat.le_of_ble_eq_true rfl) rfl ?_
  refine G_iload_n 2 dr_cJ5_ensureCapacityInternal_d00df_11 rfl ?_
  refine G_iload_n 0 dr_cJ5_ensureCapacityInternal_d00df_12 rfl ?_
  refine G_isub dr_cJ5_ensureCapacityInternal_d00df_13 (G_nam fun z677244 hz677244 => ?_)
  have ez677244 : z677244.toInt = p677234.toInt - z677243.toInt := by rw [gI_sub hz677244 bp677234 bz677243 (by decide) (by decide)]
  have bz677244 : gB z677244 (-16777216) 8388608 := gB_sub (gI_sub hz677244 bp677234 bz677243 (by decide) (by decide)) bp677234 bz677243 (by decide) (by decide)
  refine G_if_le 38 dr_cJ5_ensureCapacityInternal_d00df_14 (by decide +kernel) (fun hc677245 => ?_) (fun hc677245 => ?_)
  · have r677246 : z677244.toInt ≤ 0 := gj_le hc677245 (show Int32.toInt 0 = 0 by decide)
    have bz677244' : gB z677244 (-16777216) 0 := ⟨by omega, by omega⟩
    exact G_vretA dr_cJ5_ensureCapacityInternal_d00df_38 rfl (Nat.le_of_ble_eq_true rfl) (Nat.le_of_ble_eq_true rfl) (Or.inl ⟨rfl, rfl, (Nat.le_of_ble_eq_true rfl), (Nat.le_of_ble_eq_true rfl), (by have qa0 : Int32.toInt 0 = 0 := (by decide); omega), (by have qa0 : Int32.toInt 0 = 0 := (by decide); omega), (by have qa0 : Int32.toInt 0 = 0 := (by decide); omega), (by have qa0 : Int32.toInt 0 = 0 := (by decide); omega), (by have qa0 : Int32.toInt 0 = 0 := (by decide); omega), (by have qa0 : Int32.toInt 0 = 0 := (by decide); omega), (fun R c1 => c1 z677242 z677243 z677244 ez677242 ez677243 ez677244 r677246)⟩)
  · have r677247 : 0 < z677244.toInt := gj_nle hc677245 (show Int32.toInt 0 = 0 by decide)
    have bz677244' : gB z677244 1 8388608 := ⟨by omega, by omega⟩
    refine G_aload_n 1 dr_cJ5_ensureCapacityInternal_d00df_17 rfl ?_
    refine G_aload_n 1 dr_cJ5_ensureCapacityInternal_d00df_18 rfl ?_
    refine Gp_get 0 hmq677232 heq677232 dr_cJ5_ensureCapacityInternal_d00df_19 (gk_J4 D I) (Nat.le_of_ble_eq_true rfl) wr_7_60 rfl ?_
    refine G_aload_n 1 dr_cJ5_ensureCapacityInternal_d00df_22 rfl ?_
    refine G_iload_n 2 dr_cJ5_ensureCapacityInternal_d00df_23 rfl ?_
    refine Gw_callVB (As := [.int p677234]) (gV_ok D I) (cp_658841_AbstractStringBuilder_newCapacity l hl0 D I P677230 F677231 q677232 q677233 p677234 p677235 p677236 f677237 n677238 hmq677232 hmq677233 heq677232 heq677233 bp677234 bp677235 bp677236 bf677237 (by have qa0 : Int32.toInt 0 = 0 := (by decide); omega) (by have qa0 : Int32.toInt 0 = 0 := (by decide); omega) (by have qa0 : Int32.toInt 0 = 0 := (by decide); omega)) dr_cJ5_ensureCapacityInternal_d00df_24 ⟨wr_8_8, wr_1_19, wr_8_11, by decide, rfl, (Nat.le_of_ble_eq_true rfl), (Nat.le_of_ble_eq_true rfl)⟩ wr_8_10 wr_s_1 hmq677232 heq677232 rfl (show 0 + 0 ≤ 1 by first | omega | decide) (show 0 + 0 ≤ (2 * n677238 + 2 + p677234.toInt.toNat) by first | omega | decide) (Nat.le_of_ble_eq_true rfl) (fun r677251 w677252 dc677248 ds677249 hp677250 => ?_) (fun _ _ _ _ _ z => z.elim)
    obtain ⟨o677253, rfl, rfl, hdc, hds, bo677253, x677254, x677255, x677256, ht677257⟩ := hp677250
    change G _ _ _ _ _ _ _ (.int o677253 :: _) _ _ _
    refine G_widen (cs' := 0) (sl' := 0) (by omega) (by omega) ?_
    refine G_aload_n 1 dr_cJ5_ensureCapacityInternal_d00df_27 rfl ?_
    refine Gp_get 1 hmq677232 heq677232 dr_cJ5_ensureCapacityInternal_d00df_28 (gk_J4 D I) (Nat.le_of_ble_eq_true rfl) wr_7_61 rfl ?_
    refine G_ishl dr_cJ5_ensureCapacityInternal_d00df_31 (G_nam fun z677258 hz677258 => ?_)
    have ez677258 : z677258.toInt = o677253.toInt * 1 := gI_shl (k := 0) hz677258 (by decide) bo677253 (by decide) (by decide)
    have bz677258 : gB z677258 1 33554432 := ⟨by omega, by omega⟩
    refine Gw_callS (As := [.ref q677233, .int z677258]) (gV_ok D I) (cp_658876_Arrays_copyOf l hl0 D I P677230 F677231 q677233 z677258 f677237 n677238 hmq677233 heq677233 (gB_w bz677258 (by decide) (by decide)) bf677237 (by have qa0 : Int32.toInt 0 = 0 := (by decide); omega) (by have qa0 : Int32.toInt 0 = 0 := (by decide); omega)) dr_cJ5_ensureCapacityInternal_d00df_32 ⟨wr_8_21, wr_1_30, wr_8_23, by decide, rfl, (Nat.le_of_ble_eq_true rfl), (Nat.le_of_ble_eq_true rfl)⟩ wr_8_22 (show 0 + 1 ≤ 1 by first | omega | decide) (show 0 + z677258.toInt.toNat ≤ (2 * n677238 + 2 + p677234.toInt.toNat) by first | omega | decide) (Nat.le_of_ble_eq_true rfl) (fun r677262 w677263 dc677259 ds677260 hp677261 => ?_) (fun _ _ _ _ _ z => z.elim)
    obtain ⟨P677267, F677268, q677264, f677265, rfl, rfl, hsb677269, hfr677270, he677271, he677272, hm677273, hq677274, hdc, hds, bf677265, ht677266⟩ := hp677261
    have hm677275 : q677232 ∈ P677267 := hsb677269 q677232 hmq677232
    have hm677276 : q677233 ∈ P677267 := hsb677269 q677233 hmq677233
    have hq677277 : q677264 ∉ P677230 := fun z => hq677274 ((rSub_rf (P := P677230)) q677264 z)
    have hsb677278 : rSub P677230 P677267 := rSub_tr (rSub_rf (P := P677230)) hsb677269
    have he677279 : F677268 q677232 = .inr (1, [.ref q677233, .int 0, .int p677235, .int p677236]) := (hfr677270 q677232 hmq677232 nm_n).trans heq677232
    have hfr677280 : rFr [] P677230 F677231 F677268 := rFr_call (rSub_rf (P := P677230)) (rFr_rf (W := []) (P := P677230) (F := F677231)) hfr677270 (fun b hb hn => ⟨nm_n, nm_n⟩)
    change G _ _ _ _ _ _ _ (.ref q677264 :: _) _ _ _
    refine G_widen (cs' := 1) (sl' := z677258.toInt.toNat) (by omega) (by omega) ?_
    refine Gp_put 0 hm677275 he677279 dr_cJ5_ensureCapacityInternal_d00df_35 (gk_J4 D I) (Nat.le_of_ble_eq_true rfl) wr_7_60 rfl rfl rfl (Nat.le_of_ble_eq_true rfl) (fun F677281 e677282 n677283 => ?_)
    have he677284 : F677281 q677233 = .inl (I .byte, n677238, .inl f677237) := (n677283 q677233 (rn_ao he677271 he677279)).trans he677271
    have he677285 : F677281 q677264 = .inl (I .byte, z677258.toInt.toNat, .inl f677265) := (n677283 q677264 (fun h => hq677277 (h ▸ hmq677232))).trans he677272
    have he677286 : F677281 q677232 = .inr (1, [.ref q677264, .int 0, .int p677235, .int p677236]) := e677282
    have hfr677287 : rFr [q677232] P677230 F677231 F677281 := rFr_put hfr677280 n677283
    exact G_vretA dr_cJ5_ensureCapacityInternal_d00df_38 rfl (Nat.le_of_ble_eq_true rfl) (show z677258.toInt.toNat ≤ (2 * n677238 + 2 + p677234.toInt.toNat) by omega) (Or.inr (⟨P677267, F677281, q677264, z677258.toInt.toNat, f677265, rfl, rfl, hsb677278, hfr677287, he677286, he677285, hm677273, hq677277, (by omega), (by omega), bf677265, (by have qa0 : Int32.toInt 0 = 0 := (by decide); omega), (by have qa0 : Int32.toInt 0 = 0 := (by decide); omega), (by have qa0 : Int32.toInt 0 = 0 := (by decide); omega), (by have qa0 : Int32.toInt 0 = 0 := (by decide); omega), (by have qa0 : Int32.toInt 0 = 0 := (by decide); omega), (by have qa0 : Int32.toInt 0 = 0 := (by decide); omega), (fun R c1 => c1 z677242 z677243 z677244 o677253 z677258 f677265 ez677242 ez677243 ez677244 r677247 bo677253 ht677257 ez677258 ht677266)⟩))
/- tr_RAbstractStringBuilder_append9: a.0...count, a.0.value.[] -/
def tr_RAbstractStringBuilder_append9 (a1 : Int32) (a0_count : Int32) (a0_value_v : Nat → Int32) (a0_value_n : Nat) (o1 : Int32) (o2 : Nat → Int32) : Prop := ∀ R : (Int32) → (Nat → Int32) → Prop,
  (∀ (x1 : Int32) (x2 : Int32) (x3 : Int32) (x4 : Nat → Int32), x1.toInt = a0_count.toInt + 1 → tr_RAbstractStringBuilder_ensureCapacityInternal3 x1 a0_value_n → tr_RStringLatin1_canEncode a1 (1 : Int32) → x2.toInt = a0_count.toInt + 1 → x3 = a1.toInt8.toInt32 → x4 = upd a0_value_v a0_count.toNatClampNeg (vp_nar .byte x3) → R x2 x4) →
  R o1 o2
/- tr_RAbstractStringBuilder_append9_g2: a.0...count, a.0.value.#, a.0.value.[] -/
def tr_RAbstractStringBuilder_append9_g2 (a1 : Int32) (a0_count : Int32) (a0_value_v : Nat → Int32) (a0_value_n : Nat) (o1 : Int32) (o2 : Nat) (o3 : Nat → Int32) : Prop := ∀ R : (Int32) → (Nat) → (Nat → Int32) → Prop,
  (∀ (x1 : Int32) (x2 : Nat) (x3 : Nat → Int32) (x4 : Int32) (x5 : Int32) (x6 : Nat → Int32), x1.toInt = a0_count.toInt + 1 → tr_RAbstractStringBuilder_ensureCapacityInternal3_g2 x1 a0_value_v a0_value_n x2 x3 → tr_RStringLatin1_canEncode a1 (1 : Int32) → x4.toInt = a0_count.toInt + 1 → x5 = a1.toInt8.toInt32 → x6 = upd x3 a0_count.toNatClampNeg (vp_nar .byte x5) → R x4 x2 x6) →
  R o1 o2 o3
abbrev ky_677228_AbstractStringBuilder_append : gKey := (cJ5_append_3fe6f, 2, "java/lang/AbstractStringBuilder", (some (FieldType.object "java/lang/AbstractStringBuilder")), [], "append", fun _ _ => True)
def pp_677228_AbstractStringBuilder_append (D : va_G) (I : FieldType → ClassId) (P677216 : List Nat) (F677217 : Nat → va_E) (q677218 : Nat) (q677219 : Nat) (p677220 : Int32) (p677221 : Int32) (p677222 : Int32) (f677223 : Nat → Int32) (n677224 : Nat) : Option Value → va_W → Nat → Nat → Prop := fun r w dc ds => (∃ (F677396 : Nat → va_E) (o677393 : Int32) (f677394 : Nat → Int32), r = some (.ref q677218) ∧ w = va_pl P677216 F677396 ∧ rFr [q677219, q677218] P677216 F677217 F677396 ∧ F677396 q677218 = .inr (1, [.ref q677219, .int 0, .int p677221, .int o677393]) ∧ F677396 q677219 = .inl (I .byte, n677224, .inl f677394) ∧ dc ≤ 0 ∧ ds ≤ 0 ∧ gB o677393 1 16777216 ∧ gF f677394 (-128) 127 ∧ o677393.toInt = p677222.toInt + 1 ∧ o677393.toInt ≤ (n677224 : Int) ∧ (n677224 : Int) ≤ (n677224 : Int) ∧ (n677224 : Int) ≤ 2 * (n677224 : Int) + 2 ∧ ((n677224 : Int) = (n677224 : Int) ∨ (n677224 : Int) < o677393.toInt) ∧ ((n677224 : Int) = (n677224 : Int) ∨ 2 * (n677224 : Int) + 2 ≤ (n677224 : Int)) ∧ tr_RAbstractStringBuilder_append9 p677220 p677222 f677223 n677224 o677393 f677394) ∨ (∃ (P677401 : List Nat) (F677402 : Nat → va_E) (o677397 : Int32) (q677398 : Nat) (n677399 : Nat) (f677400 : Nat → Int32), r = some (.ref q677218) ∧ w = va_pl P677401 F677402 ∧ rSub P677216 P677401 ∧ rFr [q677218] P677216 F677217 F677402 ∧ F677402 q677218 = .inr (1, [.ref q677398, .int 0, .int p677221, .int o677397]) ∧ F677402 q677398 = .inl (I .byte, n677399, .inl f677400) ∧ q677398 ∈ P677401 ∧ q677398 ∉ P677216 ∧ dc ≤ (min 1 (n677399 - n677224)) ∧ ds ≤ 2 * (n677399 - n677224) ∧ gB o677397 1 16777216 ∧ gF f677400 (-128) 127 ∧ o677397.toInt = p677222.toInt + 1 ∧ o677397.toInt ≤ (n677399 : Int) ∧ (n677224 : Int) ≤ (n677399 : Int) ∧ (n677399 : Int) ≤ 2 * (n677224 : Int) + 2 ∧ ((n677399 : Int) = (n677224 : Int) ∨ (n677224 : Int) < o677397.toInt) ∧ ((n677399 : Int) = (n677224 : Int) ∨ 2 * (n677224 : Int) + 2 ≤ (n677399 : Int)) ∧ tr_RAbstractStringBuilder_append9_g2 p677220 p677222 f677223 n677224 o677397 n677399 f677400)
set_option maxRecDepth 100000 in
set_option maxHeartbeats 4000000 in
theorem cp_677228_AbstractStringBuilder_append (l : Launch) (hl0 : l.stackTraces = false) (D : va_G) (I : FieldType → ClassId) (P677216 : List Nat) (F677217 : Nat → va_E) (q677218 : Nat) (q677219 : Nat) (p677220 : Int32) (p677221 : Int32) (p677222 : Int32) (f677223 : Nat → Int32) (n677224 : Nat) (hmq677218 : q677218 ∈ P677216) (hmq677219 : q677219 ∈ P677216) (heq677218 : F677217 q677218 = .inr (1, [.ref q677219, .int 0, .int p677221, .int p677222])) (heq677219 : F677217 q677219 = .inl (I .byte, n677224, .inl f677223)) (bp677220 : gB p677220 0 255) (bp677221 : gB p677221 0 1) (bp677222 : gB p677222 0 16777216) (bf677223 : gF f677223 (-128) 127) (x677225 : (n677224 : Int) ≤ 8388608 - 100000) (x677226 : p677222.toInt ≤ (n677224 : Int)) (x677227 : ((n677224 : Int) ≤ 16777216)) : CtA (gV D I) l yJ5_append_3fe6f cJ5_append_3fe6f 2 (some (FieldType.object "java/lang/AbstractStringBuilder")) 4 84 1 (4 * n677224 + 8) [.ref q677218, .int p677220] (va_pl P677216 F677217) (pp_677228_AbstractStringBuilder_append D I P677216 F677217 q677218 q677219 p677220 p677221 p677222 f677223 n677224) gNA := by
  refine CtA_ofF hl0 (by decide +kernel) (Nat.le_of_ble_eq_true rfl) ?_
  refine G_aload_n 0 dr_cJ5_append_3fe6f_0 rfl ?_
  refine G_aload_n 0 dr_cJ5_append_3fe6f_1 rfl ?_
  refine Gp_get 3 hmq677218 heq677218 dr_cJ5_append_3fe6f_2 (gk_J4 D I) (Nat.le_of_ble_eq_true rfl) wr_7_64 rfl ?_
  refine G_iconst 1 dr_cJ5_append_3fe6f_5 (by decide +kernel) ?_
  refine G_iadd dr_cJ5_append_3fe6f_6 (G_nam fun z677229 hz677229 => ?_)
  have ez677229 : z677229.toInt = p677222.toInt + 1 := by rw [gI_add hz677229 bp677222 (gBl (show Int32.toInt 1 = 1 by decide)) (by decide) (by decide), show Int32.toInt 1 = 1 from by decide]
  have bz677229 : gB z677229 1 16777217 := gB_add (gI_add hz677229 bp677222 (gBl (show Int32.toInt 1 = 1 by decide)) (by decide) (by decide)) bp677222 (gBl (show Int32.toInt 1 = 1 by decide)) (by decide) (by decide)
  refine Gw_callVB (As := [.int z677229]) (gV_ok D I) (cp_677241_AbstractStringBuilder_ensureCapacityInternal l hl0 D I P677216 F677217 q677218 q677219 z677229 p677221 p677222 f677223 n677224 hmq677218 hmq677219 heq677218 heq677219 ⟨by omega, by omega⟩ bp677221 bp677222 bf677223 (by have qa0 : Int32.toInt 0 = 0 := (by decide); omega) (by have qa0 : Int32.toInt 0 = 0 := (by decide); omega)) dr_cJ5_append_3fe6f_7 ⟨wr_8_4, wr_1_19, wr_8_7, by decide, rfl, (Nat.le_of_ble_eq_true rfl), (Nat.le_of_ble_eq_true rfl)⟩ wr_8_6 wr_s_0 hmq677218 heq677218 rfl (show 0 + 1 ≤ 1 by first | omega | decide) (show 0 + (2 * n677224 + 2 + z677229.toInt.toNat) ≤ (4 * n677224 + 8) by first | omega | decide) (Nat.le_of_ble_eq_true rfl) (fun r677296 w677297 dc677293 ds677294 hp677295 => ?_) (fun _ _ _ _ _ z => z.elim)
  rcases hp677295 with hp677298 | hp677299
  · obtain ⟨rfl, rfl, hdc, hds, x677300, x677301, x677302, x677303, x677304, x677305, ht677306⟩ := hp677298
    change G _ _ _ _ _ _ _ _ _ _ _
    refine G_widen (cs' := 0) (sl' := 0) (by omega) (by omega) ?_
    refine G_aload_n 0 dr_cJ5_append_3fe6f_10 rfl ?_
    refine Gw_callVB (As := []) (gV_ok D I) (cp_658723_AbstractStringBuilder_isLatin1 l hl0 D I P677216 F677217 q677218 q677219 p677221 p677222 f677223 n677224 hmq677218 hmq677219 heq677218 heq677219 bp677221 bp677222 bf677223 (by have qa0 : Int32.toInt 0 = 0 := (by decide); omega)) dr_cJ5_append_3fe6f_11 ⟨wr_8_33, wr_1_19, wr_8_37, by decide, rfl, (Nat.le_of_ble_eq_true rfl), (Nat.le_of_ble_eq_true rfl)⟩ wr_8_34 wr_8_36 hmq677218 heq677218 rfl (show 0 + 0 ≤ 1 by first | omega | decide) (show 0 + 0 ≤ (4 * n677224 + 8) by first | omega | decide) (Nat.le_of_ble_eq_true rfl) (fun r677310 w677311 dc677307 ds677308 hp677309 => ?_) (fun _ _ _ _ _ z => z.elim)
    obtain ⟨rfl, rfl, hdc, hds⟩ := hp677309
    change G _ _ _ _ _ _ _ (.int 1 :: _) _ _ _
    refine G_widen (cs' := 0) (sl' := 0) (by omega) (by omega) ?_
    refine G_if_eq 45 dr_cJ5_append_3fe6f_14 (by decide +kernel) (fun hc => absurd hc (by decide)) (fun _ => ?_)
    refine G_iload_n 1 dr_cJ5_append_3fe6f_17 rfl ?_
    refine Gw_callS (As := [.int p677220]) (gV_ok D I) (cp_658732_StringLatin1_canEncode l hl0 D I P677216 F677217 p677220 (gB_w bp677220 (by decide) (by decide))) dr_cJ5_append_3fe6f_18 ⟨wr_8_38, wr_1_28, wr_8_40, by decide, rfl, (Nat.le_of_ble_eq_true rfl), (Nat.le_of_ble_eq_true rfl)⟩ wr_8_39 (show 0 + 0 ≤ 1 by first | omega | decide) (show 0 + 0 ≤ (4 * n677224 + 8) by first | omega | decide) (Nat.le_of_ble_eq_true rfl) (fun r677315 w677316 dc677312 ds677313 hp677314 => ?_) (fun _ _ _ _ _ z => z.elim)
    rcases hp677314 with ⟨rfl, rfl, hdc, hds, r677317, r677318⟩ | ⟨rfl, rfl, hdc, hds, r677319, r677320⟩
    · exact absurd (show False by omega) not_false
    · change G _ _ _ _ _ _ _ (.int 1 :: _) _ _ _
      refine G_widen (cs' := 0) (sl' := 0) (by omega) (by omega) ?_
      refine G_if_eq 45 dr_cJ5_append_3fe6f_21 (by decide +kernel) (fun hc => absurd hc (by decide)) (fun _ => ?_)
      refine G_aload_n 0 dr_cJ5_append_3fe6f_24 rfl ?_
      refine Gp_get 0 hmq677218 heq677218 dr_cJ5_append_3fe6f_25 (gk_J4 D I) (Nat.le_of_ble_eq_true rfl) wr_7_60 rfl ?_
      refine G_aload_n 0 dr_cJ5_append_3fe6f_28 rfl ?_
      refine G_dup dr_cJ5_append_3fe6f_29 rfl ?_
      refine Gp_get 3 hmq677218 heq677218 dr_cJ5_append_3fe6f_30 (gk_J4 D I) (Nat.le_of_ble_eq_true rfl) wr_7_64 rfl ?_
      refine G_dup_x1 dr_cJ5_append_3fe6f_33 rfl rfl ?_
      refine G_iconst 1 dr_cJ5_append_3fe6f_34 (by decide +kernel) ?_
      refine G_iadd dr_cJ5_append_3fe6f_35 (G_nam fun z677322 hz677322 => ?_)
      have ez677322 : z677322.toInt = p677222.toInt + 1 := by rw [gI_add hz677322 bp677222 (gBl (show Int32.toInt 1 = 1 by decide)) (by decide) (by decide), show Int32.toInt 1 = 1 from by decide]
      have bz677322 : gB z677322 1 16777217 := gB_add (gI_add hz677322 bp677222 (gBl (show Int32.toInt 1 = 1 by decide)) (by decide) (by decide)) bp677222 (gBl (show Int32.toInt 1 = 1 by decide)) (by decide) (by decide)
      refine Gp_put 3 hmq677218 heq677218 dr_cJ5_append_3fe6f_36 (gk_J4 D I) (Nat.le_of_ble_eq_true rfl) wr_7_64 rfl rfl rfl (Nat.le_of_ble_eq_true rfl) (fun F677323 e677324 n677325 => ?_)
      have he677326 : F677323 q677219 = .inl (I .byte, n677224, .inl f677223) := (n677325 q677219 (rn_ao heq677219 heq677218)).trans heq677219
      have he677327 : F677323 q677218 = .inr (1, [.ref q677219, .int 0, .int p677221, .int z677322]) := e677324
      have hfr677328 : rFr [q677218] P677216 F677217 F677323 := rFr_put (rFr_rf (W := []) (P := P677216) (F := F677217)) n677325
      refine G_iload_n 1 dr_cJ5_append_3fe6f_39 rfl ?_
      refine G_i2b dr_cJ5_append_3fe6f_40 (G_nam fun z677329 hz677329 => ?_)
      have bz677329 : gB z677329 (-128) 127 := gB_i2b hz677329
      refine Gp_bast 1 hmq677219 he677326 dr_cJ5_append_3fe6f_41 rfl (gB_inr (by omega) (by omega)) (fun F677330 e677331 n677332 => ?_)
      obtain ⟨f677333, hf677333⟩ : ∃ z, z = upd f677223 p677222.toNatClampNeg (vp_nar .byte z677329) := ⟨_, rfl⟩
      rw [← hf677333] at e677331
      have he677334 : F677330 q677218 = .inr (1, [.ref q677219, .int 0, .int p677221, .int z677322]) := (n677332 q677218 (rn_oa he677327 he677326)).trans he677327
      have he677335 : F677330 q677219 = .inl (I .byte, n677224, .inl f677333) := e677331
      have hfr677336 : rFr [q677219, q677218] P677216 F677217 F677330 := rFr_put hfr677328 n677332
      have bf677333 : gF f677333 (-128) 127 := gF_upd hf677333 bf677223 gB_byte
      refine G_goto 75 dr_cJ5_append_3fe6f_42 (by decide +kernel) ?_
      refine G_aload_n 0 dr_cJ5_append_3fe6f_75 rfl ?_
      exact G_aretA (FieldType.object "java/lang/AbstractStringBuilder") dr_cJ5_append_3fe6f_76 rfl (by first | exact Or.inl ⟨_, rfl⟩ | exact Or.inr ⟨_, rfl⟩) (Or.inr ⟨_, rfl⟩) (Nat.le_of_ble_eq_true rfl) (Nat.le_of_ble_eq_true rfl) (Or.inl ⟨F677330, z677322, f677333, rfl, rfl, hfr677336, he677334, he677335, (Nat.le_of_ble_eq_true rfl), (Nat.le_of_ble_eq_true rfl), ⟨by omega, by omega⟩, bf677333, (by have qa0 : Int32.toInt 0 = 0 := (by decide); omega), (by have qa0 : Int32.toInt 0 = 0 := (by decide); omega), (by have qa0 : Int32.toInt 0 = 0 := (by decide); omega), (by have qa0 : Int32.toInt 0 = 0 := (by decide); omega), (by have qa0 : Int32.toInt 0 = 0 := (by decide); omega), (by have qa0 : Int32.toInt 0 = 0 := (by decide); omega), (fun R c1 => c1 z677229 z677322 z677329 f677333 ez677229 ht677306 r677320 ez677322 hz677329 hf677333)⟩)
  · obtain ⟨P677347, F677348, q677337, n677338, f677339, rfl, rfl, hsb677349, hfr677350, he677351, he677352, hm677353, hq677354, hdc, hds, bf677339, x677340, x677341, x677342, x677343, x677344, x677345, ht677346⟩ := hp677299
    have hm677355 : q677218 ∈ P677347 := hsb677349 q677218 hmq677218
    have hm677356 : q677219 ∈ P677347 := hsb677349 q677219 hmq677219
    have hq677357 : q677337 ∉ P677216 := fun z => hq677354 ((rSub_rf (P := P677216)) q677337 z)
    have hsb677358 : rSub P677216 P677347 := rSub_tr (rSub_rf (P := P677216)) hsb677349
    have he677359 : F677348 q677219 = .inl (I .byte, n677224, .inl f677223) := (hfr677350 q677219 hmq677219 (nm_c (rn_ao heq677219 heq677218) nm_n)).trans heq677219
    have hfr677360 : rFr [q677218] P677216 F677217 F677348 := rFr_call (rSub_rf (P := P677216)) (rFr_rf (W := []) (P := P677216) (F := F677217)) hfr677350 (fun b hb hn => ⟨nm_n, (nm_c (fun e => hn (e ▸ List.mem_cons_self)) nm_n)⟩)
    change G _ _ _ _ _ _ _ _ _ _ _
    refine G_widen (cs' := (min 1 (n677338 - n677224))) (sl' := 2 * (n677338 - n677224)) (by omega) (by omega) ?_
    refine G_aload_n 0 dr_cJ5_append_3fe6f_10 rfl ?_
    refine Gw_callVB (As := []) (gV_ok D I) (cp_658723_AbstractStringBuilder_isLatin1 l hl0 D I P677347 F677348 q677218 q677337 p677221 p677222 f677339 n677338 hm677355 hm677353 he677351 he677352 bp677221 bp677222 bf677339 (by have qa0 : Int32.toInt 0 = 0 := (by decide); omega)) dr_cJ5_append_3fe6f_11 ⟨wr_8_33, wr_1_19, wr_8_37, by decide, rfl, (Nat.le_of_ble_eq_true rfl), (Nat.le_of_ble_eq_true rfl)⟩ wr_8_34 wr_8_36 hm677355 he677351 rfl (show (min 1 (n677338 - n677224)) + 0 ≤ 1 by first | omega | decide) (show 2 * (n677338 - n677224) + 0 ≤ (4 * n677224 + 8) by first | omega | decide) (Nat.le_of_ble_eq_true rfl) (fun r677364 w677365 dc677361 ds677362 hp677363 => ?_) (fun _ _ _ _ _ z => z.elim)
    obtain ⟨rfl, rfl, hdc, hds⟩ := hp677363
    change G _ _ _ _ _ _ _ (.int 1 :: _) _ _ _
    refine G_widen (cs' := (min 1 (n677338 - n677224)) + 0) (sl' := 2 * (n677338 - n677224) + 0) (by omega) (by omega) ?_
    refine G_if_eq 45 dr_cJ5_append_3fe6f_14 (by decide +kernel) (fun hc => absurd hc (by decide)) (fun _ => ?_)
    refine G_iload_n 1 dr_cJ5_append_3fe6f_17 rfl ?_
    refine Gw_callS (As := [.int p677220]) (gV_ok D I) (cp_658732_StringLatin1_canEncode l hl0 D I P677347 F677348 p677220 (gB_w bp677220 (by decide) (by decide))) dr_cJ5_append_3fe6f_18 ⟨wr_8_38, wr_1_28, wr_8_40, by decide, rfl, (Nat.le_of_ble_eq_true rfl), (Nat.le_of_ble_eq_true rfl)⟩ wr_8_39 (show (min 1 (n677338 - n677224)) + 0 + 0 ≤ 1 by first | omega | decide) (show 2 * (n677338 - n677224) + 0 + 0 ≤ (4 * n677224 + 8) by first | omega | decide) (Nat.le_of_ble_eq_true rfl) (fun r677369 w677370 dc677366 ds677367 hp677368 => ?_) (fun _ _ _ _ _ z => z.elim)
    rcases hp677368 with ⟨rfl, rfl, hdc, hds, r677371, r677372⟩ | ⟨rfl, rfl, hdc, hds, r677373, r677374⟩
    · exact absurd (show False by omega) not_false
    · change G _ _ _ _ _ _ _ (.int 1 :: _) _ _ _
      refine G_widen (cs' := (min 1 (n677338 - n677224)) + 0 + 0) (sl' := 2 * (n677338 - n677224) + 0 + 0) (by omega) (by omega) ?_
      refine G_if_eq 45 dr_cJ5_append_3fe6f_21 (by decide +kernel) (fun hc => absurd hc (by decide)) (fun _ => ?_)
      refine G_aload_n 0 dr_cJ5_append_3fe6f_24 rfl ?_
      refine Gp_get 0 hm677355 he677351 dr_cJ5_append_3fe6f_25 (gk_J4 D I) (Nat.le_of_ble_eq_true rfl) wr_7_60 rfl ?_
      refine G_aload_n 0 dr_cJ5_append_3fe6f_28 rfl ?_
      refine G_dup dr_cJ5_append_3fe6f_29 rfl ?_
      refine Gp_get 3 hm677355 he677351 dr_cJ5_append_3fe6f_30 (gk_J4 D I) (Nat.le_of_ble_eq_true rfl) wr_7_64 rfl ?_
      refine G_dup_x1 dr_cJ5_append_3fe6f_33 rfl rfl ?_
      refine G_iconst 1 dr_cJ5_append_3fe6f_34 (by decide +kernel) ?_
      refine G_iadd dr_cJ5_append_3fe6f_35 (G_nam fun z677376 hz677376 => ?_)
      have ez677376 : z677376.toInt = p677222.toInt + 1 := by rw [gI_add hz677376 bp677222 (gBl (show Int32.toInt 1 = 1 by decide)) (by decide) (by decide), show Int32.toInt 1 = 1 from by decide]
      have bz677376 : gB z677376 1 16777217 := gB_add (gI_add hz677376 bp677222 (gBl (show Int32.toInt 1 = 1 by decide)) (by decide) (by decide)) bp677222 (gBl (show Int32.toInt 1 = 1 by decide)) (by decide) (by decide)
      refine Gp_put 3 hm677355 he677351 dr_cJ5_append_3fe6f_36 (gk_J4 D I) (Nat.le_of_ble_eq_true rfl) wr_7_64 rfl rfl rfl (Nat.le_of_ble_eq_true rfl) (fun F677377 e677378 n677379 => ?_)
      have he677380 : F677377 q677219 = .inl (I .byte, n677224, .inl f677223) := (n677379 q677219 (rn_ao he677359 he677351)).trans he677359
      have he677381 : F677377 q677337 = .inl (I .byte, n677338, .inl f677339) := (n677379 q677337 (fun h => hq677357 (h ▸ hmq677218))).trans he677352
      have he677382 : F677377 q677218 = .inr (1, [.ref q677337, .int 0, .int p677221, .int z677376]) := e677378
      have hfr677383 : rFr [q677218] P677216 F677217 F677377 := rFr_put' List.mem_cons_self hfr677360 n677379
      refine G_iload_n 1 dr_cJ5_append_3fe6f_39 rfl ?_
      refine G_i2b dr_cJ5_append_3fe6f_40 (G_nam fun z677384 hz677384 => ?_)
      have bz677384 : gB z677384 (-128) 127 := gB_i2b hz677384
      refine Gp_bast 1 hm677353 he677381 dr_cJ5_append_3fe6f_41 rfl (gB_inr (by omega) (by omega)) (fun F677385 e677386 n677387 => ?_)
      obtain ⟨f677388, hf677388⟩ : ∃ z, z = upd f677339 p677222.toNatClampNeg (vp_nar .byte z677384) := ⟨_, rfl⟩
      rw [← hf677388] at e677386
      have he677389 : F677385 q677219 = .inl (I .byte, n677224, .inl f677223) := (n677387 q677219 (fun h => hq677357 (h ▸ hmq677219))).trans he677380
      have he677390 : F677385 q677218 = .inr (1, [.ref q677337, .int 0, .int p677221, .int z677376]) := (n677387 q677218 (fun h => hq677357 (h ▸ hmq677218))).trans he677382
      have he677391 : F677385 q677337 = .inl (I .byte, n677338, .inl f677388) := e677386
      have hfr677392 : rFr [q677218] P677216 F677217 F677385 := rFr_newp hq677357 hfr677383 n677387
      have bf677388 : gF f677388 (-128) 127 := gF_upd hf677388 bf677339 gB_byte
      refine G_goto 75 dr_cJ5_append_3fe6f_42 (by decide +kernel) ?_
      refine G_aload_n 0 dr_cJ5_append_3fe6f_75 rfl ?_
      exact G_aretA (FieldType.object "java/lang/AbstractStringBuilder") dr_cJ5_append_3fe6f_76 rfl (by first | exact Or.inl ⟨_, rfl⟩ | exact Or.inr ⟨_, rfl⟩) (Or.inr ⟨_, rfl⟩) (show (min 1 (n677338 - n677224)) + 0 + 0 ≤ 1 by omega) (show 2 * (n677338 - n677224) + 0 + 0 ≤ (4 * n677224 + 8) by omega) (Or.inr (⟨P677347, F677385, z677376, q677337, n677338, f677388, rfl, rfl, hsb677358, hfr677392, he677390, he677391, hm677353, hq677357, (by omega), (by omega), ⟨by omega, by omega⟩, bf677388, (by have qa0 : Int32.toInt 0 = 0 := (by decide); omega), (by have qa0 : Int32.toInt 0 = 0 := (by decide); omega), (by have qa0 : Int32.toInt 0 = 0 := (by decide); omega), (by have qa0 : Int32.toInt 0 = 0 := (by decide); omega), (by have qa0 : Int32.toInt 0 = 0 := (by decide); omega), (by have qa0 : Int32.toInt 0 = 0 := (by decide); omega), (fun R c1 => c1 z677229 n677338 f677339 z677376 z677384 f677388 ez677229 ht677346 r677374 ez677376 hz677384 hf677388)⟩))
/- tr_RStringBuilder_append9: a.0...count, a.0.value.[] -/
def tr_RStringBuilder_append9 (a1 : Int32) (a0_count : Int32) (a0_value_v : Nat → Int32) (a0_value_n : Nat) (o1 : Int32) (o2 : Nat → Int32) : Prop := ∀ R : (Int32) → (Nat → Int32) → Prop,
  (∀ (x1 : Int32) (x2 : Nat → Int32), gB x1 1 16777216 → tr_RAbstractStringBuilder_append9 a1 a0_count a0_value_v a0_value_n x1 x2 → R x1 x2) →
  R o1 o2
/- tr_RStringBuilder_append9_g2: a.0...count, a.0.value.#, a.0.value.[] -/
def tr_RStringBuilder_append9_g2 (a1 : Int32) (a0_count : Int32) (a0_value_v : Nat → Int32) (a0_value_n : Nat) (o1 : Int32) (o2 : Nat) (o3 : Nat → Int32) : Prop := ∀ R : (Int32) → (Nat) → (Nat → Int32) → Prop,
  (∀ (x1 : Int32) (x2 : Nat) (x3 : Nat → Int32), gB x1 1 16777216 → tr_RAbstractStringBuilder_append9_g2 a1 a0_count a0_value_v a0_value_n x1 x2 x3 → R x1 x2 x3) →
  R o1 o2 o3
abbrev ky_677215_StringBuilder_append : gKey := (cJ4_append_cf468, 2, "java/lang/StringBuilder", (some (FieldType.object "java/lang/StringBuilder")), [], "append", fun _ _ => True)
def pp_677215_StringBuilder_append (D : va_G) (I : FieldType → ClassId) (P677203 : List Nat) (F677204 : Nat → va_E) (q677205 : Nat) (q677206 : Nat) (p677207 : Int32) (p677208 : Int32) (p677209 : Int32) (f677210 : Nat → Int32) (n677211 : Nat) : Option Value → va_W → Nat → Nat → Prop := fun r w dc ds => (∃ (F677453 : Nat → va_E) (o677450 : Int32) (f677451 : Nat → Int32), r = some (.ref q677205) ∧ w = va_pl P677203 F677453 ∧ rFr [q677206, q677205] P677203 F677204 F677453 ∧ F677453 q677205 = .inr (1, [.ref q677206, .int 0, .int p677208, .int o677450]) ∧ F677453 q677206 = .inl (I .byte, n677211, .inl f677451) ∧ dc ≤ 0 ∧ ds ≤ 0 ∧ gB o677450 1 16777216 ∧ gF f677451 (-128) 127 ∧ o677450.toInt = p677209.toInt + 1 ∧ o677450.toInt ≤ (n677211 : Int) ∧ (n677211 : Int) ≤ (n677211 : Int) ∧ (n677211 : Int) ≤ 2 * (n677211 : Int) + 2 ∧ ((n677211 : Int) = (n677211 : Int) ∨ (n677211 : Int) < o677450.toInt) ∧ ((n677211 : Int) = (n677211 : Int) ∨ 2 * (n677211 : Int) + 2 ≤ (n677211 : Int)) ∧ tr_RStringBuilder_append9 p677207 p677209 f677210 n677211 o677450 f677451) ∨ (∃ (P677458 : List Nat) (F677459 : Nat → va_E) (o677454 : Int32) (q677455 : Nat) (n677456 : Nat) (f677457 : Nat → Int32), r = some (.ref q677205) ∧ w = va_pl P677458 F677459 ∧ rSub P677203 P677458 ∧ rFr [q677205] P677203 F677204 F677459 ∧ F677459 q677205 = .inr (1, [.ref q677455, .int 0, .int p677208, .int o677454]) ∧ F677459 q677455 = .inl (I .byte, n677456, .inl f677457) ∧ q677455 ∈ P677458 ∧ q677455 ∉ P677203 ∧ dc ≤ (min 1 (n677456 - n677211)) ∧ ds ≤ 2 * (n677456 - n677211) ∧ gB o677454 1 16777216 ∧ gF f677457 (-128) 127 ∧ o677454.toInt = p677209.toInt + 1 ∧ o677454.toInt ≤ (n677456 : Int) ∧ (n677211 : Int) ≤ (n677456 : Int) ∧ (n677456 : Int) ≤ 2 * (n677211 : Int) + 2 ∧ ((n677456 : Int) = (n677211 : Int) ∨ (n677211 : Int) < o677454.toInt) ∧ ((n677456 : Int) = (n677211 : Int) ∨ 2 * (n677211 : Int) + 2 ≤ (n677456 : Int)) ∧ tr_RStringBuilder_append9_g2 p677207 p677209 f677210 n677211 o677454 n677456 f677457)
set_option maxRecDepth 100000 in
set_option maxHeartbeats 4000000 in
theorem cp_677215_StringBuilder_append (l : Launch) (hl0 : l.stackTraces = false) (D : va_G) (I : FieldType → ClassId) (P677203 : List Nat) (F677204 : Nat → va_E) (q677205 : Nat) (q677206 : Nat) (p677207 : Int32) (p677208 : Int32) (p677209 : Int32) (f677210 : Nat → Int32) (n677211 : Nat) (hmq677205 : q677205 ∈ P677203) (hmq677206 : q677206 ∈ P677203) (heq677205 : F677204 q677205 = .inr (1, [.ref q677206, .int 0, .int p677208, .int p677209])) (heq677206 : F677204 q677206 = .inl (I .byte, n677211, .inl f677210)) (bp677207 : gB p677207 0 255) (bp677208 : gB p677208 0 1) (bp677209 : gB p677209 0 16777216) (bf677210 : gF f677210 (-128) 127) (x677212 : (n677211 : Int) ≤ 8388608 - 100000) (x677213 : p677209.toInt ≤ (n677211 : Int)) (x677214 : ((n677211 : Int) ≤ 16777216)) : CtA (gV D I) l yJ4_append_cf468 cJ4_append_cf468 2 (some (FieldType.object "java/lang/StringBuilder")) 5 105 1 (4 * n677211 + 8) [.ref q677205, .int p677207] (va_pl P677203 F677204) (pp_677215_StringBuilder_append D I P677203 F677204 q677205 q677206 p677207 p677208 p677209 f677210 n677211) gNA := by
  refine CtA_ofF hl0 (by decide +kernel) (Nat.le_of_ble_eq_true rfl) ?_
  refine G_aload_n 0 dr_cJ4_append_cf468_0 rfl ?_
  refine G_iload_n 1 dr_cJ4_append_cf468_1 rfl ?_
  refine Gw_callSU (As := [.int p677207]) (gV_ok D I) (cp_677228_AbstractStringBuilder_append l hl0 D I P677203 F677204 q677205 q677206 p677207 p677208 p677209 f677210 n677211 hmq677205 hmq677206 heq677205 heq677206 bp677207 bp677208 bp677209 bf677210 (by have qa0 : Int32.toInt 0 = 0 := (by decide); omega) (by have qa0 : Int32.toInt 0 = 0 := (by decide); omega) (by have qa0 : Int32.toInt 0 = 0 := (by decide); omega)) dr_cJ4_append_cf468_2 ⟨wr_8_1, wr_1_19, wr_8_3, by decide, rfl, (Nat.le_of_ble_eq_true rfl), (Nat.le_of_ble_eq_true rfl)⟩ wr_8_2 wr_11_224 wr_7_73 wr_7_44 (by decide) hmq677205 heq677205 rfl (show 0 + 1 ≤ 1 by first | omega | decide) (show 0 + (4 * n677211 + 8) ≤ (4 * n677211 + 8) by first | omega | decide) (Nat.le_of_ble_eq_true rfl) (fun r677406 w677407 dc677403 ds677404 hp677405 => ?_)
  rcases hp677405 with hp677408 | hp677409
  · obtain ⟨F677419, o677410, f677411, rfl, rfl, hfr677421, he677422, he677423, hdc, hds, bo677410, bf677411, x677412, x677413, x677414, x677415, x677416, x677417, ht677418⟩ := hp677408
    have hfr677424 : rFr [q677206, q677205] P677203 F677204 F677419 := rFr_call (rSub_rf (P := P677203)) (rFr_rf (W := []) (P := P677203) (F := F677204)) hfr677421 (fun b hb hn => ⟨nm_n, (nm_c (fun e => hn (e ▸ List.mem_cons_self)) (nm_c (fun e => hn (e ▸ (List.mem_cons_of_mem _ List.mem_cons_self))) nm_n))⟩)
    change G _ _ _ _ _ _ _ (.ref q677205 :: _) _ _ _
    refine G_widen (cs' := 0) (sl' := 0) (by omega) (by omega) ?_
    refine G_pop dr_cJ4_append_cf468_5 rfl ?_
    refine G_aload_n 0 dr_cJ4_append_cf468_6 rfl ?_
    exact G_aretA (FieldType.object "java/lang/StringBuilder") dr_cJ4_append_cf468_7 rfl (by first | exact Or.inl ⟨_, rfl⟩ | exact Or.inr ⟨_, rfl⟩) (Or.inr ⟨_, rfl⟩) (Nat.le_of_ble_eq_true rfl) (Nat.le_of_ble_eq_true rfl) (Or.inl ⟨F677419, o677410, f677411, rfl, rfl, hfr677424, he677422, he677423, (Nat.le_of_ble_eq_true rfl), (Nat.le_of_ble_eq_true rfl), bo677410, bf677411, (by have qa0 : Int32.toInt 0 = 0 := (by decide); omega), (by have qa0 : Int32.toInt 0 = 0 := (by decide); omega), (by have qa0 : Int32.toInt 0 = 0 := (by decide); omega), (by have qa0 : Int32.toInt 0 = 0 := (by decide); omega), (by have qa0 : Int32.toInt 0 = 0 := (by decide); omega), (by have qa0 : Int32.toInt 0 = 0 := (by decide); omega), (fun R c1 => c1 o677410 f677411 bo677410 ht677418)⟩)
  · obtain ⟨P677436, F677437, o677425, q677426, n677427, f677428, rfl, rfl, hsb677438, hfr677439, he677440, he677441, hm677442, hq677443, hdc, hds, bo677425, bf677428, x677429, x677430, x677431, x677432, x677433, x677434, ht677435⟩ := hp677409
    have hm677444 : q677205 ∈ P677436 := hsb677438 q677205 hmq677205
    have hm677445 : q677206 ∈ P677436 := hsb677438 q677206 hmq677206
    have hq677446 : q677426 ∉ P677203 := fun z => hq677443 ((rSub_rf (P := P677203)) q677426 z)
    have hsb677447 : rSub P677203 P677436 := rSub_tr (rSub_rf (P := P677203)) hsb677438
    have he677448 : F677437 q677206 = .inl (I .byte, n677211, .inl f677210) := (hfr677439 q677206 hmq677206 (nm_c (rn_ao heq677206 heq677205) nm_n)).trans heq677206
    have hfr677449 : rFr [q677205] P677203 F677204 F677437 := rFr_call (rSub_rf (P := P677203)) (rFr_rf (W := []) (P := P677203) (F := F677204)) hfr677439 (fun b hb hn => ⟨nm_n, (nm_c (fun e => hn (e ▸ List.mem_cons_self)) nm_n)⟩)
    change G _ _ _ _ _ _ _ (.ref q677205 :: _) _ _ _
    refine G_widen (cs' := (min 1 (n677427 - n677211))) (sl' := 2 * (n677427 - n677211)) (by omega) (by omega) ?_
    refine G_pop dr_cJ4_append_cf468_5 rfl ?_
    refine G_aload_n 0 dr_cJ4_append_cf468_6 rfl ?_
    exact G_aretA (FieldType.object "java/lang/StringBuilder") dr_cJ4_append_cf468_7 rfl (by first | exact Or.inl ⟨_, rfl⟩ | exact Or.inr ⟨_, rfl⟩) (Or.inr ⟨_, rfl⟩) (show (min 1 (n677427 - n677211)) ≤ 1 by omega) (show 2 * (n677427 - n677211) ≤ (4 * n677211 + 8) by omega) (Or.inr (⟨P677436, F677437, o677425, q677426, n677427, f677428, rfl, rfl, hsb677447, hfr677449, he677440, he677441, hm677442, hq677446, (by omega), (by omega), bo677425, bf677428, (by have qa0 : Int32.toInt 0 = 0 := (by decide); omega), (by have qa0 : Int32.toInt 0 = 0 := (by decide); omega), (by have qa0 : Int32.toInt 0 = 0 := (by decide); omega), (by have qa0 : Int32.toInt 0 = 0 := (by decide); omega), (by have qa0 : Int32.toInt 0 = 0 := (by decide); omega), (by have qa0 : Int32.toInt 0 = 0 := (by decide); omega), (fun R c1 => c1 o677425 n677427 f677428 bo677425 ht677435)⟩))
/- tr_RAbstractStringBuilder_append10: a.0...count, a.0.value.[] -/
def tr_RAbstractStringBuilder_append10 (a1 : Int32) (a0_count : Int32) (a0_value_v : Nat → Int32) (a0_value_n : Nat) (o1 : Int32) (o2 : Nat → Int32) : Prop := ∀ R : (Int32) → (Nat → Int32) → Prop,
  (∀ (x1 : Int32) (x2 : Int32) (x3 : Int32) (x4 : Nat → Int32), gB x1 1 11 → tr_RInteger_stringSize a1 x1 → x2.toInt = a0_count.toInt + x1.toInt → tr_RAbstractStringBuilder_ensureCapacityInternal3 x2 a0_value_n → gB x3 0 16777215 → tr_RInteger_getChars a1 x2 a0_value_v x3 x4 → R x2 x4) →
  R o1 o2
/- tr_RAbstractStringBuilder_append10_g2: a.0...count, a.0.value.#, a.0.value.[] -/
def tr_RAbstractStringBuilder_append10_g2 (a1 : Int32) (a0_count : Int32) (a0_value_v : Nat → Int32) (a0_value_n : Nat) (o1 : Int32) (o2 : Nat) (o3 : Nat → Int32) : Prop := ∀ R : (Int32) → (Nat) → (Nat → Int32) → Prop,
  (∀ (x1 : Int32) (x2 : Int32) (x3 : Nat) (x4 : Nat → Int32) (x5 : Int32) (x6 : Nat → Int32), gB x1 1 11 → tr_RInteger_stringSize a1 x1 → x2.toInt = a0_count.toInt + x1.toInt → tr_RAbstractStringBuilder_ensureCapacityInternal3_g2 x2 a0_value_v a0_value_n x3 x4 → gB x5 0 16777215 → tr_RInteger_getChars a1 x2 x4 x5 x6 → R x2 x3 x6) →
  R o1 o2 o3
abbrev ky_677485_AbstractStringBuilder_append : gKey := (cJ5_append_c97b9, 4, "java/lang/AbstractStringBuilder", (some (FieldType.object "java/lang/AbstractStringBuilder")), [], "append", fun _ _ => True)
def pp_677485_AbstractStringBuilder_append (D : va_G) (I : FieldType → ClassId) (P677473 : List Nat) (F677474 : Nat → va_E) (q677475 : Nat) (q677476 : Nat) (p677477 : Int32) (p677478 : Int32) (p677479 : Int32) (f677480 : Nat → Int32) (n677481 : Nat) : Option Value → va_W → Nat → Nat → Prop := fun r w dc ds => (∃ (F677588 : Nat → va_E) (o677585 : Int32) (f677586 : Nat → Int32), r = some (.ref q677475) ∧ w = va_pl P677473 F677588 ∧ rFr [q677475, q677476] P677473 F677474 F677588 ∧ F677588 q677475 = .inr (1, [.ref q677476, .int 0, .int p677478, .int o677585]) ∧ F677588 q677476 = .inl (I .byte, n677481, .inl f677586) ∧ dc ≤ 0 ∧ ds ≤ 0 ∧ gB o677585 1 16777216 ∧ gF f677586 (-128) 127 ∧ p677479.toInt ≤ o677585.toInt ∧ o677585.toInt ≤ p677479.toInt + 11 ∧ o677585.toInt ≤ (n677481 : Int) ∧ (n677481 : Int) ≤ (n677481 : Int) ∧ ((n677481 : Int) ≤ 2 * (n677481 : Int) + 2 ∨ (n677481 : Int) ≤ p677479.toInt + 11) ∧ ((n677481 : Int) = (n677481 : Int) ∨ (n677481 : Int) < o677585.toInt) ∧ ((n677481 : Int) = (n677481 : Int) ∨ 2 * (n677481 : Int) + 2 ≤ (n677481 : Int)) ∧ tr_RAbstractStringBuilder_append10 p677477 p677479 f677480 n677481 o677585 f677586) ∨ (∃ (P677593 : List Nat) (F677594 : Nat → va_E) (o677589 : Int32) (q677590 : Nat) (n677591 : Nat) (f677592 : Nat → Int32), r = some (.ref q677475) ∧ w = va_pl P677593 F677594 ∧ rSub P677473 P677593 ∧ rFr [q677475] P677473 F677474 F677594 ∧ F677594 q677475 = .inr (1, [.ref q677590, .int 0, .int p677478, .int o677589]) ∧ F677594 q677590 = .inl (I .byte, n677591, .inl f677592) ∧ q677590 ∈ P677593 ∧ q677590 ∉ P677473 ∧ dc ≤ (min 1 (n677591 - n677481)) ∧ ds ≤ 2 * (n677591 - n677481) ∧ gB o677589 1 16777216 ∧ gF f677592 (-128) 127 ∧ p677479.toInt ≤ o677589.toInt ∧ o677589.toInt ≤ p677479.toInt + 11 ∧ o677589.toInt ≤ (n677591 : Int) ∧ (n677481 : Int) ≤ (n677591 : Int) ∧ ((n677591 : Int) ≤ 2 * (n677481 : Int) + 2 ∨ (n677591 : Int) ≤ p677479.toInt + 11) ∧ ((n677591 : Int) = (n677481 : Int) ∨ (n677481 : Int) < o677589.toInt) ∧ ((n677591 : Int) = (n677481 : Int) ∨ 2 * (n677481 : Int) + 2 ≤ (n677591 : Int)) ∧ tr_RAbstractStringBuilder_append10_g2 p677477 p677479 f677480 n677481 o677589 n677591 f677592)
set_option maxRecDepth 100000 in
set_option maxHeartbeats 4000000 in
theorem cp_677485_AbstractStringBuilder_append (l : Launch) (hl0 : l.stackTraces = false) (D : va_G) (I : FieldType → ClassId) (P677473 : List Nat) (F677474 : Nat → va_E) (q677475 : Nat) (q677476 : Nat) (p677477 : Int32) (p677478 : Int32) (p677479 : Int32) (f677480 : Nat → Int32) (n677481 : Nat) (hmq677475 : q677475 ∈ P677473) (hmq677476 : q677476 ∈ P677473) (heq677475 : F677474 q677475 = .inr (1, [.ref q677476, .int 0, .int p677478, .int p677479])) (heq677476 : F677474 q677476 = .inl (I .byte, n677481, .inl f677480)) (bp677478 : gB p677478 0 1) (bp677479 : gB p677479 0 16777216) (bf677480 : gF f677480 (-128) 127) (x677482 : (n677481 : Int) ≤ 8388608 - 100000) (x677483 : p677479.toInt ≤ (n677481 : Int)) (x677484 : ((n677481 : Int) ≤ 16777216)) : CtA (gV D I) l yJ5_append_c97b9 cJ5_append_c97b9 4 (some (FieldType.object "java/lang/AbstractStringBuilder")) 4 84 1 (4 * n677481 + 64) [.ref q677475, .int p677477] (va_pl P677473 F677474) (pp_677485_AbstractStringBuilder_append D I P677473 F677474 q677475 q677476 p677477 p677478 p677479 f677480 n677481) gNA := by
  refine CtA_ofF hl0 (by decide +kernel) (Nat.le_of_ble_eq_true rfl) ?_
  have bp677477 := gB_any p677477
  refine G_aload_n 0 dr_cJ5_append_c97b9_0 rfl ?_
  refine Gp_get 3 hmq677475 heq677475 dr_cJ5_append_c97b9_1 (gk_J4 D I) (Nat.le_of_ble_eq_true rfl) wr_7_64 rfl ?_
  refine G_istore_n (L' := [(2, .int p677479), (0, .ref q677475), (1, .int p677477)]) dr_cJ5_append_c97b9_4 (Nat.le_of_ble_eq_true rfl) rfl ?_
  refine G_iload_n 0 dr_cJ5_append_c97b9_5 rfl ?_
  refine G_iload_n 2 dr_cJ5_append_c97b9_6 rfl ?_
  refine Gw_callS (As := [.int p677477]) (gV_ok D I) (cp_667577_Integer_stringSize l hl0 D I P677473 F677474 p677477 ) dr_cJ5_append_c97b9_7 ⟨wr_8_112, wr_1_35, wr_8_114, by decide, rfl, (Nat.le_of_ble_eq_true rfl), (Nat.le_of_ble_eq_true rfl)⟩ wr_8_113 (show 0 + 0 ≤ 1 by first | omega | decide) (show 0 + 0 ≤ (4 * n677481 + 64) by first | omega | decide) (Nat.le_of_ble_eq_true rfl) (fun r677489 w677490 dc677486 ds677487 hp677488 => ?_) (fun _ _ _ _ _ z => z.elim)
  obtain ⟨o677491, rfl, rfl, hdc, hds, bo677491, x677492, ht677493⟩ := hp677488
  change G _ _ _ _ _ _ _ (.int o677491 :: _) _ _ _
  refine G_widen (cs' := 0) (sl' := 0) (by omega) (by omega) ?_
  refine G_iadd dr_cJ5_append_c97b9_10 (G_nam fun z677494 hz677494 => ?_)
  have ez677494 : z677494.toInt = p677479.toInt + o677491.toInt := by rw [gI_add hz677494 bp677479 bo677491 (by decide) (by decide)]
  have bz677494 : gB z677494 1 16777227 := gB_add (gI_add hz677494 bp677479 bo677491 (by decide) (by decide)) bp677479 bo677491 (by decide) (by decide)
  refine G_istore_n (L' := [(3, .int z677494), (2, .int p677479), (0, .ref q677475), (1, .int p677477)]) dr_cJ5_append_c97b9_11 (Nat.le_of_ble_eq_true rfl) rfl ?_
  refine G_aload_n 2 dr_cJ5_append_c97b9_12 rfl ?_
  refine G_iload_n 0 dr_cJ5_append_c97b9_13 rfl ?_
  refine Gw_callVB (As := [.int z677494]) (gV_ok D I) (cp_677241_AbstractStringBuilder_ensureCapacityInternal l hl0 D I P677473 F677474 q677475 q677476 z677494 p677478 p677479 f677480 n677481 hmq677475 hmq677476 heq677475 heq677476 ⟨by omega, by omega⟩ bp677478 bp677479 bf677480 (by have qa0 : Int32.toInt 0 = 0 := (by decide); omega) (by have qa0 : Int32.toInt 0 = 0 := (by decide); omega)) dr_cJ5_append_c97b9_14 ⟨wr_8_4, wr_1_19, wr_8_7, by decide, rfl, (Nat.le_of_ble_eq_true rfl), (Nat.le_of_ble_eq_true rfl)⟩ wr_8_6 wr_s_0 hmq677475 heq677475 rfl (show 0 + 1 ≤ 1 by first | omega | decide) (show 0 + (2 * n677481 + 2 + z677494.toInt.toNat) ≤ (4 * n677481 + 64) by first | omega | decide) (Nat.le_of_ble_eq_true rfl) (fun r677498 w677499 dc677495 ds677496 hp677497 => ?_) (fun _ _ _ _ _ z => z.elim)
  rcases hp677497 with hp677500 | hp677501
  · obtain ⟨rfl, rfl, hdc, hds, x677502, x677503, x677504, x677505, x677506, x677507, ht677508⟩ := hp677500
    change G _ _ _ _ _ _ _ _ _ _ _
    refine G_widen (cs' := 0) (sl' := 0) (by omega) (by omega) ?_
    refine G_aload_n 2 dr_cJ5_append_c97b9_17 rfl ?_
    refine Gw_callVB (As := []) (gV_ok D I) (cp_658723_AbstractStringBuilder_isLatin1 l hl0 D I P677473 F677474 q677475 q677476 p677478 p677479 f677480 n677481 hmq677475 hmq677476 heq677475 heq677476 bp677478 bp677479 bf677480 (by have qa0 : Int32.toInt 0 = 0 := (by decide); omega)) dr_cJ5_append_c97b9_18 ⟨wr_8_33, wr_1_19, wr_8_37, by decide, rfl, (Nat.le_of_ble_eq_true rfl), (Nat.le_of_ble_eq_true rfl)⟩ wr_8_34 wr_8_36 hmq677475 heq677475 rfl (show 0 + 0 ≤ 1 by first | omega | decide) (show 0 + 0 ≤ (4 * n677481 + 64) by first | omega | decide) (Nat.le_of_ble_eq_true rfl) (fun r677512 w677513 dc677509 ds677510 hp677511 => ?_) (fun _ _ _ _ _ z => z.elim)
    obtain ⟨rfl, rfl, hdc, hds⟩ := hp677511
    change G _ _ _ _ _ _ _ (.int 1 :: _) _ _ _
    refine G_widen (cs' := 0) (sl' := 0) (by omega) (by omega) ?_
    refine G_if_eq 37 dr_cJ5_append_c97b9_21 (by decide +kernel) (fun hc => absurd hc (by decide)) (fun _ => ?_)
    refine G_iload_n 3 dr_cJ5_append_c97b9_24 rfl ?_
    refine G_iload_n 0 dr_cJ5_append_c97b9_25 rfl ?_
    refine G_aload_n 2 dr_cJ5_append_c97b9_26 rfl ?_
    refine Gp_get 0 hmq677475 heq677475 dr_cJ5_append_c97b9_27 (gk_J4 D I) (Nat.le_of_ble_eq_true rfl) wr_7_60 rfl ?_
    refine Gw_callS (As := [.int p677477, .int z677494, .ref q677476]) (gV_ok D I) (cp_667760_Integer_getChars l hl0 D I P677473 F677474 q677476 p677477 z677494 f677480 n677481 hmq677476 heq677476 ⟨by omega, by omega⟩ bf677480 (by have qa0 : Int32.toInt 0 = 0 := (by decide); omega) (by have q10 : Int32.toInt 10 = 10 := (by decide); have q11 : Int32.toInt 11 = 11 := (by decide); first | exact dgS_up (by omega) (by omega) x677492 (by omega)) (by have qa0 : Int32.toInt 0 = 0 := (by decide); omega)) dr_cJ5_append_c97b9_30 ⟨wr_8_115, wr_1_35, wr_8_117, by decide, rfl, (Nat.le_of_ble_eq_true rfl), (Nat.le_of_ble_eq_true rfl)⟩ wr_8_116 (show 0 + 0 ≤ 1 by first | omega | decide) (show 0 + 0 ≤ (4 * n677481 + 64) by first | omega | decide) (Nat.le_of_ble_eq_true rfl) (fun r677517 w677518 dc677514 ds677515 hp677516 => ?_) (fun _ _ _ _ _ z => z.elim)
    obtain ⟨F677522, o677519, f677520, rfl, rfl, hfr677524, he677525, hdc, hds, bo677519, bf677520, ht677521⟩ := hp677516
    have he677526 : F677522 q677475 = .inr (1, [.ref q677476, .int 0, .int p677478, .int p677479]) := (hfr677524 q677475 hmq677475 (nm_c (rn_oa heq677475 heq677476) nm_n)).trans heq677475
    have hfr677527 : rFr [q677476] P677473 F677474 F677522 := rFr_call (rSub_rf (P := P677473)) (rFr_rf (W := []) (P := P677473) (F := F677474)) hfr677524 (fun b hb hn => ⟨nm_n, (nm_c (fun e => hn (e ▸ List.mem_cons_self)) nm_n)⟩)
    change G _ _ _ _ _ _ _ (.int o677519 :: _) _ _ _
    refine G_widen (cs' := 0) (sl' := 0) (by omega) (by omega) ?_
    refine G_pop dr_cJ5_append_c97b9_33 rfl ?_
    refine G_goto 48 dr_cJ5_append_c97b9_34 (by decide +kernel) ?_
    refine G_aload_n 2 dr_cJ5_append_c97b9_48 rfl ?_
    refine G_iload_n 0 dr_cJ5_append_c97b9_49 rfl ?_
    refine Gp_put 3 hmq677475 he677526 dr_cJ5_append_c97b9_50 (gk_J4 D I) (Nat.le_of_ble_eq_true rfl) wr_7_64 rfl rfl rfl (Nat.le_of_ble_eq_true rfl) (fun F677528 e677529 n677530 => ?_)
    have he677531 : F677528 q677476 = .inl (I .byte, n677481, .inl f677520) := (n677530 q677476 (rn_ao he677525 he677526)).trans he677525
    have he677532 : F677528 q677475 = .inr (1, [.ref q677476, .int 0, .int p677478, .int z677494]) := e677529
    have hfr677533 : rFr [q677475, q677476] P677473 F677474 F677528 := rFr_put hfr677527 n677530
    refine G_aload_n 2 dr_cJ5_append_c97b9_53 rfl ?_
    exact G_aretA (FieldType.object "java/lang/AbstractStringBuilder") dr_cJ5_append_c97b9_54 rfl (by first | exact Or.inl ⟨_, rfl⟩ | exact Or.inr ⟨_, rfl⟩) (Or.inr ⟨_, rfl⟩) (Nat.le_of_ble_eq_true rfl) (Nat.le_of_ble_eq_true rfl) (Or.inl ⟨F677528, z677494, f677520, rfl, rfl, hfr677533, he677532, he677531, (Nat.le_of_ble_eq_true rfl), (Nat.le_of_ble_eq_true rfl), ⟨by omega, by omega⟩, bf677520, (by have qa0 : Int32.toInt 0 = 0 := (by decide); omega), (by have qa0 : Int32.toInt 0 = 0 := (by decide); omega), (by have qa0 : Int32.toInt 0 = 0 := (by decide); omega), (by have qa0 : Int32.toInt 0 = 0 := (by decide); omega), (by have qa0 : Int32.toInt 0 = 0 := (by decide); omega), (by have qa0 : Int32.toInt 0 = 0 := (by decide); omega), (by have qa0 : Int32.toInt 0 = 0 := (by decide); omega), (fun R c1 => c1 o677491 z677494 o677519 f677520 bo677491 ht677493 ez677494 ht677508 bo677519 ht677521)⟩)
  · obtain ⟨P677544, F677545, q677534, n677535, f677536, rfl, rfl, hsb677546, hfr677547, he677548, he677549, hm677550, hq677551, hdc, hds, bf677536, x677537, x677538, x677539, x677540, x677541, x677542, ht677543⟩ := hp677501
    have hm677552 : q677475 ∈ P677544 := hsb677546 q677475 hmq677475
    have hm677553 : q677476 ∈ P677544 := hsb677546 q677476 hmq677476
    have hq677554 : q677534 ∉ P677473 := fun z => hq677551 ((rSub_rf (P := P677473)) q677534 z)
    have hsb677555 : rSub P677473 P677544 := rSub_tr (rSub_rf (P := P677473)) hsb677546
    have he677556 : F677545 q677476 = .inl (I .byte, n677481, .inl f677480) := (hfr677547 q677476 hmq677476 (nm_c (rn_ao heq677476 heq677475) nm_n)).trans heq677476
    have hfr677557 : rFr [q677475] P677473 F677474 F677545 := rFr_call (rSub_rf (P := P677473)) (rFr_rf (W := []) (P := P677473) (F := F677474)) hfr677547 (fun b hb hn => ⟨nm_n, (nm_c (fun e => hn (e ▸ List.mem_cons_self)) nm_n)⟩)
    change G _ _ _ _ _ _ _ _ _ _ _
    refine G_widen (cs' := (min 1 (n677535 - n677481))) (sl' := 2 * (n677535 - n677481)) (by omega) (by omega) ?_
    refine G_aload_n 2 dr_cJ5_append_c97b9_17 rfl ?_
    refine Gw_callVB (As := []) (gV_ok D I) (cp_658723_AbstractStringBuilder_isLatin1 l hl0 D I P677544 F677545 q677475 q677534 p677478 p677479 f677536 n677535 hm677552 hm677550 he677548 he677549 bp677478 bp677479 bf677536 (by have qa0 : Int32.toInt 0 = 0 := (by decide); omega)) dr_cJ5_append_c97b9_18 ⟨wr_8_33, wr_1_19, wr_8_37, by decide, rfl, (Nat.le_of_ble_eq_true rfl), (Nat.le_of_ble_eq_true rfl)⟩ wr_8_34 wr_8_36 hm677552 he677548 rfl (show (min 1 (n677535 - n677481)) + 0 ≤ 1 by first | omega | decide) (show 2 * (n677535 - n677481) + 0 ≤ (4 * n677481 + 64) by first | omega | decide) (Nat.le_of_ble_eq_true rfl) (fun r677561 w677562 dc677558 ds677559 hp677560 => ?_) (fun _ _ _ _ _ z => z.elim)
    obtain ⟨rfl, rfl, hdc, hds⟩ := hp677560
    change G _ _ _ _ _ _ _ (.int 1 :: _) _ _ _
    refine G_widen (cs' := (min 1 (n677535 - n677481)) + 0) (sl' := 2 * (n677535 - n677481) + 0) (by omega) (by omega) ?_
    refine G_if_eq 37 dr_cJ5_append_c97b9_21 (by decide +kernel) (fun hc => absurd hc (by decide)) (fun _ => ?_)
    refine G_iload_n 3 dr_cJ5_append_c97b9_24 rfl ?_
    refine G_iload_n 0 dr_cJ5_append_c97b9_25 rfl ?_
    refine G_aload_n 2 dr_cJ5_append_c97b9_26 rfl ?_
    refine Gp_get 0 hm677552 he677548 dr_cJ5_append_c97b9_27 (gk_J4 D I) (Nat.le_of_ble_eq_true rfl) wr_7_60 rfl ?_
    refine Gw_callS (As := [.int p677477, .int z677494, .ref q677534]) (gV_ok D I) (cp_667760_Integer_getChars l hl0 D I P677544 F677545 q677534 p677477 z677494 f677536 n677535 hm677550 he677549 ⟨by omega, by omega⟩ bf677536 (by have qa0 : Int32.toInt 0 = 0 := (by decide); omega) (by have q10 : Int32.toInt 10 = 10 := (by decide); have q11 : Int32.toInt 11 = 11 := (by decide); first | exact dgS_up (by omega) (by omega) x677492 (by omega)) (by have qa0 : Int32.toInt 0 = 0 := (by decide); omega)) dr_cJ5_append_c97b9_30 ⟨wr_8_115, wr_1_35, wr_8_117, by decide, rfl, (Nat.le_of_ble_eq_true rfl), (Nat.le_of_ble_eq_true rfl)⟩ wr_8_116 (show (min 1 (n677535 - n677481)) + 0 + 0 ≤ 1 by first | omega | decide) (show 2 * (n677535 - n677481) + 0 + 0 ≤ (4 * n677481 + 64) by first | omega | decide) (Nat.le_of_ble_eq_true rfl) (fun r677566 w677567 dc677563 ds677564 hp677565 => ?_) (fun _ _ _ _ _ z => z.elim)
    obtain ⟨F677571, o677568, f677569, rfl, rfl, hfr677573, he677574, hdc, hds, bo677568, bf677569, ht677570⟩ := hp677565
    have he677575 : F677571 q677476 = .inl (I .byte, n677481, .inl f677480) := (hfr677573 q677476 hm677553 (nm_c (fun h => hq677554 (h ▸ hmq677476)) nm_n)).trans he677556
    have he677576 : F677571 q677475 = .inr (1, [.ref q677534, .int 0, .int p677478, .int p677479]) := (hfr677573 q677475 hm677552 (nm_c (fun h => hq677554 (h ▸ hmq677475)) nm_n)).trans he677548
    have hfr677577 : rFr [q677475] P677473 F677474 F677571 := rFr_call hsb677555 hfr677557 hfr677573 (fun b hb hn => ⟨(nm_c (fun e => hn (e ▸ List.mem_cons_self)) nm_n), (nm_c (fun e => hq677554 (e ▸ hb)) nm_n)⟩)
    change G _ _ _ _ _ _ _ (.int o677568 :: _) _ _ _
    refine G_widen (cs' := (min 1 (n677535 - n677481)) + 0 + 0) (sl' := 2 * (n677535 - n677481) + 0 + 0) (by omega) (by omega) ?_
    refine G_pop dr_cJ5_append_c97b9_33 rfl ?_
    refine G_goto 48 dr_cJ5_append_c97b9_34 (by decide +kernel) ?_
    refine G_aload_n 2 dr_cJ5_append_c97b9_48 rfl ?_
    refine G_iload_n 0 dr_cJ5_append_c97b9_49 rfl ?_
    refine Gp_put 3 hm677552 he677576 dr_cJ5_append_c97b9_50 (gk_J4 D I) (Nat.le_of_ble_eq_true rfl) wr_7_64 rfl rfl rfl (Nat.le_of_ble_eq_true rfl) (fun F677578 e677579 n677580 => ?_)
    have he677581 : F677578 q677476 = .inl (I .byte, n677481, .inl f677480) := (n677580 q677476 (rn_ao he677575 he677576)).trans he677575
    have he677582 : F677578 q677534 = .inl (I .byte, n677535, .inl f677569) := (n677580 q677534 (fun h => hq677554 (h ▸ hmq677475))).trans he677574
    have he677583 : F677578 q677475 = .inr (1, [.ref q677534, .int 0, .int p677478, .int z677494]) := e677579
    have hfr677584 : rFr [q677475] P677473 F677474 F677578 := rFr_put' List.mem_cons_self hfr677577 n677580
    refine G_aload_n 2 dr_cJ5_append_c97b9_53 rfl ?_
    exact G_aretA (FieldType.object "java/lang/AbstractStringBuilder") dr_cJ5_append_c97b9_54 rfl (by first | exact Or.inl ⟨_, rfl⟩ | exact Or.inr ⟨_, rfl⟩) (Or.inr ⟨_, rfl⟩) (show (min 1 (n677535 - n677481)) + 0 + 0 ≤ 1 by omega) (show 2 * (n677535 - n677481) + 0 + 0 ≤ (4 * n677481 + 64) by omega) (Or.inr (⟨P677544, F677578, z677494, q677534, n677535, f677569, rfl, rfl, hsb677555, hfr677584, he677583, he677582, hm677550, hq677554, (by omega), (by omega), ⟨by omega, by omega⟩, bf677569, (by have qa0 : Int32.toInt 0 = 0 := (by decide); omega), (by have qa0 : Int32.toInt 0 = 0 := (by decide); omega), (by have qa0 : Int32.toInt 0 = 0 := (by decide); omega), (by have qa0 : Int32.toInt 0 = 0 := (by decide); omega), (by have qa0 : Int32.toInt 0 = 0 := (by decide); omega), (by have qa0 : Int32.toInt 0 = 0 := (by decide); omega), (by have qa0 : Int32.toInt 0 = 0 := (by decide); omega), (fun R c1 => c1 o677491 z677494 n677535 f677536 o677568 f677569 bo677491 ht677493 ez677494 ht677543 bo677568 ht677570)⟩))
/- tr_RStringBuilder_append10: a.0...count, a.0.value.[] -/
def tr_RStringBuilder_append10 (a1 : Int32) (a0_count : Int32) (a0_value_v : Nat → Int32) (a0_value_n : Nat) (o1 : Int32) (o2 : Nat → Int32) : Prop := ∀ R : (Int32) → (Nat → Int32) → Prop,
  (∀ (x1 : Int32) (x2 : Nat → Int32), gB x1 1 16777216 → tr_RAbstractStringBuilder_append10 a1 a0_count a0_value_v a0_value_n x1 x2 → R x1 x2) →
  R o1 o2
/- tr_RStringBuilder_append10_g2: a.0...count, a.0.value.#, a.0.value.[] -/
def tr_RStringBuilder_append10_g2 (a1 : Int32) (a0_count : Int32) (a0_value_v : Nat → Int32) (a0_value_n : Nat) (o1 : Int32) (o2 : Nat) (o3 : Nat → Int32) : Prop := ∀ R : (Int32) → (Nat) → (Nat → Int32) → Prop,
  (∀ (x1 : Int32) (x2 : Nat) (x3 : Nat → Int32), gB x1 1 16777216 → tr_RAbstractStringBuilder_append10_g2 a1 a0_count a0_value_v a0_value_n x1 x2 x3 → R x1 x2 x3) →
  R o1 o2 o3
end
section
abbrev ky_677472_StringBuilder_append : gKey := (cJ4_append_bf812, 2, "java/lang/StringBuilder", (some (FieldType.object "java/lang/StringBuilder")), [], "append", fun _ _ => True)
def pp_677472_StringBuilder_append (D : va_G) (I : FieldType → ClassId) (P677460 : List Nat) (F677461 : Nat → va_E) (q677462 : Nat) (q677463 : Nat) (p677464 : Int32) (p677465 : Int32) (p677466 : Int32) (f677467 : Nat → Int32) (n677468 : Nat) : Option Value → va_W → Nat → Nat → Prop := fun r w dc ds => (∃ (F677647 : Nat → va_E) (o677644 : Int32) (f677645 : Nat → Int32), r = some (.ref q677462) ∧ w = va_pl P677460 F677647 ∧ rFr [q677462, q677463] P677460 F677461 F677647 ∧ F677647 q677462 = .inr (1, [.ref q677463, .int 0, .int p677465, .int o677644]) ∧ F677647 q677463 = .inl (I .byte, n677468, .inl f677645) ∧ dc ≤ 0 ∧ ds ≤ 0 ∧ gB o677644 1 16777216 ∧ gF f677645 (-128) 127 ∧ p677466.toInt ≤ o677644.toInt ∧ o677644.toInt ≤ p677466.toInt + 11 ∧ o677644.toInt ≤ (n677468 : Int) ∧ (n677468 : Int) ≤ (n677468 : Int) ∧ ((n677468 : Int) ≤ 2 * (n677468 : Int) + 2 ∨ (n677468 : Int) ≤ p677466.toInt + 11) ∧ ((n677468 : Int) = (n677468 : Int) ∨ (n677468 : Int) < o677644.toInt) ∧ ((n677468 : Int) = (n677468 : Int) ∨ 2 * (n677468 : Int) + 2 ≤ (n677468 : Int)) ∧ tr_RStringBuilder_append10 p677464 p677466 f677467 n677468 o677644 f677645) ∨ (∃ (P677652 : List Nat) (F677653 : Nat → va_E) (o677648 : Int32) (q677649 : Nat) (n677650 : Nat) (f677651 : Nat → Int32), r = some (.ref q677462) ∧ w = va_pl P677652 F677653 ∧ rSub P677460 P677652 ∧ rFr [q677462] P677460 F677461 F677653 ∧ F677653 q677462 = .inr (1, [.ref q677649, .int 0, .int p677465, .int o677648]) ∧ F677653 q677649 = .inl (I .byte, n677650, .inl f677651) ∧ q677649 ∈ P677652 ∧ q677649 ∉ P677460 ∧ dc ≤ (min 1 (n677650 - n677468)) ∧ ds ≤ 2 * (n677650 - n677468) ∧ gB o677648 1 16777216 ∧ gF f677651 (-128) 127 ∧ p677466.toInt ≤ o677648.toInt ∧ o677648.toInt ≤ p677466.toInt + 11 ∧ o677648.toInt ≤ (n677650 : Int) ∧ (n677468 : Int) ≤ (n677650 : Int) ∧ ((n677650 : Int) ≤ 2 * (n677468 : Int) + 2 ∨ (n677650 : Int) ≤ p677466.toInt + 11) ∧ ((n677650 : Int) = (n677468 : Int) ∨ (n677468 : Int) < o677648.toInt) ∧ ((n677650 : Int) = (n677468 : Int) ∨ 2 * (n677468 : Int) + 2 ≤ (n677650 : Int)) ∧ tr_RStringBuilder_append10_g2 p677464 p677466 f677467 n677468 o677648 n677650 f677651)
set_option maxRecDepth 100000 in
set_option maxHeartbeats 4000000 in
theorem cp_677472_StringBuilder_append (l : Launch) (hl0 : l.stackTraces = false) (D : va_G) (I : FieldType → ClassId) (P677460 : List Nat) (F677461 : Nat → va_E) (q677462 : Nat) (q677463 : Nat) (p677464 : Int32) (p677465 : Int32) (p677466 : Int32) (f677467 : Nat → Int32) (n677468 : Nat) (hmq677462 : q677462 ∈ P677460) (hmq677463 : q677463 ∈ P677460) (heq677462 : F677461 q677462 = .inr (1, [.ref q677463, .int 0, .int p677465, .int p677466])) (heq677463 : F677461 q677463 = .inl (I .byte, n677468, .inl f677467)) (bp677465 : gB p677465 0 1) (bp677466 : gB p677466 0 16777216) (bf677467 : gF f677467 (-128) 127) (x677469 : (n677468 : Int) ≤ 8388608 - 100000) (x677470 : p677466.toInt ≤ (n677468 : Int)) (x677471 : ((n677468 : Int) ≤ 16777216)) : CtA (gV D I) l yJ4_append_bf812 cJ4_append_bf812 2 (some (FieldType.object "java/lang/StringBuilder")) 5 107 1 (4 * n677468 + 64) [.ref q677462, .int p677464] (va_pl P677460 F677461) (pp_677472_StringBuilder_append D I P677460 F677461 q677462 q677463 p677464 p677465 p677466 f677467 n677468) gNA := by
  refine CtA_ofF hl0 (by decide +kernel) (Nat.le_of_ble_eq_true rfl) ?_
  have bp677464 := gB_any p677464
  refine G_aload_n 0 dr_cJ4_append_bf812_0 rfl ?_
  refine G_iload_n 1 dr_cJ4_append_bf812_1 rfl ?_
  refine Gw_callSU (As := [.int p677464]) (gV_ok D I) (cp_677485_AbstractStringBuilder_append l hl0 D I P677460 F677461 q677462 q677463 p677464 p677465 p677466 f677467 n677468 hmq677462 hmq677463 heq677462 heq677463 bp677465 bp677466 bf677467 (by have qa0 : Int32.toInt 0 = 0 := (by decide); omega) (by have qa0 : Int32.toInt 0 = 0 := (by decide); omega) (by have qa0 : Int32.toInt 0 = 0 := (by decide); omega)) dr_cJ4_append_bf812_2 ⟨wr_8_109, wr_1_19, wr_8_111, by decide, rfl, (Nat.le_of_ble_eq_true rfl), (Nat.le_of_ble_eq_true rfl)⟩ wr_8_110 wr_11_228 wr_7_73 wr_7_44 (by decide) hmq677462 heq677462 rfl (show 0 + 1 ≤ 1 by first | omega | decide) (show 0 + (4 * n677468 + 64) ≤ (4 * n677468 + 64) by first | omega | decide) (Nat.le_of_ble_eq_true rfl) (fun r677598 w677599 dc677595 ds677596 hp677597 => ?_)
  rcases hp677597 with hp677600 | hp677601
  · obtain ⟨F677612, o677602, f677603, rfl, rfl, hfr677614, he677615, he677616, hdc, hds, bo677602, bf677603, x677604, x677605, x677606, x677607, x677608, x677609, x677610, ht677611⟩ := hp677600
    have hfr677617 : rFr [q677462, q677463] P677460 F677461 F677612 := rFr_call (rSub_rf (P := P677460)) (rFr_rf (W := []) (P := P677460) (F := F677461)) hfr677614 (fun b hb hn => ⟨nm_n, (nm_c (fun e => hn (e ▸ List.mem_cons_self)) (nm_c (fun e => hn (e ▸ (List.mem_cons_of_mem _ List.mem_cons_self))) nm_n))⟩)
    change G _ _ _ _ _ _ _ (.ref q677462 :: _) _ _ _
    refine G_widen (cs' := 0) (sl' := 0) (by omega) (by omega) ?_
    refine G_pop dr_cJ4_append_bf812_5 rfl ?_
    refine G_aload_n 0 dr_cJ4_append_bf812_6 rfl ?_
    exact G_aretA (FieldType.object "java/lang/StringBuilder") dr_cJ4_append_bf812_7 rfl (by first | exact Or.inl ⟨_, rfl⟩ | exact Or.inr ⟨_, rfl⟩) (Or.inr ⟨_, rfl⟩) (Nat.le_of_ble_eq_true rfl) (Nat.le_of_ble_eq_true rfl) (Or.inl ⟨F677612, o677602, f677603, rfl, rfl, hfr677617, he677615, he677616, (Nat.le_of_ble_eq_true rfl), (Nat.le_of_ble_eq_true rfl), bo677602, bf677603, (by have qa0 : Int32.toInt 0 = 0 := (by decide); omega), (by have qa0 : Int32.toInt 0 = 0 := (by decide); omega), (by have qa0 : Int32.toInt 0 = 0 := (by decide); omega), (by have qa0 : Int32.toInt 0 = 0 := (by decide); omega), (by have qa0 : Int32.toInt 0 = 0 := (by decide); omega), (by have qa0 : Int32.toInt 0 = 0 := (by decide); omega), (by have qa0 : Int32.toInt 0 = 0 := (by decide); omega), (fun R c1 => c1 o677602 f677603 bo677602 ht677611)⟩)
  · obtain ⟨P677630, F677631, o677618, q677619, n677620, f677621, rfl, rfl, hsb677632, hfr677633, he677634, he677635, hm677636, hq677637, hdc, hds, bo677618, bf677621, x677622, x677623, x677624, x677625, x677626, x677627, x677628, ht677629⟩ := hp677601
    have hm677638 : q677462 ∈ P677630 := hsb677632 q677462 hmq677462
    have hm677639 : q677463 ∈ P677630 := hsb677632 q677463 hmq677463
    have hq677640 : q677619 ∉ P677460 := fun z => hq677637 ((rSub_rf (P := P677460)) q677619 z)
    have hsb677641 : rSub P677460 P677630 := rSub_tr (rSub_rf (P := P677460)) hsb677632
    have he677642 : F677631 q677463 = .inl (I .byte, n677468, .inl f677467) := (hfr677633 q677463 hmq677463 (nm_c (rn_ao heq677463 heq677462) nm_n)).trans heq677463
    have hfr677643 : rFr [q677462] P677460 F677461 F677631 := rFr_call (rSub_rf (P := P677460)) (rFr_rf (W := []) (P := P677460) (F := F677461)) hfr677633 (fun b hb hn => ⟨nm_n, (nm_c (fun e => hn (e ▸ List.mem_cons_self)) nm_n)⟩)
    change G _ _ _ _ _ _ _ (.ref q677462 :: _) _ _ _
    refine G_widen (cs' := (min 1 (n677620 - n677468))) (sl' := 2 * (n677620 - n677468)) (by omega) (by omega) ?_
    refine G_pop dr_cJ4_append_bf812_5 rfl ?_
    refine G_aload_n 0 dr_cJ4_append_bf812_6 rfl ?_
    exact G_aretA (FieldType.object "java/lang/StringBuilder") dr_cJ4_append_bf812_7 rfl (by first | exact Or.inl ⟨_, rfl⟩ | exact Or.inr ⟨_, rfl⟩) (Or.inr ⟨_, rfl⟩) (show (min 1 (n677620 - n677468)) ≤ 1 by omega) (show 2 * (n677620 - n677468) ≤ (4 * n677468 + 64) by omega) (Or.inr (⟨P677630, F677631, o677618, q677619, n677620, f677621, rfl, rfl, hsb677641, hfr677643, he677634, he677635, hm677636, hq677640, (by omega), (by omega), bo677618, bf677621, (by have qa0 : Int32.toInt 0 = 0 := (by decide); omega), (by have qa0 : Int32.toInt 0 = 0 := (by decide); omega), (by have qa0 : Int32.toInt 0 = 0 := (by decide); omega), (by have qa0 : Int32.toInt 0 = 0 := (by decide); omega), (by have qa0 : Int32.toInt 0 = 0 := (by decide); omega), (by have qa0 : Int32.toInt 0 = 0 := (by decide); omega), (by have qa0 : Int32.toInt 0 = 0 := (by decide); omega), (fun R c1 => c1 o677618 n677620 f677621 bo677618 ht677629)⟩))
/- tr_RAbstractStringBuilder_append11: a.0...count, a.0.value.[] -/
def tr_RAbstractStringBuilder_append11 (bs : List Int32) (a0_count : Int32) (a0_value_v : Nat → Int32) (a0_value_n : Nat) (o1 : Int32) (o2 : Nat → Int32) : Prop := ∀ R : (Int32) → (Nat → Int32) → Prop,
  (∀ (x1 : Int32) (x2 : Int32) (x3 : Nat → Int32) (x4 : Int32), gB x1 0 65535 → tr_RString_length2 bs x1 → x2.toInt = a0_count.toInt + x1.toInt → tr_RAbstractStringBuilder_ensureCapacityInternal3 x2 a0_value_n → tr_RAbstractStringBuilder_putStringAt2 a0_count bs a0_value_v x3 → x4.toInt = a0_count.toInt + x1.toInt → R x4 x3) →
  R o1 o2
/- tr_RAbstractStringBuilder_append11_g2: a.0...count, a.0.value.#, a.0.value.[] -/
def tr_RAbstractStringBuilder_append11_g2 (bs : List Int32) (a0_count : Int32) (a0_value_v : Nat → Int32) (a0_value_n : Nat) (o1 : Int32) (o2 : Nat) (o3 : Nat → Int32) : Prop := ∀ R : (Int32) → (Nat) → (Nat → Int32) → Prop,
  (∀ (x1 : Int32) (x2 : Int32) (x3 : Nat) (x4 : Nat → Int32) (x5 : Nat → Int32) (x6 : Int32), gB x1 0 65535 → tr_RString_length2 bs x1 → x2.toInt = a0_count.toInt + x1.toInt → tr_RAbstractStringBuilder_ensureCapacityInternal3_g2 x2 a0_value_v a0_value_n x3 x4 → tr_RAbstractStringBuilder_putStringAt2 a0_count bs x4 x5 → x6.toInt = a0_count.toInt + x1.toInt → R x6 x3 x5) →
  R o1 o2 o3
abbrev ky_677685_AbstractStringBuilder_append : gKey := (cJ5_append_cf1ce, 3, "java/lang/AbstractStringBuilder", (some (FieldType.object "java/lang/AbstractStringBuilder")), [], "append", fun _ _ => True)
def pp_677685_AbstractStringBuilder_append (D : va_G) (I : FieldType → ClassId) (P677670 : List Nat) (F677671 : Nat → va_E) (q677672 : Nat) (q677673 : Nat) (qs677674 : Nat) (qb677675 : Nat) (bs677676 : List Int32) (p677677 : Int32) (p677678 : Int32) (f677679 : Nat → Int32) (n677680 : Nat) : Option Value → va_W → Nat → Nat → Prop := fun r w dc ds => (∃ (F677782 : Nat → va_E) (o677779 : Int32) (f677780 : Nat → Int32), r = some (.ref q677672) ∧ w = va_pl P677670 F677782 ∧ rFr [q677672, q677673] P677670 F677671 F677782 ∧ F677782 q677672 = .inr (1, [.ref q677673, .int 0, .int p677677, .int o677779]) ∧ F677782 q677673 = .inl (I .byte, n677680, .inl f677780) ∧ dc ≤ 0 ∧ ds ≤ 0 ∧ gB o677779 0 16777216 ∧ gF f677780 (-128) 127 ∧ o677779.toInt = p677678.toInt + (bs677676.length : Int) ∧ o677779.toInt ≤ (n677680 : Int) ∧ (n677680 : Int) ≤ (n677680 : Int) ∧ ((n677680 : Int) ≤ 2 * (n677680 : Int) + 2 ∨ (n677680 : Int) ≤ o677779.toInt) ∧ ((n677680 : Int) = (n677680 : Int) ∨ (n677680 : Int) < o677779.toInt) ∧ ((n677680 : Int) = (n677680 : Int) ∨ 2 * (n677680 : Int) + 2 ≤ (n677680 : Int)) ∧ tr_RAbstractStringBuilder_append11 bs677676 p677678 f677679 n677680 o677779 f677780) ∨ (∃ (P677787 : List Nat) (F677788 : Nat → va_E) (o677783 : Int32) (q677784 : Nat) (n677785 : Nat) (f677786 : Nat → Int32), r = some (.ref q677672) ∧ w = va_pl P677787 F677788 ∧ rSub P677670 P677787 ∧ rFr [q677672] P677670 F677671 F677788 ∧ F677788 q677672 = .inr (1, [.ref q677784, .int 0, .int p677677, .int o677783]) ∧ F677788 q677784 = .inl (I .byte, n677785, .inl f677786) ∧ q677784 ∈ P677787 ∧ q677784 ∉ P677670 ∧ dc ≤ (min 1 (n677785 - n677680)) ∧ ds ≤ 2 * (n677785 - n677680) ∧ gB o677783 0 16777216 ∧ gF f677786 (-128) 127 ∧ o677783.toInt = p677678.toInt + (bs677676.length : Int) ∧ o677783.toInt ≤ (n677785 : Int) ∧ (n677680 : Int) ≤ (n677785 : Int) ∧ ((n677785 : Int) ≤ 2 * (n677680 : Int) + 2 ∨ (n677785 : Int) ≤ o677783.toInt) ∧ ((n677785 : Int) = (n677680 : Int) ∨ (n677680 : Int) < o677783.toInt) ∧ ((n677785 : Int) = (n677680 : Int) ∨ 2 * (n677680 : Int) + 2 ≤ (n677785 : Int)) ∧ tr_RAbstractStringBuilder_append11_g2 bs677676 p677678 f677679 n677680 o677783 n677785 f677786)
set_option maxRecDepth 100000 in
set_option maxHeartbeats 4000000 in
theorem cp_677685_AbstractStringBuilder_append (l : Launch) (hl0 : l.stackTraces = false) (D : va_G) (I : FieldType → ClassId) (P677670 : List Nat) (F677671 : Nat → va_E) (q677672 : Nat) (q677673 : Nat) (qs677674 : Nat) (qb677675 : Nat) (bs677676 : List Int32) (p677677 : Int32) (p677678 : Int32) (f677679 : Nat → Int32) (n677680 : Nat) (hmq677672 : q677672 ∈ P677670) (hmq677673 : q677673 ∈ P677670) (heq677672 : F677671 q677672 = .inr (1, [.ref q677673, .int 0, .int p677677, .int p677678])) (heq677673 : F677671 q677673 = .inl (I .byte, n677680, .inl f677679)) (hbs677676 : ∀ A s H, (gV D I).2.2.2.1 A s H → gSC qs677674 qb677675 bs677676 A s H) (nbs677676 : (bs677676.length : Int) ≤ 65535) (lbs677676 : gLB bs677676) (bp677677 : gB p677677 0 1) (bp677678 : gB p677678 0 16777216) (bf677679 : gF f677679 (-128) 127) (x677681 : (bs677676.length : Int) ≤ 65535) (x677682 : (n677680 : Int) ≤ 8388608 - 100000) (x677683 : p677678.toInt ≤ (n677680 : Int)) (x677684 : ((n677680 : Int) ≤ 16777216)) : CtA (gV D I) l yJ5_append_cf1ce cJ5_append_cf1ce 3 (some (FieldType.object "java/lang/AbstractStringBuilder")) 4 84 1 (4 * n677680 + 4 + 2 * bs677676.length) [.ref q677672, .ref qs677674] (va_pl P677670 F677671) (pp_677685_AbstractStringBuilder_append D I P677670 F677671 q677672 q677673 qs677674 qb677675 bs677676 p677677 p677678 f677679 n677680) gNA := by
  refine CtA_ofF hl0 (by decide +kernel) (Nat.le_of_ble_eq_true rfl) ?_
  refine G_aload_n 1 dr_cJ5_append_cf1ce_0 rfl ?_
  refine G_ifnonnull 9 dr_cJ5_append_cf1ce_1 (by decide +kernel) ?_
  refine G_aload_n 1 dr_cJ5_append_cf1ce_9 rfl ?_
  refine Gw_callVk (As := []) (gV_ok D I) (cp_659437_String_length l hl0 D I P677670 F677671 qs677674 qb677675 bs677676 hbs677676 nbs677676 lbs677676) dr_cJ5_append_cf1ce_10 ⟨wr_8_154, wr_1_21, wr_3_60, by decide, rfl, (Nat.le_of_ble_eq_true rfl), (Nat.le_of_ble_eq_true rfl)⟩ wr_3_58 wr_3_59 (fun _ _ _ h => (hbs677676 _ _ _ h).1) (show 0 + 0 ≤ 1 by first | omega | decide) (show 0 + 0 ≤ (4 * n677680 + 4 + 2 * bs677676.length) by first | omega | decide) (Nat.le_of_ble_eq_true rfl) (fun r677689 w677690 dc677686 ds677687 hp677688 => ?_) (fun _ _ _ _ _ z => z.elim)
  obtain ⟨o677691, rfl, rfl, hdc, hds, bo677691, x677692, ht677693⟩ := hp677688
  change G _ _ _ _ _ _ _ (.int o677691 :: _) _ _ _
  refine G_widen (cs' := 0) (sl' := 0) (by omega) (by omega) ?_
  refine G_istore_n (L' := [(2, .int o677691), (0, .ref q677672), (1, .ref qs677674)]) dr_cJ5_append_cf1ce_13 (Nat.le_of_ble_eq_true rfl) rfl ?_
  refine G_aload_n 1 dr_cJ5_append_cf1ce_14 rfl ?_
  refine G_aload_n 1 dr_cJ5_append_cf1ce_15 rfl ?_
  refine Gp_get 3 hmq677672 heq677672 dr_cJ5_append_cf1ce_16 (gk_J4 D I) (Nat.le_of_ble_eq_true rfl) wr_7_64 rfl ?_
  refine G_iload_n 0 dr_cJ5_append_cf1ce_19 rfl ?_
  refine G_iadd dr_cJ5_append_cf1ce_20 (G_nam fun z677694 hz677694 => ?_)
  have ez677694 : z677694.toInt = p677678.toInt + o677691.toInt := by rw [gI_add hz677694 bp677678 bo677691 (by decide) (by decide)]
  have bz677694 : gB z677694 0 16842751 := gB_add (gI_add hz677694 bp677678 bo677691 (by decide) (by decide)) bp677678 bo677691 (by decide) (by decide)
  refine Gw_callVB (As := [.int z677694]) (gV_ok D I) (cp_677241_AbstractStringBuilder_ensureCapacityInternal l hl0 D I P677670 F677671 q677672 q677673 z677694 p677677 p677678 f677679 n677680 hmq677672 hmq677673 heq677672 heq677673 ⟨by omega, by omega⟩ bp677677 bp677678 bf677679 (by have qa0 : Int32.toInt 0 = 0 := (by decide); omega) (by have qa0 : Int32.toInt 0 = 0 := (by decide); omega)) dr_cJ5_append_cf1ce_21 ⟨wr_8_4, wr_1_19, wr_8_7, by decide, rfl, (Nat.le_of_ble_eq_true rfl), (Nat.le_of_ble_eq_true rfl)⟩ wr_8_6 wr_s_0 hmq677672 heq677672 rfl (show 0 + 1 ≤ 1 by first | omega | decide) (show 0 + (2 * n677680 + 2 + z677694.toInt.toNat) ≤ (4 * n677680 + 4 + 2 * bs677676.length) by first | omega | decide) (Nat.le_of_ble_eq_true rfl) (fun r677698 w677699 dc677695 ds677696 hp677697 => ?_) (fun _ _ _ _ _ z => z.elim)
  rcases hp677697 with hp677700 | hp677701
  · obtain ⟨rfl, rfl, hdc, hds, x677702, x677703, x677704, x677705, x677706, x677707, ht677708⟩ := hp677700
    change G _ _ _ _ _ _ _ _ _ _ _
    refine G_widen (cs' := 0) (sl' := 0) (by omega) (by omega) ?_
    refine G_aload_n 1 dr_cJ5_append_cf1ce_24 rfl ?_
    refine G_aload_n 1 dr_cJ5_append_cf1ce_25 rfl ?_
    refine Gp_get 3 hmq677672 heq677672 dr_cJ5_append_cf1ce_26 (gk_J4 D I) (Nat.le_of_ble_eq_true rfl) wr_7_64 rfl ?_
    refine G_aload_n 2 dr_cJ5_append_cf1ce_29 rfl ?_
    refine Gw_callVB (As := [.int p677678, .ref qs677674]) (gV_ok D I) (cp_659481_AbstractStringBuilder_putStringAt l hl0 D I P677670 F677671 q677672 q677673 p677678 qs677674 qb677675 bs677676 p677677 p677678 f677679 n677680 hmq677672 hmq677673 heq677672 heq677673 hbs677676 nbs677676 lbs677676 bp677678 bp677677 bp677678 bf677679 (by have qa0 : Int32.toInt 0 = 0 := (by decide); omega) (by have qa0 : Int32.toInt 0 = 0 := (by decide); omega)) dr_cJ5_append_cf1ce_30 ⟨wr_8_155, wr_1_19, wr_8_158, by decide, rfl, (Nat.le_of_ble_eq_true rfl), (Nat.le_of_ble_eq_true rfl)⟩ wr_8_157 wr_s_4 hmq677672 heq677672 rfl (show 0 + 0 ≤ 1 by first | omega | decide) (show 0 + 0 ≤ (4 * n677680 + 4 + 2 * bs677676.length) by first | omega | decide) (Nat.le_of_ble_eq_true rfl) (fun r677712 w677713 dc677709 ds677710 hp677711 => ?_) (fun _ _ _ _ _ z => z.elim)
    obtain ⟨F677718, f677714, rfl, rfl, hfr677720, he677721, he677722, hdc, hds, bf677714, x677715, x677716, ht677717⟩ := hp677711
    have hfr677723 : rFr [q677673] P677670 F677671 F677718 := rFr_call (rSub_rf (P := P677670)) (rFr_rf (W := []) (P := P677670) (F := F677671)) hfr677720 (fun b hb hn => ⟨nm_n, (nm_c (fun e => hn (e ▸ List.mem_cons_self)) nm_n)⟩)
    change G _ _ _ _ _ _ _ _ _ _ _
    refine G_widen (cs' := 0) (sl' := 0) (by omega) (by omega) ?_
    refine G_aload_n 1 dr_cJ5_append_cf1ce_33 rfl ?_
    refine G_dup dr_cJ5_append_cf1ce_34 rfl ?_
    refine Gp_get 3 hmq677672 he677721 dr_cJ5_append_cf1ce_35 (gk_J4 D I) (Nat.le_of_ble_eq_true rfl) wr_7_64 rfl ?_
    refine G_iload_n 0 dr_cJ5_append_cf1ce_38 rfl ?_
    refine G_iadd dr_cJ5_append_cf1ce_39 (G_nam fun z677724 hz677724 => ?_)
    have ez677724 : z677724.toInt = p677678.toInt + o677691.toInt := by rw [gI_add hz677724 bp677678 bo677691 (by decide) (by decide)]
    have bz677724 : gB z677724 0 16842751 := gB_add (gI_add hz677724 bp677678 bo677691 (by decide) (by decide)) bp677678 bo677691 (by decide) (by decide)
    refine Gp_put 3 hmq677672 he677721 dr_cJ5_append_cf1ce_40 (gk_J4 D I) (Nat.le_of_ble_eq_true rfl) wr_7_64 rfl rfl rfl (Nat.le_of_ble_eq_true rfl) (fun F677725 e677726 n677727 => ?_)
    have he677728 : F677725 q677673 = .inl (I .byte, n677680, .inl f677714) := (n677727 q677673 (rn_ao he677722 he677721)).trans he677722
    have he677729 : F677725 q677672 = .inr (1, [.ref q677673, .int 0, .int p677677, .int z677724]) := e677726
    have hfr677730 : rFr [q677672, q677673] P677670 F677671 F677725 := rFr_put hfr677723 n677727
    refine G_aload_n 1 dr_cJ5_append_cf1ce_43 rfl ?_
    exact G_aretA (FieldType.object "java/lang/AbstractStringBuilder") dr_cJ5_append_cf1ce_44 rfl (by first | exact Or.inl ⟨_, rfl⟩ | exact Or.inr ⟨_, rfl⟩) (Or.inr ⟨_, rfl⟩) (Nat.le_of_ble_eq_true rfl) (Nat.le_of_ble_eq_true rfl) (Or.inl ⟨F677725, z677724, f677714, rfl, rfl, hfr677730, he677729, he677728, (Nat.le_of_ble_eq_true rfl), (Nat.le_of_ble_eq_true rfl), ⟨by omega, by omega⟩, bf677714, (by have qa0 : Int32.toInt 0 = 0 := (by decide); omega), (by have qa0 : Int32.toInt 0 = 0 := (by decide); omega), (by have qa0 : Int32.toInt 0 = 0 := (by decide); omega), (by have qa0 : Int32.toInt 0 = 0 := (by decide); omega), (by have qa0 : Int32.toInt 0 = 0 := (by decide); omega), (by have qa0 : Int32.toInt 0 = 0 := (by decide); omega), (fun R c1 => c1 o677691 z677694 f677714 z677724 bo677691 ht677693 ez677694 ht677708 ht677717 ez677724)⟩)
  · obtain ⟨P677741, F677742, q677731, n677732, f677733, rfl, rfl, hsb677743, hfr677744, he677745, he677746, hm677747, hq677748, hdc, hds, bf677733, x677734, x677735, x677736, x677737, x677738, x677739, ht677740⟩ := hp677701
    have hm677749 : q677672 ∈ P677741 := hsb677743 q677672 hmq677672
    have hm677750 : q677673 ∈ P677741 := hsb677743 q677673 hmq677673
    have hq677751 : q677731 ∉ P677670 := fun z => hq677748 ((rSub_rf (P := P677670)) q677731 z)
    have hsb677752 : rSub P677670 P677741 := rSub_tr (rSub_rf (P := P677670)) hsb677743
    have he677753 : F677742 q677673 = .inl (I .byte, n677680, .inl f677679) := (hfr677744 q677673 hmq677673 (nm_c (rn_ao heq677673 heq677672) nm_n)).trans heq677673
    have hfr677754 : rFr [q677672] P677670 F677671 F677742 := rFr_call (rSub_rf (P := P677670)) (rFr_rf (W := []) (P := P677670) (F := F677671)) hfr677744 (fun b hb hn => ⟨nm_n, (nm_c (fun e => hn (e ▸ List.mem_cons_self)) nm_n)⟩)
    change G _ _ _ _ _ _ _ _ _ _ _
    refine G_widen (cs' := (min 1 (n677732 - n677680))) (sl' := 2 * (n677732 - n677680)) (by omega) (by omega) ?_
    refine G_aload_n 1 dr_cJ5_append_cf1ce_24 rfl ?_
    refine G_aload_n 1 dr_cJ5_append_cf1ce_25 rfl ?_
    refine Gp_get 3 hm677749 he677745 dr_cJ5_append_cf1ce_26 (gk_J4 D I) (Nat.le_of_ble_eq_true rfl) wr_7_64 rfl ?_
    refine G_aload_n 2 dr_cJ5_append_cf1ce_29 rfl ?_
    refine Gw_callVB (As := [.int p677678, .ref qs677674]) (gV_ok D I) (cp_659481_AbstractStringBuilder_putStringAt l hl0 D I P677741 F677742 q677672 q677731 p677678 qs677674 qb677675 bs677676 p677677 p677678 f677733 n677732 hm677749 hm677747 he677745 he677746 hbs677676 nbs677676 lbs677676 bp677678 bp677677 bp677678 bf677733 (by have qa0 : Int32.toInt 0 = 0 := (by decide); omega) (by have qa0 : Int32.toInt 0 = 0 := (by decide); omega)) dr_cJ5_append_cf1ce_30 ⟨wr_8_155, wr_1_19, wr_8_158, by decide, rfl, (Nat.le_of_ble_eq_true rfl), (Nat.le_of_ble_eq_true rfl)⟩ wr_8_157 wr_s_4 hm677749 he677745 rfl (show (min 1 (n677732 - n677680)) + 0 ≤ 1 by first | omega | decide) (show 2 * (n677732 - n677680) + 0 ≤ (4 * n677680 + 4 + 2 * bs677676.length) by first | omega | decide) (Nat.le_of_ble_eq_true rfl) (fun r677758 w677759 dc677755 ds677756 hp677757 => ?_) (fun _ _ _ _ _ z => z.elim)
    obtain ⟨F677764, f677760, rfl, rfl, hfr677766, he677767, he677768, hdc, hds, bf677760, x677761, x677762, ht677763⟩ := hp677757
    have he677769 : F677764 q677673 = .inl (I .byte, n677680, .inl f677679) := (hfr677766 q677673 hm677750 (nm_c (fun h => hq677751 (h ▸ hmq677673)) nm_n)).trans he677753
    have hfr677770 : rFr [q677672] P677670 F677671 F677764 := rFr_call hsb677752 hfr677754 hfr677766 (fun b hb hn => ⟨(nm_c (fun e => hn (e ▸ List.mem_cons_self)) nm_n), (nm_c (fun e => hq677751 (e ▸ hb)) nm_n)⟩)
    change G _ _ _ _ _ _ _ _ _ _ _
    refine G_widen (cs' := (min 1 (n677732 - n677680)) + 0) (sl' := 2 * (n677732 - n677680) + 0) (by omega) (by omega) ?_
    refine G_aload_n 1 dr_cJ5_append_cf1ce_33 rfl ?_
    refine G_dup dr_cJ5_append_cf1ce_34 rfl ?_
    refine Gp_get 3 hm677749 he677767 dr_cJ5_append_cf1ce_35 (gk_J4 D I) (Nat.le_of_ble_eq_true rfl) wr_7_64 rfl ?_
    refine G_iload_n 0 dr_cJ5_append_cf1ce_38 rfl ?_
    refine G_iadd dr_cJ5_append_cf1ce_39 (G_nam fun z677771 hz677771 => ?_)
    have ez677771 : z677771.toInt = p677678.toInt + o677691.toInt := by rw [gI_add hz677771 bp677678 bo677691 (by decide) (by decide)]
    have bz677771 : gB z677771 0 16842751 := gB_add (gI_add hz677771 bp677678 bo677691 (by decide) (by decide)) bp677678 bo677691 (by decide) (by decide)
    refine Gp_put 3 hm677749 he677767 dr_cJ5_append_cf1ce_40 (gk_J4 D I) (Nat.le_of_ble_eq_true rfl) wr_7_64 rfl rfl rfl (Nat.le_of_ble_eq_true rfl) (fun F677772 e677773 n677774 => ?_)
    have he677775 : F677772 q677673 = .inl (I .byte, n677680, .inl f677679) := (n677774 q677673 (rn_ao he677769 he677767)).trans he677769
    have he677776 : F677772 q677731 = .inl (I .byte, n677732, .inl f677760) := (n677774 q677731 (fun h => hq677751 (h ▸ hmq677672))).trans he677768
    have he677777 : F677772 q677672 = .inr (1, [.ref q677731, .int 0, .int p677677, .int z677771]) := e677773
    have hfr677778 : rFr [q677672] P677670 F677671 F677772 := rFr_put' List.mem_cons_self hfr677770 n677774
    refine G_aload_n 1 dr_cJ5_append_cf1ce_43 rfl ?_
    exact G_aretA (FieldType.object "java/lang/AbstractStringBuilder") dr_cJ5_append_cf1ce_44 rfl (by first | exact Or.inl ⟨_, rfl⟩ | exact Or.inr ⟨_, rfl⟩) (Or.inr ⟨_, rfl⟩) (show (min 1 (n677732 - n677680)) + 0 ≤ 1 by omega) (show 2 * (n677732 - n677680) + 0 ≤ (4 * n677680 + 4 + 2 * bs677676.length) by omega) (Or.inr (⟨P677741, F677772, z677771, q677731, n677732, f677760, rfl, rfl, hsb677752, hfr677778, he677777, he677776, hm677747, hq677751, (by omega), (by omega), ⟨by omega, by omega⟩, bf677760, (by have qa0 : Int32.toInt 0 = 0 := (by decide); omega), (by have qa0 : Int32.toInt 0 = 0 := (by decide); omega), (by have qa0 : Int32.toInt 0 = 0 := (by decide); omega), (by have qa0 : Int32.toInt 0 = 0 := (by decide); omega), (by have qa0 : Int32.toInt 0 = 0 := (by decide); omega), (by have qa0 : Int32.toInt 0 = 0 := (by decide); omega), (fun R c1 => c1 o677691 z677694 n677732 f677733 f677760 z677771 bo677691 ht677693 ez677694 ht677740 ht677763 ez677771)⟩))
/- tr_RStringBuilder_append11: a.0...count, a.0.value.[] -/
def tr_RStringBuilder_append11 (bs : List Int32) (a0_count : Int32) (a0_value_v : Nat → Int32) (a0_value_n : Nat) (o1 : Int32) (o2 : Nat → Int32) : Prop := ∀ R : (Int32) → (Nat → Int32) → Prop,
  (∀ (x1 : Int32) (x2 : Nat → Int32), gB x1 0 16777216 → tr_RAbstractStringBuilder_append11 bs a0_count a0_value_v a0_value_n x1 x2 → R x1 x2) →
  R o1 o2
/- tr_RStringBuilder_append11_g2: a.0...count, a.0.value.#, a.0.value.[] -/
def tr_RStringBuilder_append11_g2 (bs : List Int32) (a0_count : Int32) (a0_value_v : Nat → Int32) (a0_value_n : Nat) (o1 : Int32) (o2 : Nat) (o3 : Nat → Int32) : Prop := ∀ R : (Int32) → (Nat) → (Nat → Int32) → Prop,
  (∀ (x1 : Int32) (x2 : Nat) (x3 : Nat → Int32), gB x1 0 16777216 → tr_RAbstractStringBuilder_append11_g2 bs a0_count a0_value_v a0_value_n x1 x2 x3 → R x1 x2 x3) →
  R o1 o2 o3
abbrev ky_677669_StringBuilder_append : gKey := (cJ4_append_15ec4, 2, "java/lang/StringBuilder", (some (FieldType.object "java/lang/StringBuilder")), [], "append", fun _ _ => True)
def pp_677669_StringBuilder_append (D : va_G) (I : FieldType → ClassId) (P677654 : List Nat) (F677655 : Nat → va_E) (q677656 : Nat) (q677657 : Nat) (qs677658 : Nat) (qb677659 : Nat) (bs677660 : List Int32) (p677661 : Int32) (p677662 : Int32) (f677663 : Nat → Int32) (n677664 : Nat) : Option Value → va_W → Nat → Nat → Prop := fun r w dc ds => (∃ (F677839 : Nat → va_E) (o677836 : Int32) (f677837 : Nat → Int32), r = some (.ref q677656) ∧ w = va_pl P677654 F677839 ∧ rFr [q677656, q677657] P677654 F677655 F677839 ∧ F677839 q677656 = .inr (1, [.ref q677657, .int 0, .int p677661, .int o677836]) ∧ F677839 q677657 = .inl (I .byte, n677664, .inl f677837) ∧ dc ≤ 0 ∧ ds ≤ 0 ∧ gB o677836 0 16777216 ∧ gF f677837 (-128) 127 ∧ o677836.toInt = p677662.toInt + (bs677660.length : Int) ∧ o677836.toInt ≤ (n677664 : Int) ∧ (n677664 : Int) ≤ (n677664 : Int) ∧ ((n677664 : Int) ≤ 2 * (n677664 : Int) + 2 ∨ (n677664 : Int) ≤ o677836.toInt) ∧ ((n677664 : Int) = (n677664 : Int) ∨ (n677664 : Int) < o677836.toInt) ∧ ((n677664 : Int) = (n677664 : Int) ∨ 2 * (n677664 : Int) + 2 ≤ (n677664 : Int)) ∧ tr_RStringBuilder_append11 bs677660 p677662 f677663 n677664 o677836 f677837) ∨ (∃ (P677844 : List Nat) (F677845 : Nat → va_E) (o677840 : Int32) (q677841 : Nat) (n677842 : Nat) (f677843 : Nat → Int32), r = some (.ref q677656) ∧ w = va_pl P677844 F677845 ∧ rSub P677654 P677844 ∧ rFr [q677656] P677654 F677655 F677845 ∧ F677845 q677656 = .inr (1, [.ref q677841, .int 0, .int p677661, .int o677840]) ∧ F677845 q677841 = .inl (I .byte, n677842, .inl f677843) ∧ q677841 ∈ P677844 ∧ q677841 ∉ P677654 ∧ dc ≤ (min 1 (n677842 - n677664)) ∧ ds ≤ 2 * (n677842 - n677664) ∧ gB o677840 0 16777216 ∧ gF f677843 (-128) 127 ∧ o677840.toInt = p677662.toInt + (bs677660.length : Int) ∧ o677840.toInt ≤ (n677842 : Int) ∧ (n677664 : Int) ≤ (n677842 : Int) ∧ ((n677842 : Int) ≤ 2 * (n677664 : Int) + 2 ∨ (n677842 : Int) ≤ o677840.toInt) ∧ ((n677842 : Int) = (n677664 : Int) ∨ (n677664 : Int) < o677840.toInt) ∧ ((n677842 : Int) = (n677664 : Int) ∨ 2 * (n677664 : Int) + 2 ≤ (n677842 : Int)) ∧ tr_RStringBuilder_append11_g2 bs677660 p677662 f677663 n677664 o677840 n677842 f677843)
set_option maxRecDepth 100000 in
set_option maxHeartbeats 4000000 in
theorem cp_677669_StringBuilder_append (l : Launch) (hl0 : l.stackTraces = false) (D : va_G) (I : FieldType → ClassId) (P677654 : List Nat) (F677655 : Nat → va_E) (q677656 : Nat) (q677657 : Nat) (qs677658 : Nat) (qb677659 : Nat) (bs677660 : List Int32) (p677661 : Int32) (p677662 : Int32) (f677663 : Nat → Int32) (n677664 : Nat) (hmq677656 : q677656 ∈ P677654) (hmq677657 : q677657 ∈ P677654) (heq677656 : F677655 q677656 = .inr (1, [.ref q677657, .int 0, .int p677661, .int p677662])) (heq677657 : F677655 q677657 = .inl (I .byte, n677664, .inl f677663)) (hbs677660 : ∀ A s H, (gV D I).2.2.2.1 A s H → gSC qs677658 qb677659 bs677660 A s H) (nbs677660 : (bs677660.length : Int) ≤ 65535) (lbs677660 : gLB bs677660) (bp677661 : gB p677661 0 1) (bp677662 : gB p677662 0 16777216) (bf677663 : gF f677663 (-128) 127) (x677665 : (bs677660.length : Int) ≤ 65535) (x677666 : (n677664 : Int) ≤ 8388608 - 100000) (x677667 : p677662.toInt ≤ (n677664 : Int)) (x677668 : ((n677664 : Int) ≤ 16777216)) : CtA (gV D I) l yJ4_append_15ec4 cJ4_append_15ec4 2 (some (FieldType.object "java/lang/StringBuilder")) 5 106 1 (4 * n677664 + 4 + 2 * bs677660.length) [.ref q677656, .ref qs677658] (va_pl P677654 F677655) (pp_677669_StringBuilder_append D I P677654 F677655 q677656 q677657 qs677658 qb677659 bs677660 p677661 p677662 f677663 n677664) gNA := by
  refine CtA_ofF hl0 (by decide +kernel) (Nat.le_of_ble_eq_true rfl) ?_
  refine G_aload_n 0 dr_cJ4_append_15ec4_0 rfl ?_
  refine G_aload_n 1 dr_cJ4_append_15ec4_1 rfl ?_
  refine Gw_callSU (As := [.ref qs677658]) (gV_ok D I) (cp_677685_AbstractStringBuilder_append l hl0 D I P677654 F677655 q677656 q677657 qs677658 qb677659 bs677660 p677661 p677662 f677663 n677664 hmq677656 hmq677657 heq677656 heq677657 hbs677660 nbs677660 lbs677660 bp677661 bp677662 bf677663 (by have qa0 : Int32.toInt 0 = 0 := (by decide); omega) (by have qa0 : Int32.toInt 0 = 0 := (by decide); omega) (by have qa0 : Int32.toInt 0 = 0 := (by decide); omega) (by have qa0 : Int32.toInt 0 = 0 := (by decide); omega)) dr_cJ4_append_15ec4_2 ⟨wr_8_144, wr_1_19, wr_8_146, by decide, rfl, (Nat.le_of_ble_eq_true rfl), (Nat.le_of_ble_eq_true rfl)⟩ wr_8_145 wr_11_229 wr_7_73 wr_7_44 (by decide) hmq677656 heq677656 rfl (show 0 + 1 ≤ 1 by first | omega | decide) (show 0 + (4 * n677664 + 4 + 2 * bs677660.length) ≤ (4 * n677664 + 4 + 2 * bs677660.length) by first | omega | decide) (Nat.le_of_ble_eq_true rfl) (fun r677792 w677793 dc677789 ds677790 hp677791 => ?_)
  rcases hp677791 with hp677794 | hp677795
  · obtain ⟨F677805, o677796, f677797, rfl, rfl, hfr677807, he677808, he677809, hdc, hds, bo677796, bf677797, x677798, x677799, x677800, x677801, x677802, x677803, ht677804⟩ := hp677794
    have hfr677810 : rFr [q677656, q677657] P677654 F677655 F677805 := rFr_call (rSub_rf (P := P677654)) (rFr_rf (W := []) (P := P677654) (F := F677655)) hfr677807 (fun b hb hn => ⟨nm_n, (nm_c (fun e => hn (e ▸ List.mem_cons_self)) (nm_c (fun e => hn (e ▸ (List.mem_cons_of_mem _ List.mem_cons_self))) nm_n))⟩)
    change G _ _ _ _ _ _ _ (.ref q677656 :: _) _ _ _
    refine G_widen (cs' := 0) (sl' := 0) (by omega) (by omega) ?_
    refine G_pop dr_cJ4_append_15ec4_5 rfl ?_
    refine G_aload_n 0 dr_cJ4_append_15ec4_6 rfl ?_
    exact G_aretA (FieldType.object "java/lang/StringBuilder") dr_cJ4_append_15ec4_7 rfl (by first | exact Or.inl ⟨_, rfl⟩ | exact Or.inr ⟨_, rfl⟩) (Or.inr ⟨_, rfl⟩) (Nat.le_of_ble_eq_true rfl) (Nat.le_of_ble_eq_true rfl) (Or.inl ⟨F677805, o677796, f677797, rfl, rfl, hfr677810, he677808, he677809, (Nat.le_of_ble_eq_true rfl), (Nat.le_of_ble_eq_true rfl), bo677796, bf677797, (by have qa0 : Int32.toInt 0 = 0 := (by decide); omega), (by have qa0 : Int32.toInt 0 = 0 := (by decide); omega), (by have qa0 : Int32.toInt 0 = 0 := (by decide); omega), (by have qa0 : Int32.toInt 0 = 0 := (by decide); omega), (by have qa0 : Int32.toInt 0 = 0 := (by decide); omega), (by have qa0 : Int32.toInt 0 = 0 := (by decide); omega), (fun R c1 => c1 o677796 f677797 bo677796 ht677804)⟩)
  · obtain ⟨P677822, F677823, o677811, q677812, n677813, f677814, rfl, rfl, hsb677824, hfr677825, he677826, he677827, hm677828, hq677829, hdc, hds, bo677811, bf677814, x677815, x677816, x677817, x677818, x677819, x677820, ht677821⟩ := hp677795
    have hm677830 : q677656 ∈ P677822 := hsb677824 q677656 hmq677656
    have hm677831 : q677657 ∈ P677822 := hsb677824 q677657 hmq677657
    have hq677832 : q677812 ∉ P677654 := fun z => hq677829 ((rSub_rf (P := P677654)) q677812 z)
    have hsb677833 : rSub P677654 P677822 := rSub_tr (rSub_rf (P := P677654)) hsb677824
    have he677834 : F677823 q677657 = .inl (I .byte, n677664, .inl f677663) := (hfr677825 q677657 hmq677657 (nm_c (rn_ao heq677657 heq677656) nm_n)).trans heq677657
    have hfr677835 : rFr [q677656] P677654 F677655 F677823 := rFr_call (rSub_rf (P := P677654)) (rFr_rf (W := []) (P := P677654) (F := F677655)) hfr677825 (fun b hb hn => ⟨nm_n, (nm_c (fun e => hn (e ▸ List.mem_cons_self)) nm_n)⟩)
    change G _ _ _ _ _ _ _ (.ref q677656 :: _) _ _ _
    refine G_widen (cs' := (min 1 (n677813 - n677664))) (sl' := 2 * (n677813 - n677664)) (by omega) (by omega) ?_
    refine G_pop dr_cJ4_append_15ec4_5 rfl ?_
    refine G_aload_n 0 dr_cJ4_append_15ec4_6 rfl ?_
    exact G_aretA (FieldType.object "java/lang/StringBuilder") dr_cJ4_append_15ec4_7 rfl (by first | exact Or.inl ⟨_, rfl⟩ | exact Or.inr ⟨_, rfl⟩) (Or.inr ⟨_, rfl⟩) (show (min 1 (n677813 - n677664)) ≤ 1 by omega) (show 2 * (n677813 - n677664) ≤ (4 * n677664 + 4 + 2 * bs677660.length) by omega) (Or.inr (⟨P677822, F677823, o677811, q677812, n677813, f677814, rfl, rfl, hsb677833, hfr677835, he677826, he677827, hm677828, hq677832, (by omega), (by omega), bo677811, bf677814, (by have qa0 : Int32.toInt 0 = 0 := (by decide); omega), (by have qa0 : Int32.toInt 0 = 0 := (by decide); omega), (by have qa0 : Int32.toInt 0 = 0 := (by decide); omega), (by have qa0 : Int32.toInt 0 = 0 := (by decide); omega), (by have qa0 : Int32.toInt 0 = 0 := (by decide); omega), (by have qa0 : Int32.toInt 0 = 0 := (by decide); omega), (fun R c1 => c1 o677811 n677813 f677814 bo677811 ht677821)⟩))
/- tr_RAbstractStringBuilder_append12: a.0...count, a.0.value.[] -/
def tr_RAbstractStringBuilder_append12 (a1 : Int32) (a0_count : Int32) (a0_value_v : Nat → Int32) (a0_value_n : Nat) (o1 : Int32) (o2 : Nat → Int32) : Prop := ∀ R : (Int32) → (Nat → Int32) → Prop,
  (∀ (x1 : Int32) (x2 : Int32) (x3 : Int32) (x4 : Nat → Int32), gB x1 1 11 → tr_RInteger_stringSize a1 x1 → x2.toInt = a0_count.toInt + x1.toInt → tr_RAbstractStringBuilder_ensureCapacityInternal x2 a0_value_n → gB x3 0 16777215 → tr_RInteger_getChars a1 x2 a0_value_v x3 x4 → R x2 x4) →
  R o1 o2
abbrev ky_677869_AbstractStringBuilder_append : gKey := (cJ5_append_c97b9, 4, "java/lang/AbstractStringBuilder", (some (FieldType.object "java/lang/AbstractStringBuilder")), [], "append", fun _ _ => True)
def pp_677869_AbstractStringBuilder_append (D : va_G) (I : FieldType → ClassId) (P677858 : List Nat) (F677859 : Nat → va_E) (q677860 : Nat) (q677861 : Nat) (p677862 : Int32) (p677863 : Int32) (p677864 : Int32) (f677865 : Nat → Int32) (n677866 : Nat) : Option Value → va_W → Nat → Nat → Prop := fun r w dc ds => ∃ (F677913 : Nat → va_E) (o677910 : Int32) (f677911 : Nat → Int32), r = some (.ref q677860) ∧ w = va_pl P677858 F677913 ∧ rFr [q677860, q677861] P677858 F677859 F677913 ∧ F677913 q677860 = .inr (1, [.ref q677861, .int 0, .int p677863, .int o677910]) ∧ F677913 q677861 = .inl (I .byte, n677866, .inl f677911) ∧ dc ≤ 0 ∧ ds ≤ 0 ∧ gB o677910 1 16777216 ∧ gF f677911 (-128) 127 ∧ p677864.toInt ≤ o677910.toInt ∧ o677910.toInt ≤ p677864.toInt + 11 ∧ tr_RAbstractStringBuilder_append12 p677862 p677864 f677865 n677866 o677910 f677911
set_option maxRecDepth 100000 in
set_option maxHeartbeats 4000000 in
theorem cp_677869_AbstractStringBuilder_append (l : Launch) (hl0 : l.stackTraces = false) (D : va_G) (I : FieldType → ClassId) (P677858 : List Nat) (F677859 : Nat → va_E) (q677860 : Nat) (q677861 : Nat) (p677862 : Int32) (p677863 : Int32) (p677864 : Int32) (f677865 : Nat → Int32) (n677866 : Nat) (hmq677860 : q677860 ∈ P677858) (hmq677861 : q677861 ∈ P677858) (heq677860 : F677859 q677860 = .inr (1, [.ref q677861, .int 0, .int p677863, .int p677864])) (heq677861 : F677859 q677861 = .inl (I .byte, n677866, .inl f677865)) (bp677863 : gB p677863 0 1) (bp677864 : gB p677864 0 16777216) (bf677865 : gF f677865 (-128) 127) (x677867 : p677864.toInt + 11 ≤ (n677866 : Int)) (x677868 : ((n677866 : Int) ≤ 16777216)) : CtA (gV D I) l yJ5_append_c97b9 cJ5_append_c97b9 4 (some (FieldType.object "java/lang/AbstractStringBuilder")) 1 26 0 0 [.ref q677860, .int p677862] (va_pl P677858 F677859) (pp_677869_AbstractStringBuilder_append D I P677858 F677859 q677860 q677861 p677862 p677863 p677864 f677865 n677866) gNA := by
  refine CtA_ofF hl0 (by decide +kernel) (Nat.le_of_ble_eq_true rfl) ?_
  have bp677862 := gB_any p677862
  refine G_aload_n 0 dr_cJ5_append_c97b9_0 rfl ?_
  refine Gp_get 3 hmq677860 heq677860 dr_cJ5_append_c97b9_1 (gk_J4 D I) (Nat.le_of_ble_eq_true rfl) wr_7_64 rfl ?_
  refine G_istore_n (L' := [(2, .int p677864), (0, .ref q677860), (1, .int p677862)]) dr_cJ5_append_c97b9_4 (Nat.le_of_ble_eq_true rfl) rfl ?_
  refine G_iload_n 0 dr_cJ5_append_c97b9_5 rfl ?_
  refine G_iload_n 2 dr_cJ5_append_c97b9_6 rfl ?_
  refine Gw_callS (As := [.int p677862]) (gV_ok D I) (cp_667577_Integer_stringSize l hl0 D I P677858 F677859 p677862 ) dr_cJ5_append_c97b9_7 ⟨wr_8_112, wr_1_35, wr_8_114, by decide, rfl, (Nat.le_of_ble_eq_true rfl), (Nat.le_of_ble_eq_true rfl)⟩ wr_8_113 (show 0 + 0 ≤ 0 by first | omega | decide) (show 0 + 0 ≤ 0 by first | omega | decide) (Nat.le_of_ble_eq_true rfl) (fun r677873 w677874 dc677870 ds677871 hp677872 => ?_) (fun _ _ _ _ _ z => z.elim)
  obtain ⟨o677875, rfl, rfl, hdc, hds, bo677875, x677876, ht677877⟩ := hp677872
  change G _ _ _ _ _ _ _ (.int o677875 :: _) _ _ _
  refine G_widen (cs' := 0) (sl' := 0) (by omega) (by omega) ?_
  refine G_iadd dr_cJ5_append_c97b9_10 (G_nam fun z677878 hz677878 => ?_)
  have ez677878 : z677878.toInt = p677864.toInt + o677875.toInt := by rw [gI_add hz677878 bp677864 bo677875 (by decide) (by decide)]
  have bz677878 : gB z677878 1 16777227 := gB_add (gI_add hz677878 bp677864 bo677875 (by decide) (by decide)) bp677864 bo677875 (by decide) (by decide)
  refine G_istore_n (L' := [(3, .int z677878), (2, .int p677864), (0, .ref q677860), (1, .int p677862)]) dr_cJ5_append_c97b9_11 (Nat.le_of_ble_eq_true rfl) rfl ?_
  refine G_aload_n 2 dr_cJ5_append_c97b9_12 rfl ?_
  refine G_iload_n 0 dr_cJ5_append_c97b9_13 rfl ?_
  refine Gw_callVB (As := [.int z677878]) (gV_ok D I) (cp_658701_AbstractStringBuilder_ensureCapacityInternal l hl0 D I P677858 F677859 q677860 q677861 z677878 p677863 p677864 f677865 n677866 hmq677860 hmq677861 heq677860 heq677861 ⟨by omega, by omega⟩ bp677863 bp677864 bf677865 (by have qa0 : Int32.toInt 0 = 0 := (by decide); omega) (by have qa0 : Int32.toInt 0 = 0 := (by decide); omega)) dr_cJ5_append_c97b9_14 ⟨wr_8_4, wr_1_19, wr_8_7, by decide, rfl, (Nat.le_of_ble_eq_true rfl), (Nat.le_of_ble_eq_true rfl)⟩ wr_8_6 wr_s_0 hmq677860 heq677860 rfl (show 0 + 0 ≤ 0 by first | omega | decide) (show 0 + 0 ≤ 0 by first | omega | decide) (Nat.le_of_ble_eq_true rfl) (fun r677882 w677883 dc677879 ds677880 hp677881 => ?_) (fun _ _ _ _ _ z => z.elim)
  obtain ⟨rfl, rfl, hdc, hds, ht677884⟩ := hp677881
  change G _ _ _ _ _ _ _ _ _ _ _
  refine G_widen (cs' := 0) (sl' := 0) (by omega) (by omega) ?_
  refine G_aload_n 2 dr_cJ5_append_c97b9_17 rfl ?_
  refine Gw_callVB (As := []) (gV_ok D I) (cp_658723_AbstractStringBuilder_isLatin1 l hl0 D I P677858 F677859 q677860 q677861 p677863 p677864 f677865 n677866 hmq677860 hmq677861 heq677860 heq677861 bp677863 bp677864 bf677865 (by have qa0 : Int32.toInt 0 = 0 := (by decide); omega)) dr_cJ5_append_c97b9_18 ⟨wr_8_33, wr_1_19, wr_8_37, by decide, rfl, (Nat.le_of_ble_eq_true rfl), (Nat.le_of_ble_eq_true rfl)⟩ wr_8_34 wr_8_36 hmq677860 heq677860 rfl (show 0 + 0 ≤ 0 by first | omega | decide) (show 0 + 0 ≤ 0 by first | omega | decide) (Nat.le_of_ble_eq_true rfl) (fun r677888 w677889 dc677885 ds677886 hp677887 => ?_) (fun _ _ _ _ _ z => z.elim)
  obtain ⟨rfl, rfl, hdc, hds⟩ := hp677887
  change G _ _ _ _ _ _ _ (.int 1 :: _) _ _ _
  refine G_widen (cs' := 0) (sl' := 0) (by omega) (by omega) ?_
  refine G_if_eq 37 dr_cJ5_append_c97b9_21 (by decide +kernel) (fun hc => absurd hc (by decide)) (fun _ => ?_)
  refine G_iload_n 3 dr_cJ5_append_c97b9_24 rfl ?_
  refine G_iload_n 0 dr_cJ5_append_c97b9_25 rfl ?_
  refine G_aload_n 2 dr_cJ5_append_c97b9_26 rfl ?_
  refine Gp_get 0 hmq677860 heq677860 dr_cJ5_append_c97b9_27 (gk_J4 D I) (Nat.le_of_ble_eq_true rfl) wr_7_60 rfl ?_
  refine Gw_callS (As := [.int p677862, .int z677878, .ref q677861]) (gV_ok D I) (cp_667760_Integer_getChars l hl0 D I P677858 F677859 q677861 p677862 z677878 f677865 n677866 hmq677861 heq677861 ⟨by omega, by omega⟩ bf677865 (by have qa0 : Int32.toInt 0 = 0 := (by decide); omega) (by have q10 : Int32.toInt 10 = 10 := (by decide); have q11 : Int32.toInt 11 = 11 := (by decide); first | exact dgS_up (by omega) (by omega) x677876 (by omega)) (by have qa0 : Int32.toInt 0 = 0 := (by decide); omega)) dr_cJ5_append_c97b9_30 ⟨wr_8_115, wr_1_35, wr_8_117, by decide, rfl, (Nat.le_of_ble_eq_true rfl), (Nat.le_of_ble_eq_true rfl)⟩ wr_8_116 (show 0 + 0 ≤ 0 by first | omega | decide) (show 0 + 0 ≤ 0 by first | omega | decide) (Nat.le_of_ble_eq_true rfl) (fun r677893 w677894 dc677890 ds677891 hp677892 => ?_) (fun _ _ _ _ _ z => z.elim)
  obtain ⟨F677898, o677895, f677896, rfl, rfl, hfr677900, he677901, hdc, hds, bo677895, bf677896, ht677897⟩ := hp677892
  have he677902 : F677898 q677860 = .inr (1, [.ref q677861, .int 0, .int p677863, .int p677864]) := (hfr677900 q677860 hmq677860 (nm_c (rn_oa heq677860 heq677861) nm_n)).trans heq677860
  have hfr677903 : rFr [q677861] P677858 F677859 F677898 := rFr_call (rSub_rf (P := P677858)) (rFr_rf (W := []) (P := P677858) (F := F677859)) hfr677900 (fun b hb hn => ⟨nm_n, (nm_c (fun e => hn (e ▸ List.mem_cons_self)) nm_n)⟩)
  change G _ _ _ _ _ _ _ (.int o677895 :: _) _ _ _
  refine G_widen (cs' := 0) (sl' := 0) (by omega) (by omega) ?_
  refine G_pop dr_cJ5_append_c97b9_33 rfl ?_
  refine G_goto 48 dr_cJ5_append_c97b9_34 (by decide +kernel) ?_
  refine G_aload_n 2 dr_cJ5_append_c97b9_48 rfl ?_
  refine G_iload_n 0 dr_cJ5_append_c97b9_49 rfl ?_
  refine Gp_put 3 hmq677860 he677902 dr_cJ5_append_c97b9_50 (gk_J4 D I) (Nat.le_of_ble_eq_true rfl) wr_7_64 rfl rfl rfl (Nat.le_of_ble_eq_true rfl) (fun F677904 e677905 n677906 => ?_)
  have he677907 : F677904 q677861 = .inl (I .byte, n677866, .inl f677896) := (n677906 q677861 (rn_ao he677901 he677902)).trans he677901
  have he677908 : F677904 q677860 = .inr (1, [.ref q677861, .int 0, .int p677863, .int z677878]) := e677905
  have hfr677909 : rFr [q677860, q677861] P677858 F677859 F677904 := rFr_put hfr677903 n677906
  refine G_aload_n 2 dr_cJ5_append_c97b9_53 rfl ?_
  exact G_aretA (FieldType.object "java/lang/AbstractStringBuilder") dr_cJ5_append_c97b9_54 rfl (by first | exact Or.inl ⟨_, rfl⟩ | exact Or.inr ⟨_, rfl⟩) (Or.inr ⟨_, rfl⟩) (Nat.le_of_ble_eq_true rfl) (Nat.le_of_ble_eq_true rfl) ⟨F677904, z677878, f677896, rfl, rfl, hfr677909, he677908, he677907, (Nat.le_of_ble_eq_true rfl), (Nat.le_of_ble_eq_true rfl), ⟨by omega, by omega⟩, bf677896, (by have qa0 : Int32.toInt 0 = 0 := (by decide); omega), (by have qa0 : Int32.toInt 0 = 0 := (by decide); omega), (fun R c1 => c1 o677875 z677878 o677895 f677896 bo677875 ht677877 ez677878 ht677884 bo677895 ht677897)⟩
/- tr_RStringBuilder_append12: a.0...count, a.0.value.[] -/
def tr_RStringBuilder_append12 (a1 : Int32) (a0_count : Int32) (a0_value_v : Nat → Int32) (a0_value_n : Nat) (o1 : Int32) (o2 : Nat → Int32) : Prop := ∀ R : (Int32) → (Nat → Int32) → Prop,
  (∀ (x1 : Int32) (x2 : Nat → Int32), gB x1 1 16777216 → tr_RAbstractStringBuilder_append12 a1 a0_count a0_value_v a0_value_n x1 x2 → R x1 x2) →
  R o1 o2
abbrev ky_677857_StringBuilder_append : gKey := (cJ4_append_bf812, 2, "java/lang/StringBuilder", (some (FieldType.object "java/lang/StringBuilder")), [], "append", fun _ _ => True)
def pp_677857_StringBuilder_append (D : va_G) (I : FieldType → ClassId) (P677846 : List Nat) (F677847 : Nat → va_E) (q677848 : Nat) (q677849 : Nat) (p677850 : Int32) (p677851 : Int32) (p677852 : Int32) (f677853 : Nat → Int32) (n677854 : Nat) : Option Value → va_W → Nat → Nat → Prop := fun r w dc ds => ∃ (F677933 : Nat → va_E) (o677930 : Int32) (f677931 : Nat → Int32), r = some (.ref q677848) ∧ w = va_pl P677846 F677933 ∧ rFr [q677848, q677849] P677846 F677847 F677933 ∧ F677933 q677848 = .inr (1, [.ref q677849, .int 0, .int p677851, .int o677930]) ∧ F677933 q677849 = .inl (I .byte, n677854, .inl f677931) ∧ dc ≤ 0 ∧ ds ≤ 0 ∧ gB o677930 1 16777216 ∧ gF f677931 (-128) 127 ∧ p677852.toInt ≤ o677930.toInt ∧ o677930.toInt ≤ p677852.toInt + 11 ∧ tr_RStringBuilder_append12 p677850 p677852 f677853 n677854 o677930 f677931
set_option maxRecDepth 100000 in
set_option maxHeartbeats 4000000 in
theorem cp_677857_StringBuilder_append (l : Launch) (hl0 : l.stackTraces = false) (D : va_G) (I : FieldType → ClassId) (P677846 : List Nat) (F677847 : Nat → va_E) (q677848 : Nat) (q677849 : Nat) (p677850 : Int32) (p677851 : Int32) (p677852 : Int32) (f677853 : Nat → Int32) (n677854 : Nat) (hmq677848 : q677848 ∈ P677846) (hmq677849 : q677849 ∈ P677846) (heq677848 : F677847 q677848 = .inr (1, [.ref q677849, .int 0, .int p677851, .int p677852])) (heq677849 : F677847 q677849 = .inl (I .byte, n677854, .inl f677853)) (bp677851 : gB p677851 0 1) (bp677852 : gB p677852 0 16777216) (bf677853 : gF f677853 (-128) 127) (x677855 : p677852.toInt + 11 ≤ (n677854 : Int)) (x677856 : ((n677854 : Int) ≤ 16777216)) : CtA (gV D I) l yJ4_append_bf812 cJ4_append_bf812 2 (some (FieldType.object "java/lang/StringBuilder")) 2 49 0 0 [.ref q677848, .int p677850] (va_pl P677846 F677847) (pp_677857_StringBuilder_append D I P677846 F677847 q677848 q677849 p677850 p677851 p677852 f677853 n677854) gNA := by
  refine CtA_ofF hl0 (by decide +kernel) (Nat.le_of_ble_eq_true rfl) ?_
  have bp677850 := gB_any p677850
  refine G_aload_n 0 dr_cJ4_append_bf812_0 rfl ?_
  refine G_iload_n 1 dr_cJ4_append_bf812_1 rfl ?_
  refine Gw_callSU (As := [.int p677850]) (gV_ok D I) (cp_677869_AbstractStringBuilder_append l hl0 D I P677846 F677847 q677848 q677849 p677850 p677851 p677852 f677853 n677854 hmq677848 hmq677849 heq677848 heq677849 bp677851 bp677852 bf677853 (by have qa0 : Int32.toInt 0 = 0 := (by decide); omega) (by have qa0 : Int32.toInt 0 = 0 := (by decide); omega)) dr_cJ4_append_bf812_2 ⟨wr_8_109, wr_1_19, wr_8_111, by decide, rfl, (Nat.le_of_ble_eq_true rfl), (Nat.le_of_ble_eq_true rfl)⟩ wr_8_110 wr_11_228 wr_7_73 wr_7_44 (by decide) hmq677848 heq677848 rfl (show 0 + 0 ≤ 0 by first | omega | decide) (show 0 + 0 ≤ 0 by first | omega | decide) (Nat.le_of_ble_eq_true rfl) (fun r677917 w677918 dc677914 ds677915 hp677916 => ?_)
  obtain ⟨F677924, o677919, f677920, rfl, rfl, hfr677926, he677927, he677928, hdc, hds, bo677919, bf677920, x677921, x677922, ht677923⟩ := hp677916
  have hfr677929 : rFr [q677848, q677849] P677846 F677847 F677924 := rFr_call (rSub_rf (P := P677846)) (rFr_rf (W := []) (P := P677846) (F := F677847)) hfr677926 (fun b hb hn => ⟨nm_n, (nm_c (fun e => hn (e ▸ List.mem_cons_self)) (nm_c (fun e => hn (e ▸ (List.mem_cons_of_mem _ List.mem_cons_self))) nm_n))⟩)
  change G _ _ _ _ _ _ _ (.ref q677848 :: _) _ _ _
  refine G_widen (cs' := 0) (sl' := 0) (by omega) (by omega) ?_
  refine G_pop dr_cJ4_append_bf812_5 rfl ?_
  refine G_aload_n 0 dr_cJ4_append_bf812_6 rfl ?_
  exact G_aretA (FieldType.object "java/lang/StringBuilder") dr_cJ4_append_bf812_7 rfl (by first | exact Or.inl ⟨_, rfl⟩ | exact Or.inr ⟨_, rfl⟩) (Or.inr ⟨_, rfl⟩) (Nat.le_of_ble_eq_true rfl) (Nat.le_of_ble_eq_true rfl) ⟨F677924, o677919, f677920, rfl, rfl, hfr677929, he677927, he677928, (Nat.le_of_ble_eq_true rfl), (Nat.le_of_ble_eq_true rfl), bo677919, bf677920, (by have qa0 : Int32.toInt 0 = 0 := (by decide); omega), (by have qa0 : Int32.toInt 0 = 0 := (by decide); omega), (fun R c1 => c1 o677919 f677920 bo677919 ht677923)⟩
end
section
/-! letters that the reference appends -/
section APR
variable {f f1 g x : Nat → Int32} {n m c p v r p1 : Nat} {cnt a o : Int32} {bs ws : List Int32}
theorem nar_i {y : Int32} (h0 : 0 ≤ y.toInt) (h1 : y.toInt ≤ 127) : vp_nar .byte y = y := by
  have e2 : vp_nar .byte y = y.toInt8.toInt32 := rfl
  refine Int32.toInt_inj.mp ?_
  rw [e2, Int8.toInt_toInt32, Int32.toInt_toInt8, Int.bmod_def]
  split <;> omega
theorem dO_t (h : v < 100) : (dg_O v).toInt = ((48 + v % 10 : Nat) : Int) := Int32.toInt_ofNat_of_lt (by omega)
theorem dT_t (h : v < 100) : (dg_T v).toInt = ((48 + v / 10 : Nat) : Int) := Int32.toInt_ofNat_of_lt (by omega)
theorem nar_O (h : v < 100) : vp_nar .byte (dg_O v) = dg_O v := nar_i (by rw [dO_t h]; omega) (by rw [dO_t h]; omega)
theorem nar_T (h : v < 100) : vp_nar .byte (dg_T v) = dg_T v := nar_i (by rw [dT_t h]; omega) (by rw [dT_t h]; omega)
theorem dO_c : dg_O (v % 100) = dch v 0 := by
  rw [dch_0]
  show Int32.ofNat (48 + v % 100 % 10) = _
  rw [show v % 100 % 10 = v % 10 by omega]
theorem dT_c : dg_T (v % 100) = dch v 1 := by
  rw [dch_1]
  show Int32.ofNat (48 + v % 100 / 10) = _
  rw [show v % 100 / 10 = v / 10 % 10 by omega]
theorem nar_45 : vp_nar .byte (45 : Int32) = 45 := nar_i (by decide) (by decide)
/-- behind some pairs of digits: r is left, p1 the place -/
def gcP (v p : Nat) (f : Nat → Int32) (r p1 : Nat) (g : Nat → Int32) : Prop := r < 100 ∧ p1 + (dgl v - dgl r) = p ∧ dgl r ≤ dgl v ∧ (∀ i, i < p1 ∨ p ≤ i → g i = f i) ∧ (∀ q, q < dgl v - dgl r → g (p - 1 - q) = dch v q) ∧ ∀ q, dch v (q + (dgl v - dgl r)) = dch r q
theorem gcP_0 (h : v < 100) : gcP v p f v p f := ⟨h, by omega, Nat.le_refl _, fun _ _ => rfl, fun q hq => by omega, fun q => by rw [Nat.sub_self, Nat.add_zero]⟩
theorem gcP_s {g1 g2 : Nat → Int32} (hv : 100 ≤ v) (hv2 : v < 10000000000) (hp : dgl v ≤ p) (e1 : g1 = upd f (p - 1) (dg_O (v % 100))) (e2 : g2 = upd g1 (p - 2) (dg_T (v % 100))) (h : gcP (v / 100) (p - 2) g2 r p1 g) : gcP v p f r p1 g := by
  have el := dgl_h hv hv2
  have eb := dgl_b (n := v / 100)
  obtain ⟨h1, h2, h3, h4, h5, h6⟩ := h
  refine ⟨h1, by omega, by omega, fun i hi => ?_, fun q hq => ?_, fun q => ?_⟩
  · rw [h4 i (by omega), e2, updN (by omega), e1, updN (by omega)]
  · by_cases c0 : q = 0
    · rw [c0, h4 _ (by omega), e2, updN (by omega), e1, show p - 1 - 0 = p - 1 from rfl, updE]; exact dO_c
    · by_cases c1 : q = 1
      · rw [c1, h4 _ (by omega), e2, show p - 1 - 1 = p - 2 by omega, updE]; exact dT_c
      · obtain ⟨q2, rfl⟩ : ∃ q2, q = q2 + 2 := ⟨q - 2, by omega⟩
        rw [show p - 1 - (q2 + 2) = p - 2 - 1 - q2 by omega, h5 q2 (by omega)]; exact dch_h
  · rw [show q + (dgl v - dgl r) = q + (dgl (v / 100) - dgl r) + 2 by omega, ← dch_h]; exact h6 q
/-- all digits -/
def gcF (v p : Nat) (f g : Nat → Int32) : Prop := (∀ i, i < p - dgl v ∨ p ≤ i → g i = f i) ∧ ∀ q, q < dgl v → g (p - 1 - q) = dch v q
theorem gcF_1 (h : gcP v p f r p1 g) (hp : dgl v ≤ p) (hr : r < 10) : gcF v p f (upd g (p1 - 1) (dg_O r)) := by
  obtain ⟨h1, h2, h3, h4, h5, h6⟩ := h
  have er := dgl_1 hr
  have e0 := h6 0
  rw [Nat.zero_add] at e0
  refine ⟨fun i hi => ?_, fun q hq => ?_⟩
  · rw [updN (by omega)]; exact h4 i (by omega)
  · by_cases c : q = dgl v - 1
    · rw [show p - 1 - q = p1 - 1 by omega, updE, show q = dgl v - dgl r by omega, e0, ← dO_c, show r % 100 = r by omega]
    · rw [updN (by omega)]; exact h5 q (by omega)
theorem gcF_2 (h : gcP v p f r p1 g) (hp : dgl v ≤ p) (hr : 10 ≤ r) : gcF v p f (upd (upd g (p1 - 1) (dg_O r)) (p1 - 2) (dg_T r)) := by
  obtain ⟨h1, h2, h3, h4, h5, h6⟩ := h
  have er := dgl_2 hr h1
  have e0 := h6 0
  have e1 := h6 1
  rw [Nat.zero_add] at e0
  refine ⟨fun i hi => ?_, fun q hq => ?_⟩
  · rw [updN (by omega), updN (by omega)]; exact h4 i (by omega)
  · by_cases c : q = dgl v - 1
    · rw [show p - 1 - q = p1 - 2 by omega, updE, show q = 1 + (dgl v - dgl r) by omega, e1, ← dT_c, show r % 100 = r by omega]
    · by_cases d : q = dgl v - 2
      · rw [show p - 1 - q = p1 - 1 by omega, updN (by omega), updE, show q = dgl v - dgl r by omega, e0, ← dO_c, show r % 100 = r by omega]
      · rw [updN (by omega), updN (by omega)]; exact h5 q (by omega)
theorem apd_gc (h : gcF v p f g) (hc : c + dgl v = p) : apd (dgN v) c f g := by
  have b := dgl_b (n := v)
  refine ⟨fun i hi => h.1 i (by omega), fun i hi => ?_⟩
  rw [dgN_l] at hi
  have q := h.2 (dgl v - 1 - i) (by omega)
  rw [show p - 1 - (dgl v - 1 - i) = c + i by omega] at q
  rw [q]
  unfold dgN
  rw [dgq_g _ _ _ hi, Nat.zero_add]
  rfl
theorem apd_gn (h : gcF v p f g) (hc : c + 1 + dgl v = p) : apd (45 :: dgN v) c f (upd g c 45) := by
  have b := dgl_b (n := v)
  have h2 := apd_gc (c := c + 1) h hc
  refine ⟨fun i hi => ?_, fun i hi => ?_⟩
  · rw [updN (by omega)]; exact h2.1 i (by omega)
  · cases i with
    | zero => rw [Nat.add_zero, updE]; rfl
    | succ i =>
      have hi2 : i + 1 < (dgN v).length + 1 := hi
      rw [updN (by omega), List.getD_cons_succ, ← h2.2 i (by omega)]
      congr 1
      omega
theorem gcl {s1 : Int32} {s2 : Int32} {s3 : Nat → Int32} {k : Nat} {e1 : Int32} {e2 : Int32} {e3 : Nat → Int32} (h : tl_RInteger_getChars_22 s1 s2 s3 k e1 e2 e3) : ∀ v p : Nat, v < 10000000000 → s1.toInt = -(v : Int) → s2.toInt = (p : Int) → dgl v ≤ p → ∃ r p1 : Nat, e1.toInt = -(r : Int) ∧ e2.toInt = (p1 : Int) ∧ gcP v p s3 r p1 e3 := by
  refine h (fun s1 s2 s3 _ e1 e2 e3 => ∀ v p : Nat, v < 10000000000 → s1.toInt = -(v : Int) → s2.toInt = (p : Int) → dgl v ≤ p → ∃ r p1 : Nat, e1.toInt = -(r : Int) ∧ e2.toInt = (p1 : Int) ∧ gcP v p s3 r p1 e3) ?_ ?_
  · intro l0_1 l5_1 a2_v_1 h1 h2 h3
    intro v p hv h0 h5 hd
    exact ⟨v, p, h0, h5, gcP_0 (by omega)⟩
  · intro l0_1 l5_1 a2_v_1 x1 x2 x3 x4 x5 x6 x7 x8 x9 k e1 e2 e3 h1 h2 h3 h4 h5 h6 h7 h8 h9 h10 h11 h12 ih
    intro v p hv h0 h5 hd
    have hw := h3
    have el := dgl_h (n := v) (by omega) hv
    have eb := dgl_b (n := v / 100)
    have y1 : x1.toInt = -((v / 100 : Nat) : Int) := by rw [h4]; omega
    have y3 : x3.toInt = ((v % 100 : Nat) : Int) := by omega
    have y4 : x4.toInt = ((p - 1 : Nat) : Int) := by omega
    have y7 : x7.toInt = ((p - 2 : Nat) : Int) := by omega
    have z6 := h9
    have z9 := h12
    rw [h8, nnE y3, nnE y4, nar_O (Nat.mod_lt _ (by decide))] at z6
    rw [h11, nnE y3, nnE y7, nar_T (Nat.mod_lt _ (by decide))] at z9
    obtain ⟨r, p1, w1, w2, w3⟩ := ih (v / 100) (p - 2) (by omega) y1 y7 (by omega)
    exact ⟨r, p1, w1, w2, gcP_s (by omega) hv hd z6 z9 w3⟩
theorem gcl_2 {s1 : Int32} {s2 : Int32} {s3 : Nat → Int32} {k : Nat} {e1 : Int32} {e2 : Int32} {e3 : Nat → Int32} (h : tl_RInteger_getChars_22_2 s1 s2 s3 k e1 e2 e3) : ∀ v p : Nat, v < 10000000000 → s2.toInt = -(v : Int) → s1.toInt = (p : Int) → dgl v ≤ p → ∃ r p1 : Nat, e2.toInt = -(r : Int) ∧ e1.toInt = (p1 : Int) ∧ gcP v p s3 r p1 e3 := by
  refine h (fun s1 s2 s3 _ e1 e2 e3 => ∀ v p : Nat, v < 10000000000 → s2.toInt = -(v : Int) → s1.toInt = (p : Int) → dgl v ≤ p → ∃ r p1 : Nat, e2.toInt = -(r : Int) ∧ e1.toInt = (p1 : Int) ∧ gcP v p s3 r p1 e3) ?_ ?_
  · intro l5_1 l0_1 a2_v_1 h1 h2 h3
    intro v p hv h0 h5 hd
    exact ⟨v, p, h0, h5, gcP_0 (by omega)⟩
  · intro l5_1 l0_1 a2_v_1 x1 x2 x3 x4 x5 x6 x7 x8 x9 k e1 e2 e3 h1 h2 h3 h4 h5 h6 h7 h8 h9 h10 h11 h12 ih
    intro v p hv h0 h5 hd
    have hw := h3
    have el := dgl_h (n := v) (by omega) hv
    have eb := dgl_b (n := v / 100)
    have y1 : x1.toInt = -((v / 100 : Nat) : Int) := by rw [h4]; omega
    have y3 : x3.toInt = ((v % 100 : Nat) : Int) := by omega
    have y4 : x4.toInt = ((p - 1 : Nat) : Int) := by omega
    have y7 : x7.toInt = ((p - 2 : Nat) : Int) := by omega
    have z6 := h9
    have z9 := h12
    rw [h8, nnE y3, nnE y4, nar_O (Nat.mod_lt _ (by decide))] at z6
    rw [h11, nnE y3, nnE y7, nar_T (Nat.mod_lt _ (by decide))] at z9
    obtain ⟨r, p1, w1, w2, w3⟩ := ih (v / 100) (p - 2) (by omega) y1 y7 (by omega)
    exact ⟨r, p1, w1, w2, gcP_s (by omega) hv hd z6 z9 w3⟩
theorem gch_tr {q y : Int32} (hp : q.toInt = ((c + (dgI a.toInt).length : Nat) : Int)) (h : tr_RInteger_getChars a q f y x) : apd (dgI a.toInt) c f x := by
  have bx := Int32.toInt_lt a
  have bx0 := Int32.le_toInt a
  refine h (fun _ x => apd (dgI a.toInt) c f x) ?_ ?_ ?_ ?_
  · intro x1 x2 x3 x4 x5 x6 x7 x8 h1 h2 h3 h4 h5 h6 h7 h8
    have hn := h1
    obtain ⟨v, hv⟩ : ∃ v : Nat, a.toInt = (v : Int) := ⟨a.toInt.toNat, by omega⟩
    have ev : a.toInt.natAbs = v := by omega
    rw [dgI_p hn, ev, dgN_l] at hp
    rw [dgI_p hn, ev]
    have e1 : x1.toInt = -(v : Int) := by
      rw [h2, Int32.toInt_neg, hv]; exact gM_of (by omega) (by omega)
    obtain ⟨r, p1, w1, w2, w3⟩ := gcl h3 v (c + dgl v) (by omega) e1 hp (by omega)
    have hr := w3.1
    have hb := dgl_b (n := v)
    have hb2 := dgl_b (n := r)
    have hpp := w3.2.1
    have hle := w3.2.2.1
    have yr : x6.toInt = (r : Int) := by
      rw [h5, Int32.toInt_neg, w1]; exact (gM_of (by omega) (by omega)).trans (by omega)
    have d1 := dgl_1 (n := r) (by omega)
    have yp : x5.toInt = ((p1 - 1 : Nat) : Int) := by omega
    have z1 := h7
    rw [h6, nnE yr, nnE yp, nar_O hr] at z1
    have w4 := gcF_1 w3 (by omega) (by omega)
    rw [← z1] at w4
    exact apd_gc w4 rfl
  · intro x1 x2 x3 x4 x5 x6 x7 x8 x9 x10 x11 x12 h1 h2 h3 h4 h5 h6 h7 h8 h9 h10 h11 h12
    have hn := h1
    obtain ⟨v, hv⟩ : ∃ v : Nat, a.toInt = (v : Int) := ⟨a.toInt.toNat, by omega⟩
    have ev : a.toInt.natAbs = v := by omega
    rw [dgI_p hn, ev, dgN_l] at hp
    rw [dgI_p hn, ev]
    have e1 : x1.toInt = -(v : Int) := by
      rw [h2, Int32.toInt_neg, hv]; exact gM_of (by omega) (by omega)
    obtain ⟨r, p1, w1, w2, w3⟩ := gcl h3 v (c + dgl v) (by omega) e1 hp (by omega)
    have hr := w3.1
    have hb := dgl_b (n := v)
    have hb2 := dgl_b (n := r)
    have hpp := w3.2.1
    have hle := w3.2.2.1
    have yr : x6.toInt = (r : Int) := by
      rw [h5, Int32.toInt_neg, w1]; exact (gM_of (by omega) (by omega)).trans (by omega)
    have d2 := dgl_2 (n := r) (by omega) hr
    have yp : x5.toInt = ((p1 - 1 : Nat) : Int) := by omega
    have z1 := h7
    rw [h6, nnE yr, nnE yp, nar_O hr] at z1
    have yr2 : x10.toInt = (r : Int) := by
      rw [h10, Int32.toInt_neg, w1]; exact (gM_of (by omega) (by omega)).trans (by omega)
    have yp2 : x9.toInt = ((p1 - 2 : Nat) : Int) := by omega
    have z2 := h12
    rw [h11, nnE yr2, nnE yp2, nar_T hr, z1] at z2
    have w4 := gcF_2 w3 (by omega) (by omega)
    rw [← z2] at w4
    exact apd_gc w4 rfl
  · intro x1 x2 x3 x4 x5 x6 x7 x8 x9 h1 h2 h3 h4 h5 h6 h7 h8 h9
    have hn := h1
    obtain ⟨v, hv⟩ : ∃ v : Nat, a.toInt = -(v : Int) := ⟨(-a.toInt).toNat, by omega⟩
    have ev : a.toInt.natAbs = v := by omega
    have eL : (45 :: dgN v : List Int32).length = dgl v + 1 := by rw [List.length_cons, dgN_l]
    rw [dgI_n hn, ev, eL] at hp
    rw [dgI_n hn, ev]
    obtain ⟨r, p1, w1, w2, w3⟩ := gcl_2 h2 v (c + (dgl v + 1)) (by omega) hv hp (by omega)
    have hr := w3.1
    have hb := dgl_b (n := v)
    have hb2 := dgl_b (n := r)
    have hpp := w3.2.1
    have hle := w3.2.2.1
    have yr : x5.toInt = (r : Int) := by
      rw [h4, Int32.toInt_neg, w1]; exact (gM_of (by omega) (by omega)).trans (by omega)
    have d1 := dgl_1 (n := r) (by omega)
    have yp : x4.toInt = ((p1 - 1 : Nat) : Int) := by omega
    have z1 := h6
    rw [h5, nnE yr, nnE yp, nar_O hr] at z1
    have w4 := gcF_1 w3 (by omega) (by omega)
    rw [← z1] at w4
    have yp3 : x8.toInt = (c : Int) := by omega
    have z3 := h9
    rw [nnE yp3, nar_45] at z3
    rw [z3]
    exact apd_gn w4 (by omega)
  · intro x1 x2 x3 x4 x5 x6 x7 x8 x9 x10 x11 x12 x13 h1 h2 h3 h4 h5 h6 h7 h8 h9 h10 h11 h12 h13
    have hn := h1
    obtain ⟨v, hv⟩ : ∃ v : Nat, a.toInt = -(v : Int) := ⟨(-a.toInt).toNat, by omega⟩
    have ev : a.toInt.natAbs = v := by omega
    have eL : (45 :: dgN v : List Int32).length = dgl v + 1 := by rw [List.length_cons, dgN_l]
    rw [dgI_n hn, ev, eL] at hp
    rw [dgI_n hn, ev]
    obtain ⟨r, p1, w1, w2, w3⟩ := gcl_2 h2 v (c + (dgl v + 1)) (by omega) hv hp (by omega)
    have hr := w3.1
    have hb := dgl_b (n := v)
    have hb2 := dgl_b (n := r)
    have hpp := w3.2.1
    have hle := w3.2.2.1
    have yr : x5.toInt = (r : Int) := by
      rw [h4, Int32.toInt_neg, w1]; exact (gM_of (by omega) (by omega)).trans (by omega)
    have d2 := dgl_2 (n := r) (by omega) hr
    have yp : x4.toInt = ((p1 - 1 : Nat) : Int) := by omega
    have z1 := h6
    rw [h5, nnE yr, nnE yp, nar_O hr] at z1
    have yr2 : x9.toInt = (r : Int) := by
      rw [h9, Int32.toInt_neg, w1]; exact (gM_of (by omega) (by omega)).trans (by omega)
    have yp2 : x8.toInt = ((p1 - 2 : Nat) : Int) := by omega
    have z2 := h11
    rw [h10, nnE yr2, nnE yp2, nar_T hr, z1] at z2
    have w4 := gcF_2 w3 (by omega) (by omega)
    rw [← z2] at w4
    have yp3 : x12.toInt = (c : Int) := by omega
    have z3 := h13
    rw [nnE yp3, nar_45] at z3
    rw [z3]
    exact apd_gn w4 (by omega)
theorem ssl {a0 : Int32} {s1 : Int32} {s2 : Int32} {k : Nat} {e1 : Int32} (hv : a0.toInt = -(v : Int)) (h : tl_RInteger_stringSize_16 a0 s1 s2 k e1) : ∀ i : Nat, s1.toInt = (i : Int) → 1 ≤ i → i ≤ 10 → (i ≤ 9 → s2.toInt = -((10 ^ i : Nat) : Int)) → (∀ j, 1 ≤ j → j < i → 10 ^ j ≤ v) → (k = 42 → dgl v = 10) ∧ (k = 27 → e1.toInt = (dgl v : Int)) := by
  refine h (fun s1 s2 k e1 => ∀ i : Nat, s1.toInt = (i : Int) → 1 ≤ i → i ≤ 10 → (i ≤ 9 → s2.toInt = -((10 ^ i : Nat) : Int)) → (∀ j, 1 ≤ j → j < i → 10 ^ j ≤ v) → (k = 42 → dgl v = 10) ∧ (k = 27 → e1.toInt = (dgl v : Int))) ?_ ?_ ?_
  · intro l3_1 l2_1 h1 h2
    intro i hi h1i h10 h2 hl
    exact ⟨fun _ => dgl_s (by omega) (by omega) (Or.inl rfl) (fun j a b => hl j a (by omega)), fun z => absurd z (by decide)⟩
  · intro l3_1 l2_1 x1 x2 k e1 h1 h2 h3 h4 h5 ih
    intro i hi h1i h10 h2 hl
    have h3 := h2 (by omega)
    obtain ⟨P, hP⟩ : ∃ P : Nat, P = 10 ^ i := ⟨_, rfl⟩
    rw [← hP] at h3
    have w := h3
    have wP : P ≤ v := by omega
    refine ih (i + 1) (by omega) (by omega) (by omega) (fun h9 => ?_) (fun j a b => ?_)
    · have e10 : (10 : Nat) ^ (i + 1) = P * 10 := by rw [hP]; exact Nat.pow_succ 10 i
      have l9 : (10 : Nat) ^ (i + 1) ≤ 10 ^ 9 := Nat.pow_le_pow_right (by decide) h9
      rw [e10, show (10 : Nat) ^ 9 = 1000000000 from rfl] at l9
      rw [e10, h4, Int32.toInt_mul, px_10, h3]
      exact (gM_of (by omega) (by omega)).trans (by omega)
    · by_cases q : j = i
      · rw [q, ← hP]; exact wP
      · exact hl j a (by omega)
  · intro l3_1 l2_1 h1 h2 h3
    intro i hi h1i h10 h2 hl
    have h3 := h2 (by omega)
    obtain ⟨P, hP⟩ : ∃ P : Nat, P = 10 ^ i := ⟨_, rfl⟩
    rw [← hP] at h3
    have w := h3
    exact ⟨fun z => absurd z (by decide), fun _ => by rw [dgl_s (n := v) h1i h10 (Or.inr (by rw [← hP]; omega)) hl]; exact hi⟩
theorem ssl_2 {c1 : Int32} {s1 : Int32} {s2 : Int32} {k : Nat} {e1 : Int32} (hv : c1.toInt = -(v : Int)) (h : tl_RInteger_stringSize_16_2 c1 s1 s2 k e1) : ∀ i : Nat, s1.toInt = (i : Int) → 1 ≤ i → i ≤ 10 → (i ≤ 9 → s2.toInt = -((10 ^ i : Nat) : Int)) → (∀ j, 1 ≤ j → j < i → 10 ^ j ≤ v) → (k = 42 → dgl v = 10) ∧ (k = 27 → e1.toInt = (dgl v : Int)) := by
  refine h (fun s1 s2 k e1 => ∀ i : Nat, s1.toInt = (i : Int) → 1 ≤ i → i ≤ 10 → (i ≤ 9 → s2.toInt = -((10 ^ i : Nat) : Int)) → (∀ j, 1 ≤ j → j < i → 10 ^ j ≤ v) → (k = 42 → dgl v = 10) ∧ (k = 27 → e1.toInt = (dgl v : Int))) ?_ ?_ ?_
  · intro l3_1 l2_1 h1 h2
    intro i hi h1i h10 h2 hl
    exact ⟨fun _ => dgl_s (by omega) (by omega) (Or.inl rfl) (fun j a b => hl j a (by omega)), fun z => absurd z (by decide)⟩
  · intro l3_1 l2_1 x1 x2 k e1 h1 h2 h3 h4 h5 ih
    intro i hi h1i h10 h2 hl
    have h3 := h2 (by omega)
    obtain ⟨P, hP⟩ : ∃ P : Nat, P = 10 ^ i := ⟨_, rfl⟩
    rw [← hP] at h3
    have w := h3
    have wP : P ≤ v := by omega
    refine ih (i + 1) (by omega) (by omega) (by omega) (fun h9 => ?_) (fun j a b => ?_)
    · have e10 : (10 : Nat) ^ (i + 1) = P * 10 := by rw [hP]; exact Nat.pow_succ 10 i
      have l9 : (10 : Nat) ^ (i + 1) ≤ 10 ^ 9 := Nat.pow_le_pow_right (by decide) h9
      rw [e10, show (10 : Nat) ^ 9 = 1000000000 from rfl] at l9
      rw [e10, h4, Int32.toInt_mul, px_10, h3]
      exact (gM_of (by omega) (by omega)).trans (by omega)
    · by_cases q : j = i
      · rw [q, ← hP]; exact wP
      · exact hl j a (by omega)
  · intro l3_1 l2_1 h1 h2 h3
    intro i hi h1i h10 h2 hl
    have h3 := h2 (by omega)
    obtain ⟨P, hP⟩ : ∃ P : Nat, P = 10 ^ i := ⟨_, rfl⟩
    rw [← hP] at h3
    have w := h3
    exact ⟨fun z => absurd z (by decide), fun _ => by rw [dgl_s (n := v) h1i h10 (Or.inr (by rw [← hP]; omega)) hl]; exact hi⟩
theorem zss_tr (h : tr_RInteger_stringSize a o) : o.toInt = ((dgI a.toInt).length : Int) := by
  have bx := Int32.toInt_lt a
  have bx0 := Int32.le_toInt a
  have t10 : Int32.toInt (-10) = -((10 ^ 1 : Nat) : Int) := by decide
  refine h (fun o => o.toInt = ((dgI a.toInt).length : Int)) ?_ ?_ ?_ ?_
  · intro h1 h2
    have hn := h1
    obtain ⟨v, hv⟩ : ∃ v : Nat, a.toInt = -(v : Int) := ⟨(-a.toInt).toNat, by omega⟩
    have eL : (dgI a.toInt).length = dgl v + 1 := by rw [dgI_n hn, List.length_cons, dgN_l, show a.toInt.natAbs = v by omega]
    have w := ssl hv h2 1 (by decide) (by decide) (by decide) (fun _ => t10) (fun j y1 y2 => absurd y1 (by omega))
    have w2 := w.1 rfl
    show Int32.toInt 11 = _
    rw [eL, w2]
    decide
  · intro x1 x2 h1 h2 h3
    have hn := h1
    obtain ⟨v, hv⟩ : ∃ v : Nat, a.toInt = -(v : Int) := ⟨(-a.toInt).toNat, by omega⟩
    have eL : (dgI a.toInt).length = dgl v + 1 := by rw [dgI_n hn, List.length_cons, dgN_l, show a.toInt.natAbs = v by omega]
    have w := ssl hv h2 1 (by decide) (by decide) (by decide) (fun _ => t10) (fun j y1 y2 => absurd y1 (by omega))
    have w2 := w.2 rfl
    rw [eL]
    omega
  · intro x1 h1 h2 h3
    have hn := h1
    obtain ⟨v, hv⟩ : ∃ v : Nat, a.toInt = (v : Int) := ⟨a.toInt.toNat, by omega⟩
    have eL : (dgI a.toInt).length = dgl v := by rw [dgI_p hn, dgN_l, show a.toInt.natAbs = v by omega]
    have e1 : x1.toInt = -(v : Int) := by
      rw [h2, Int32.toInt_neg, hv]; exact gM_of (by omega) (by omega)
    have w := ssl_2 e1 h3 1 (by decide) (by decide) (by decide) (fun _ => t10) (fun j y1 y2 => absurd y1 (by omega))
    have w2 := w.1 rfl
    show Int32.toInt 10 = _
    rw [eL, w2]
    decide
  · intro x1 x2 x3 h1 h2 h3 h4
    have hn := h1
    obtain ⟨v, hv⟩ : ∃ v : Nat, a.toInt = (v : Int) := ⟨a.toInt.toNat, by omega⟩
    have eL : (dgI a.toInt).length = dgl v := by rw [dgI_p hn, dgN_l, show a.toInt.natAbs = v by omega]
    have e1 : x1.toInt = -(v : Int) := by
      rw [h2, Int32.toInt_neg, hv]; exact gM_of (by omega) (by omega)
    have w := ssl_2 e1 h3 1 (by decide) (by decide) (by decide) (fun _ => t10) (fun j y1 y2 => absurd y1 (by omega))
    have w2 := w.2 rfl
    rw [eL]
    omega
theorem ecn_tr {a1 : Int32} (h : tr_RAbstractStringBuilder_ensureCapacityInternal3 a1 n) : a1.toInt ≤ (n : Int) := by
  refine h (a1.toInt ≤ (n : Int)) ?_
  · intro x1 x2 x3 h1 h2 h3 h4
    omega
theorem ecg_tr {a1 : Int32} (hc : c ≤ n) (h : tr_RAbstractStringBuilder_ensureCapacityInternal3_g2 a1 f n m x) : ∀ j, j < c → x j = f j := by
  refine h (fun _ x => ∀ j, j < c → x j = f j) ?_
  · intro x1 x2 x3 x4 x5 x6 h1 h2 h3 h4 h5 h6 h7 h8
    have q := nc_tr h6
    exact fun j hj => cpf_tr h8 (by omega) (by omega) j (by omega)
theorem apd_f {ws : List Int32} (h : ∀ j, j < c → f1 j = f j) (g : apd ws c f1 x) : apd ws c f x := ⟨fun i hi => (g.1 i hi).trans (h i hi), g.2⟩
theorem apd_C {y : Int32} (b0 : 0 ≤ a.toInt) (b1 : a.toInt ≤ 127) (hy : y = a.toInt8.toInt32) (hc : cnt.toInt = (c : Int)) (hx : x = upd f cnt.toNatClampNeg (vp_nar .byte y)) : apd [a] c f x := by
  rw [nnE hc, nar_c b0 b1 hy] at hx
  refine ⟨fun i hi => by rw [hx, updN (by omega)], fun i hi => ?_⟩
  have e : i = 0 := by have hi2 : i < 1 := hi; omega
  rw [e, Nat.add_zero, hx, updE]
  rfl
theorem apC1 (hc : cnt.toInt = (c : Int)) (hn : c ≤ n) (b0 : 0 ≤ a.toInt) (b1 : a.toInt ≤ 127) (h : tr_RAbstractStringBuilder_append9 a cnt f n o x) : o.toInt = ((c + [a].length : Nat) : Int) ∧ apd [a] c f x := by
  refine h (fun o x => o.toInt = ((c + [a].length : Nat) : Int) ∧ apd [a] c f x) ?_
  · intro x1 x2 x3 x4 h1 h2 h3 h4 h5 h6
    refine ⟨?_, (apd_C b0 b1 h5 hc h6)⟩
    show _ = ((c + 1 : Nat) : Int)
    omega
theorem apC (hc : cnt.toInt = (c : Int)) (hn : c ≤ n) (b0 : 0 ≤ a.toInt) (b1 : a.toInt ≤ 127) (h : tr_RStringBuilder_append9 a cnt f n o x) : o.toInt = ((c + [a].length : Nat) : Int) ∧ apd [a] c f x := by
  refine h (fun o x => o.toInt = ((c + [a].length : Nat) : Int) ∧ apd [a] c f x) ?_
  · intro x1 x2 h1 h2
    exact apC1 hc hn b0 b1 h2
theorem apCg1 (hc : cnt.toInt = (c : Int)) (hn : c ≤ n) (b0 : 0 ≤ a.toInt) (b1 : a.toInt ≤ 127) (h : tr_RAbstractStringBuilder_append9_g2 a cnt f n o m x) : o.toInt = ((c + [a].length : Nat) : Int) ∧ apd [a] c f x := by
  refine h (fun o _ x => o.toInt = ((c + [a].length : Nat) : Int) ∧ apd [a] c f x) ?_
  · intro x1 x2 x3 x4 x5 x6 h1 h2 h3 h4 h5 h6
    have q0 := ecg_tr (c := c) hn h2
    refine ⟨?_, apd_f q0 (apd_C b0 b1 h5 hc h6)⟩
    show _ = ((c + 1 : Nat) : Int)
    omega
theorem apCg (hc : cnt.toInt = (c : Int)) (hn : c ≤ n) (b0 : 0 ≤ a.toInt) (b1 : a.toInt ≤ 127) (h : tr_RStringBuilder_append9_g2 a cnt f n o m x) : o.toInt = ((c + [a].length : Nat) : Int) ∧ apd [a] c f x := by
  refine h (fun o _ x => o.toInt = ((c + [a].length : Nat) : Int) ∧ apd [a] c f x) ?_
  · intro x1 x2 x3 h1 h2
    exact apCg1 hc hn b0 b1 h2
theorem apI1 (hc : cnt.toInt = (c : Int)) (hn : c ≤ n) (h : tr_RAbstractStringBuilder_append10 a cnt f n o x) : o.toInt = ((c + (dgI a.toInt).length : Nat) : Int) ∧ apd (dgI a.toInt) c f x := by
  refine h (fun o x => o.toInt = ((c + (dgI a.toInt).length : Nat) : Int) ∧ apd (dgI a.toInt) c f x) ?_
  · intro x1 x2 x3 x4 h1 h2 h3 h4 h5 h6
    have q1 := zss_tr h2
    have q2 : x2.toInt = ((c + (dgI a.toInt).length : Nat) : Int) := by omega
    exact ⟨q2, (gch_tr q2 h6)⟩
theorem apI (hc : cnt.toInt = (c : Int)) (hn : c ≤ n) (h : tr_RStringBuilder_append10 a cnt f n o x) : o.toInt = ((c + (dgI a.toInt).length : Nat) : Int) ∧ apd (dgI a.toInt) c f x := by
  refine h (fun o x => o.toInt = ((c + (dgI a.toInt).length : Nat) : Int) ∧ apd (dgI a.toInt) c f x) ?_
  · intro x1 x2 h1 h2
    exact apI1 hc hn h2
theorem apIg1 (hc : cnt.toInt = (c : Int)) (hn : c ≤ n) (h : tr_RAbstractStringBuilder_append10_g2 a cnt f n o m x) : o.toInt = ((c + (dgI a.toInt).length : Nat) : Int) ∧ apd (dgI a.toInt) c f x := by
  refine h (fun o _ x => o.toInt = ((c + (dgI a.toInt).length : Nat) : Int) ∧ apd (dgI a.toInt) c f x) ?_
  · intro x1 x2 x3 x4 x5 x6 h1 h2 h3 h4 h5 h6
    have q0 := ecg_tr (c := c) hn h4
    have q1 := zss_tr h2
    have q2 : x2.toInt = ((c + (dgI a.toInt).length : Nat) : Int) := by omega
    exact ⟨q2, apd_f q0 (gch_tr q2 h6)⟩
theorem apIg (hc : cnt.toInt = (c : Int)) (hn : c ≤ n) (h : tr_RStringBuilder_append10_g2 a cnt f n o m x) : o.toInt = ((c + (dgI a.toInt).length : Nat) : Int) ∧ apd (dgI a.toInt) c f x := by
  refine h (fun o _ x => o.toInt = ((c + (dgI a.toInt).length : Nat) : Int) ∧ apd (dgI a.toInt) c f x) ?_
  · intro x1 x2 x3 h1 h2
    exact apIg1 hc hn h2
theorem apIr1 (hc : cnt.toInt = (c : Int)) (hn : c ≤ n) (h : tr_RAbstractStringBuilder_append12 a cnt f n o x) : o.toInt = ((c + (dgI a.toInt).length : Nat) : Int) ∧ apd (dgI a.toInt) c f x := by
  refine h (fun o x => o.toInt = ((c + (dgI a.toInt).length : Nat) : Int) ∧ apd (dgI a.toInt) c f x) ?_
  · intro x1 x2 x3 x4 h1 h2 h3 h4 h5 h6
    have q1 := zss_tr h2
    have q2 : x2.toInt = ((c + (dgI a.toInt).length : Nat) : Int) := by omega
    exact ⟨q2, (gch_tr q2 h6)⟩
theorem apIr (hc : cnt.toInt = (c : Int)) (hn : c ≤ n) (h : tr_RStringBuilder_append12 a cnt f n o x) : o.toInt = ((c + (dgI a.toInt).length : Nat) : Int) ∧ apd (dgI a.toInt) c f x := by
  refine h (fun o x => o.toInt = ((c + (dgI a.toInt).length : Nat) : Int) ∧ apd (dgI a.toInt) c f x) ?_
  · intro x1 x2 h1 h2
    exact apIr1 hc hn h2
theorem apS1 (hc : cnt.toInt = (c : Int)) (hn : c ≤ n) (h : tr_RAbstractStringBuilder_append11 bs cnt f n o x) : o.toInt = ((c + bs.length : Nat) : Int) ∧ apd bs c f x := by
  refine h (fun o x => o.toInt = ((c + bs.length : Nat) : Int) ∧ apd bs c f x) ?_
  · intro x1 x2 x3 x4 h1 h2 h3 h4 h5 h6
    have q1 := sl2_tr h2
    obtain ⟨p1, p2⟩ := ps2_tr h5 hc
    exact ⟨by omega, ⟨p1, p2⟩⟩
theorem apS (hc : cnt.toInt = (c : Int)) (hn : c ≤ n) (h : tr_RStringBuilder_append11 bs cnt f n o x) : o.toInt = ((c + bs.length : Nat) : Int) ∧ apd bs c f x := by
  refine h (fun o x => o.toInt = ((c + bs.length : Nat) : Int) ∧ apd bs c f x) ?_
  · intro x1 x2 h1 h2
    exact apS1 hc hn h2
theorem apSg1 (hc : cnt.toInt = (c : Int)) (hn : c ≤ n) (h : tr_RAbstractStringBuilder_append11_g2 bs cnt f n o m x) : o.toInt = ((c + bs.length : Nat) : Int) ∧ apd bs c f x := by
  refine h (fun o _ x => o.toInt = ((c + bs.length : Nat) : Int) ∧ apd bs c f x) ?_
  · intro x1 x2 x3 x4 x5 x6 h1 h2 h3 h4 h5 h6
    have q0 := ecg_tr (c := c) hn h4
    have q1 := sl2_tr h2
    obtain ⟨p1, p2⟩ := ps2_tr h5 hc
    exact ⟨by omega, apd_f q0 ⟨p1, p2⟩⟩
theorem apSg (hc : cnt.toInt = (c : Int)) (hn : c ≤ n) (h : tr_RStringBuilder_append11_g2 bs cnt f n o m x) : o.toInt = ((c + bs.length : Nat) : Int) ∧ apd bs c f x := by
  refine h (fun o _ x => o.toInt = ((c + bs.length : Nat) : Int) ∧ apd bs c f x) ?_
  · intro x1 x2 x3 h1 h2
    exact apSg1 hc hn h2
theorem apCr (hc : cnt.toInt = (c : Int)) (hn : c ≤ n) (b0 : 0 ≤ a.toInt) (b1 : a.toInt ≤ 127) (h : tr_RStringBuilder_append a cnt f n o x) : o.toInt = ((c + [a].length : Nat) : Int) ∧ apd [a] c f x := by
  obtain ⟨h1, h2, h3, -⟩ := apn h hc hn b0 b1
  refine ⟨h1, h2, fun i hi => ?_⟩
  have e : i = 0 := by have hi2 : i < 1 := hi; omega
  rw [e, Nat.add_zero]
  exact Int32.toInt_inj.mp h3
theorem apSr (hc : cnt.toInt = (c : Int)) (hn : c ≤ n) (h : tr_RStringBuilder_append4 bs cnt f n o x) : o.toInt = ((c + bs.length : Nat) : Int) ∧ apd bs c f x := by
  obtain ⟨h1, h2, h3, -⟩ := apl h hc hn
  exact ⟨h1, h2, h3⟩
theorem by_f : ∀ j : Nat, j < 256 → (((Int32.ofInt ((j : Int) - 128) &&& 255).toUInt32 % 65536).toInt32.toInt8.toInt32).toInt8.toInt32 = Int32.ofInt ((j : Int) - 128) := by decide +kernel
theorem by_g {v : Int32} (h0 : -128 ≤ v.toInt) (h1 : v.toInt ≤ 127) : vp_nar .byte (((v &&& 255).toUInt32 % 65536).toInt32.toInt8.toInt32) = v := by
  have q := by_f (v.toInt + 128).toNat (by omega)
  rw [show (((v.toInt + 128).toNat : Nat) : Int) - 128 = v.toInt by omega, Int32.ofInt_toInt] at q
  exact q
/-- the letters so far -/
def lt9 (ws : List Int32) (f : Nat → Int32) : Prop := ∀ i, i < ws.length → f i = ws.getD i 0
theorem lt_ap {ws b : List Int32} (h : lt9 ws f) (g : apd b ws.length f f1) : lt9 (ws ++ b) f1 := fun i hi => by
  rw [List.length_append] at hi
  by_cases q : i < ws.length
  · rw [lgt_l q, g.1 i q]; exact h i q
  · obtain ⟨m, rfl⟩ : ∃ m, i = ws.length + m := ⟨i - ws.length, by omega⟩
    rw [lgt_r]; exact g.2 m (by omega)
theorem ltz_0 : lt9 [] f := fun i hi => absurd hi (Nat.not_lt_zero i)
end APR
theorem chb1 {f : Nat → Int32} {n : Nat} {a cnt o z : Int32} (hz : z = o.toInt8.toInt32) (h : tr_RAbstractStringBuilder_charAt a cnt f n o) : vp_nar .byte z = f a.toNatClampNeg := by
  rw [hz]
  refine h (fun o => vp_nar .byte o.toInt8.toInt32 = f a.toNatClampNeg) ?_
  · intro x1 x2 x3 x4 x5 x6 h1 h2 h3 h4 h5 h6 h7 h8
    rw [h8, h7, ← h5]
    exact by_g h6.1 h6.2
theorem chbt {f : Nat → Int32} {n : Nat} {a cnt o z : Int32} (hz : z = o.toInt8.toInt32) (h : tr_RStringBuilder_charAt a cnt f n o) : vp_nar .byte z = f a.toNatClampNeg := by
  rw [hz]
  refine h (fun o => vp_nar .byte o.toInt8.toInt32 = f a.toNatClampNeg) ?_
  · intro x1 h1 h2
    exact chb1 rfl h2
end
