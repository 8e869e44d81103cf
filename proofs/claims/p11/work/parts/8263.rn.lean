/-! runs of the reference -/
section RN9
variable {D : va_G} {I : FieldType → ClassId} {P : List Nat} {F F1 : Nat → va_E} {γ el : Nat → Nat → Nat} {b j gn q0 : Nat} {Q : gPg} {inp : Nat → Int32} {s : gM9} {l : Nat → Int} {x n : Int}
/-- results: 32 bits of a long -/
theorem t64 (x : Int32) : (x.toInt64 &&& 4294967295).toInt32 = x := by
  apply Int32.toBitVec_inj.mp
  show BitVec.signExtend 32 (BitVec.signExtend 64 x.toBitVec &&& 4294967295#64) = x.toBitVec
  apply BitVec.eq_of_getLsbD_eq
  intro i hi
  have e : ∀ i, i < 32 → (4294967295#64).getLsbD i = true := by decide
  have e1 : decide (i < 32) = true := decide_eq_true hi
  have e2 : decide (i < 64) = true := decide_eq_true (by omega)
  rw [BitVec.getLsbD_signExtend, if_pos (show i < 64 by omega), BitVec.getLsbD_and, BitVec.getLsbD_signExtend, if_pos hi, e i hi, e1, e2]
  simp only [Bool.true_and, Bool.and_true]
theorem n64 (x : Int32) : ¬ (x.toInt64 &&& 4294967295) = (4294967296 : Int64) := fun h => by
  have q := congrArg (fun z : Int64 => z.toBitVec.getLsbD 32) h
  have q1 : (x.toInt64 &&& 4294967295).toBitVec.getLsbD 32 = (x.toInt64.toBitVec.getLsbD 32 && (4294967295#64).getLsbD 32) := BitVec.getLsbD_and
  have q2 : (4294967295#64).getLsbD 32 = false := by decide
  have q3 : (4294967296 : Int64).toBitVec.getLsbD 32 = true := by decide
  rw [q2, Bool.and_false] at q1
  have q' : (x.toInt64 &&& 4294967295).toBitVec.getLsbD 32 = (4294967296 : Int64).toBitVec.getLsbD 32 := q
  rw [q1, q3] at q'
  cases q'
theorem a31 (x : Int32) : (x &&& 31) &&& 31 = x &&& 31 := by
  apply Int32.toBitVec_inj.mp
  show (x.toBitVec &&& 31#32) &&& 31#32 = x.toBitVec &&& 31#32
  rw [BitVec.and_assoc, BitVec.and_self]
theorem res_r {a0 : Int32} {a1 : Int32} {a2 : Int32} {o1 : Int64} (h0 : 1 ≤ a0.toInt) (h13 : a0.toInt ≤ 14) (h : tr_RModel_result a0 a1 a2 o1) : (o1 = (4294967296 : Int64) ∧ (a0.toInt = 4 ∨ a0.toInt = 5) ∧ a2.toInt = 0) ∨ (¬ o1 = (4294967296 : Int64) ∧ ¬ ((a0.toInt = 4 ∨ a0.toInt = 5) ∧ a2.toInt = 0) ∧ o1.toInt32 = clc (a0.toInt - 1) a1 a2) := by
  refine h (fun o1 => (o1 = (4294967296 : Int64) ∧ (a0.toInt = 4 ∨ a0.toInt = 5) ∧ a2.toInt = 0) ∨ (¬ o1 = (4294967296 : Int64) ∧ ¬ ((a0.toInt = 4 ∨ a0.toInt = 5) ∧ a2.toInt = 0) ∧ o1.toInt32 = clc (a0.toInt - 1) a1 a2)) ?_ ?_ ?_ ?_ ?_ ?_ ?_ ?_ ?_ ?_ ?_ ?_ ?_ ?_ ?_ ?_ ?_ ?_ ?_ ?_
  · intro x1 x2 x3 h1 h2 h3 h4
    have ev : x3 = (x1).toInt64 &&& 4294967295 := by rw [h4, h3]
    refine Or.inr ⟨by rw [ev]; exact n64 _, by omega, ?_⟩
    rw [ev, t64]
    rw [h2, h1]
    rfl
  · intro x1 x2 x3 h1 h2 h3 h4
    have ev : x3 = (x1).toInt64 &&& 4294967295 := by rw [h4, h3]
    refine Or.inr ⟨by rw [ev]; exact n64 _, by omega, ?_⟩
    rw [ev, t64]
    rw [h2, h1]
    rfl
  · intro x1 x2 x3 h1 h2 h3 h4
    have ev : x3 = (x1).toInt64 &&& 4294967295 := by rw [h4, h3]
    refine Or.inr ⟨by rw [ev]; exact n64 _, by omega, ?_⟩
    rw [ev, t64]
    rw [h2, h1]
    rfl
  · intro x1 x2 x3 h1 h2 h3 h4 h5
    have ev : x3 = (x1).toInt64 &&& 4294967295 := by rw [h5, h4]
    refine Or.inr ⟨by rw [ev]; exact n64 _, by omega, ?_⟩
    rw [ev, t64]
    rw [h3, h1]
    rfl
  · intro h1 h2
    exact Or.inl ⟨rfl, by omega, h2⟩
  · intro x1 x2 x3 h1 h2 h3 h4 h5
    have ev : x3 = (x1).toInt64 &&& 4294967295 := by rw [h5, h4]
    refine Or.inr ⟨by rw [ev]; exact n64 _, by omega, ?_⟩
    rw [ev, t64]
    rw [h3, h1]
    rfl
  · intro h1 h2
    exact Or.inl ⟨rfl, by omega, h2⟩
  · intro x1 x2 x3 h1 h2 h3 h4
    have ev : x3 = (x1).toInt64 &&& 4294967295 := by rw [h4, h3]
    refine Or.inr ⟨by rw [ev]; exact n64 _, by omega, ?_⟩
    rw [ev, t64]
    rw [h2, h1]
    rfl
  · intro x1 x2 x3 h1 h2 h3 h4
    have ev : x3 = (x1).toInt64 &&& 4294967295 := by rw [h4, h3]
    refine Or.inr ⟨by rw [ev]; exact n64 _, by omega, ?_⟩
    rw [ev, t64]
    rw [h2, h1]
    rfl
  · intro x1 x2 x3 h1 h2 h3 h4
    have ev : x3 = (x1).toInt64 &&& 4294967295 := by rw [h4, h3]
    refine Or.inr ⟨by rw [ev]; exact n64 _, by omega, ?_⟩
    rw [ev, t64]
    rw [h2, h1]
    rfl
  · intro x1 x2 x3 x4 h1 h2 h3 h4 h5
    have ev : x4 = (x2).toInt64 &&& 4294967295 := by rw [h5, h4]
    refine Or.inr ⟨by rw [ev]; exact n64 _, by omega, ?_⟩
    rw [ev, t64]
    rw [h3, h1]
    rw [h2, a31]
    rfl
  · intro x1 x2 x3 x4 h1 h2 h3 h4 h5
    have ev : x4 = (x2).toInt64 &&& 4294967295 := by rw [h5, h4]
    refine Or.inr ⟨by rw [ev]; exact n64 _, by omega, ?_⟩
    rw [ev, t64]
    rw [h3, h1]
    rw [h2, a31]
    rfl
  · intro x1 x2 h1 h2 h3 h4
    have ev : x2 = ((0 : Int32)).toInt64 &&& 4294967295 := by rw [h4, h3]
    refine Or.inr ⟨by rw [ev]; exact n64 _, by omega, ?_⟩
    rw [ev, t64]
    rw [h1]
    show _ = if a1.toInt < a2.toInt then (1 : Int32) else 0
    exact (if_neg (show ¬ a1.toInt < a2.toInt by omega)).symm
  · intro x1 x2 h1 h2 h3 h4
    have ev : x2 = ((1 : Int32)).toInt64 &&& 4294967295 := by rw [h4, h3]
    refine Or.inr ⟨by rw [ev]; exact n64 _, by omega, ?_⟩
    rw [ev, t64]
    rw [h1]
    show _ = if a1.toInt < a2.toInt then (1 : Int32) else 0
    exact (if_pos (show a1.toInt < a2.toInt by omega)).symm
  · intro x1 x2 h1 h2 h3 h4
    have ev : x2 = ((0 : Int32)).toInt64 &&& 4294967295 := by rw [h4, h3]
    refine Or.inr ⟨by rw [ev]; exact n64 _, by omega, ?_⟩
    rw [ev, t64]
    rw [h1]
    show _ = if a1.toInt ≤ a2.toInt then (1 : Int32) else 0
    exact (if_neg (show ¬ a1.toInt ≤ a2.toInt by omega)).symm
  · intro x1 x2 h1 h2 h3 h4
    have ev : x2 = ((1 : Int32)).toInt64 &&& 4294967295 := by rw [h4, h3]
    refine Or.inr ⟨by rw [ev]; exact n64 _, by omega, ?_⟩
    rw [ev, t64]
    rw [h1]
    show _ = if a1.toInt ≤ a2.toInt then (1 : Int32) else 0
    exact (if_pos (show a1.toInt ≤ a2.toInt by omega)).symm
  · intro x1 x2 h1 h2 h3 h4
    have ev : x2 = ((0 : Int32)).toInt64 &&& 4294967295 := by rw [h4, h3]
    refine Or.inr ⟨by rw [ev]; exact n64 _, by omega, ?_⟩
    rw [ev, t64]
    rw [h1]
    show _ = if a1.toInt = a2.toInt then (1 : Int32) else 0
    exact (if_neg (show ¬ a1.toInt = a2.toInt by omega)).symm
  · intro x1 x2 h1 h2 h3 h4
    have ev : x2 = ((1 : Int32)).toInt64 &&& 4294967295 := by rw [h4, h3]
    refine Or.inr ⟨by rw [ev]; exact n64 _, by omega, ?_⟩
    rw [ev, t64]
    rw [h1]
    show _ = if a1.toInt = a2.toInt then (1 : Int32) else 0
    exact (if_pos (show a1.toInt = a2.toInt by omega)).symm
  · intro x1 x2 h1 h2 h3 h4 h5 h6 h7 h8 h9 h10 h11 h12 h13 h14 h15 h16
    have ev : x2 = ((0 : Int32)).toInt64 &&& 4294967295 := by rw [h16, h15]
    refine Or.inr ⟨by rw [ev]; exact n64 _, by omega, ?_⟩
    rw [ev, t64]
    rw [show a0.toInt = 14 by omega]
    show _ = if a1.toInt = a2.toInt then (0 : Int32) else 1
    exact (if_pos (show a1.toInt = a2.toInt by omega)).symm
  · intro x1 x2 h1 h2 h3 h4 h5 h6 h7 h8 h9 h10 h11 h12 h13 h14 h15 h16
    have ev : x2 = ((1 : Int32)).toInt64 &&& 4294967295 := by rw [h16, h15]
    refine Or.inr ⟨by rw [ev]; exact n64 _, by omega, ?_⟩
    rw [ev, t64]
    rw [show a0.toInt = 14 by omega]
    show _ = if a1.toInt = a2.toInt then (0 : Int32) else 1
    exact (if_neg (show ¬ a1.toInt = a2.toInt by omega)).symm
def isMd (γ : Nat → Nat → Nat) (e : va_E) : Prop := ∃ (r28 r35 : Nat) (v9 v10 v11 v12 v13 v14 v23 v24 v25 v26 v27 v30 v32 v33 v34 : Int32), e = mdE γ r28 r35 v9 v10 v11 v12 v13 v14 v23 v24 v25 v26 v27 v30 v32 v33 v34
theorem isMd_o {e : va_E} (h : rk_10 γ e) : isMd γ e := by
  obtain ⟨r28, r35, v9, v10, v11, v12, v13, v14, v23, v24, v25, v26, v27, v30, v32, v33, v34, he, -⟩ := rk10_m h
  exact ⟨r28, r35, v9, v10, v11, v12, v13, v14, v23, v24, v25, v26, v27, v30, v32, v33, v34, he⟩
theorem cm23 {e e1 : va_E} {y : Int32} (h : isMd γ e) (he : e1 = cF e 23 (.int y)) : fI e1 23 = y ∧ fI e1 9 = fI e 9 ∧ fI e1 10 = fI e 10 ∧ fI e1 11 = fI e 11 ∧ fI e1 24 = fI e 24 ∧ fI e1 25 = fI e 25 ∧ fI e1 26 = fI e 26 ∧ fI e1 27 = fI e 27 ∧ fI e1 30 = fI e 30 ∧ fI e1 32 = fI e 32 ∧ fI e1 34 = fI e 34 ∧ fR e1 28 = fR e 28 ∧ isMd γ e1 := by
  obtain ⟨r28, r35, v9, v10, v11, v12, v13, v14, v23, v24, v25, v26, v27, v30, v32, v33, v34, h0⟩ := h
  have h1 : e1 = mdE γ r28 r35 v9 v10 v11 v12 v13 v14 y v24 v25 v26 v27 v30 v32 v33 v34 := by rw [he, h0]; rfl
  rw [h1, h0]
  exact ⟨rfl, rfl, rfl, rfl, rfl, rfl, rfl, rfl, rfl, rfl, rfl, rfl, ⟨_, _, _, _, _, _, _, _, _, _, _, _, _, _, _, _, _, rfl⟩⟩
theorem cm24 {e e1 : va_E} {y : Int32} (h : isMd γ e) (he : e1 = cF e 24 (.int y)) : fI e1 24 = y ∧ fI e1 9 = fI e 9 ∧ fI e1 10 = fI e 10 ∧ fI e1 11 = fI e 11 ∧ fI e1 23 = fI e 23 ∧ fI e1 25 = fI e 25 ∧ fI e1 26 = fI e 26 ∧ fI e1 27 = fI e 27 ∧ fI e1 30 = fI e 30 ∧ fI e1 32 = fI e 32 ∧ fI e1 34 = fI e 34 ∧ fR e1 28 = fR e 28 ∧ isMd γ e1 := by
  obtain ⟨r28, r35, v9, v10, v11, v12, v13, v14, v23, v24, v25, v26, v27, v30, v32, v33, v34, h0⟩ := h
  have h1 : e1 = mdE γ r28 r35 v9 v10 v11 v12 v13 v14 v23 y v25 v26 v27 v30 v32 v33 v34 := by rw [he, h0]; rfl
  rw [h1, h0]
  exact ⟨rfl, rfl, rfl, rfl, rfl, rfl, rfl, rfl, rfl, rfl, rfl, rfl, ⟨_, _, _, _, _, _, _, _, _, _, _, _, _, _, _, _, _, rfl⟩⟩
theorem cm25 {e e1 : va_E} {y : Int32} (h : isMd γ e) (he : e1 = cF e 25 (.int y)) : fI e1 25 = y ∧ fI e1 9 = fI e 9 ∧ fI e1 10 = fI e 10 ∧ fI e1 11 = fI e 11 ∧ fI e1 23 = fI e 23 ∧ fI e1 24 = fI e 24 ∧ fI e1 26 = fI e 26 ∧ fI e1 27 = fI e 27 ∧ fI e1 30 = fI e 30 ∧ fI e1 32 = fI e 32 ∧ fI e1 34 = fI e 34 ∧ fR e1 28 = fR e 28 ∧ isMd γ e1 := by
  obtain ⟨r28, r35, v9, v10, v11, v12, v13, v14, v23, v24, v25, v26, v27, v30, v32, v33, v34, h0⟩ := h
  have h1 : e1 = mdE γ r28 r35 v9 v10 v11 v12 v13 v14 v23 v24 y v26 v27 v30 v32 v33 v34 := by rw [he, h0]; rfl
  rw [h1, h0]
  exact ⟨rfl, rfl, rfl, rfl, rfl, rfl, rfl, rfl, rfl, rfl, rfl, rfl, ⟨_, _, _, _, _, _, _, _, _, _, _, _, _, _, _, _, _, rfl⟩⟩
theorem cm26 {e e1 : va_E} {y : Int32} (h : isMd γ e) (he : e1 = cF e 26 (.int y)) : fI e1 26 = y ∧ fI e1 9 = fI e 9 ∧ fI e1 10 = fI e 10 ∧ fI e1 11 = fI e 11 ∧ fI e1 23 = fI e 23 ∧ fI e1 24 = fI e 24 ∧ fI e1 25 = fI e 25 ∧ fI e1 27 = fI e 27 ∧ fI e1 30 = fI e 30 ∧ fI e1 32 = fI e 32 ∧ fI e1 34 = fI e 34 ∧ fR e1 28 = fR e 28 ∧ isMd γ e1 := by
  obtain ⟨r28, r35, v9, v10, v11, v12, v13, v14, v23, v24, v25, v26, v27, v30, v32, v33, v34, h0⟩ := h
  have h1 : e1 = mdE γ r28 r35 v9 v10 v11 v12 v13 v14 v23 v24 v25 y v27 v30 v32 v33 v34 := by rw [he, h0]; rfl
  rw [h1, h0]
  exact ⟨rfl, rfl, rfl, rfl, rfl, rfl, rfl, rfl, rfl, rfl, rfl, rfl, ⟨_, _, _, _, _, _, _, _, _, _, _, _, _, _, _, _, _, rfl⟩⟩
theorem cm27 {e e1 : va_E} {y : Int32} (h : isMd γ e) (he : e1 = cF e 27 (.int y)) : fI e1 27 = y ∧ fI e1 9 = fI e 9 ∧ fI e1 10 = fI e 10 ∧ fI e1 11 = fI e 11 ∧ fI e1 23 = fI e 23 ∧ fI e1 24 = fI e 24 ∧ fI e1 25 = fI e 25 ∧ fI e1 26 = fI e 26 ∧ fI e1 30 = fI e 30 ∧ fI e1 32 = fI e 32 ∧ fI e1 34 = fI e 34 ∧ fR e1 28 = fR e 28 ∧ isMd γ e1 := by
  obtain ⟨r28, r35, v9, v10, v11, v12, v13, v14, v23, v24, v25, v26, v27, v30, v32, v33, v34, h0⟩ := h
  have h1 : e1 = mdE γ r28 r35 v9 v10 v11 v12 v13 v14 v23 v24 v25 v26 y v30 v32 v33 v34 := by rw [he, h0]; rfl
  rw [h1, h0]
  exact ⟨rfl, rfl, rfl, rfl, rfl, rfl, rfl, rfl, rfl, rfl, rfl, rfl, ⟨_, _, _, _, _, _, _, _, _, _, _, _, _, _, _, _, _, rfl⟩⟩
theorem cm30 {e e1 : va_E} {y : Int32} (h : isMd γ e) (he : e1 = cF e 30 (.int y)) : fI e1 30 = y ∧ fI e1 9 = fI e 9 ∧ fI e1 10 = fI e 10 ∧ fI e1 11 = fI e 11 ∧ fI e1 23 = fI e 23 ∧ fI e1 24 = fI e 24 ∧ fI e1 25 = fI e 25 ∧ fI e1 26 = fI e 26 ∧ fI e1 27 = fI e 27 ∧ fI e1 32 = fI e 32 ∧ fI e1 34 = fI e 34 ∧ fR e1 28 = fR e 28 ∧ isMd γ e1 := by
  obtain ⟨r28, r35, v9, v10, v11, v12, v13, v14, v23, v24, v25, v26, v27, v30, v32, v33, v34, h0⟩ := h
  have h1 : e1 = mdE γ r28 r35 v9 v10 v11 v12 v13 v14 v23 v24 v25 v26 v27 y v32 v33 v34 := by rw [he, h0]; rfl
  rw [h1, h0]
  exact ⟨rfl, rfl, rfl, rfl, rfl, rfl, rfl, rfl, rfl, rfl, rfl, rfl, ⟨_, _, _, _, _, _, _, _, _, _, _, _, _, _, _, _, _, rfl⟩⟩
def kd9 (γ : Nat → Nat → Nat) (q0 : Nat) : Prop := γ 0 q0 = 10 ∧ γ 0 (γ 9 20) = 22 ∧ γ 0 (γ 9 21) = 23 ∧ γ 0 (γ 9 22) = 97
theorem kd9_o (hT : RS D I P F γ el) (hm : γ 0 q0 = 10) : kd9 γ q0 := by
  obtain ⟨-, -, -, k20, k21, k22⟩ := md_k9 hT hm
  exact ⟨hm, k20, k21, k22⟩
/-- what is read of INPUT -/
def inP9 (I : FieldType → ClassId) (F : Nat → va_E) (q0 : Nat) (inp : Nat → Int32) (gn : Nat) : Prop := ∃ p, F (fR (F q0) 28) = .inl (I .int, gn, .inl p) ∧ ∀ i, i < gn → p i = inp i
/-- the reference's machine stands at s -/
def am9 (I : FieldType → ClassId) (γ : Nat → Nat → Nat) (q0 : Nat) (inp : Nat → Int32) (gn : Nat) (s : gM9) (F : Nat → va_E) : Prop :=
  isMd γ (F q0) ∧ γ 0 (fR (F q0) 28) = 98 ∧ inP9 I F q0 inp gn ∧ (∀ i, i < 100 → cB (F (γ 9 20)) i = s.2.2.1 i) ∧ (∀ i, i < 100 → cB (F (γ 9 21)) i = s.2.2.2.1 i) ∧ (fI (F q0) 25).toInt = (s.2.2.2.2.2.1 : Int) ∧ (fI (F q0) 27).toInt = (s.2.2.2.2.2.2 : Int) ∧ (∀ i, i < s.2.2.2.2.2.1 → cB (F (γ 9 22)) i = s.2.2.2.2.1 i) ∧ s.2.2.2.2.2.1 ≤ 512 ∧ s.2.2.2.2.2.2 ≤ gn
theorem nek {a b k m : Nat} (h1 : γ 0 a = k) (h2 : γ 0 b = m) (h : k ≠ m) : a ≠ b := fun e => h (by rw [← h1, ← h2, e])
/-- registers written -/
theorem am_rg {v : Int32} {y z : Nat → Int32} (hk : kd9 γ q0) (h : am9 I γ q0 inp gn s F) (fr : ∀ b, b ≠ γ 9 20 → F1 b = F b) (h0 : F (γ 9 20) = .inl (I .int, 2000, .inl y)) (h1 : F1 (γ 9 20) = .inl (I .int, 2000, .inl z)) (hz : z = upd y x.toNat v) : am9 I γ q0 inp gn (rw9 s x v) F1 := by
  obtain ⟨k0, k20, k21, k22⟩ := hk
  obtain ⟨a1, a2, ⟨p, a3, a3'⟩, a4, a5, a6, a7, a8, a9, a10⟩ := h
  have e0 : F1 q0 = F q0 := fr _ (nek k0 k20 (by decide))
  unfold am9 inP9
  rw [e0, fr _ (nek a2 k20 (by decide)), fr _ (nek k21 k20 (by decide)), fr _ (nek k22 k20 (by decide)), cB_of h1]
  refine ⟨a1, a2, ⟨p, a3, a3'⟩, fun i hi => ?_, a5, a6, a7, a8, a9, a10⟩
  rw [cB_of h0] at a4
  rw [hz]
  exact updW a4 i hi
/-- slots written -/
theorem am_sl {v : Int32} {y z : Nat → Int32} (hk : kd9 γ q0) (h : am9 I γ q0 inp gn s F) (fr : ∀ b, b ≠ γ 9 21 → F1 b = F b) (h0 : F (γ 9 21) = .inl (I .int, 2000, .inl y)) (h1 : F1 (γ 9 21) = .inl (I .int, 2000, .inl z)) (hz : z = upd y x.toNat v) : am9 I γ q0 inp gn (s.1, s.2.1 + 1, s.2.2.1, upd s.2.2.2.1 x.toNat v, s.2.2.2.2) F1 := by
  obtain ⟨k0, k20, k21, k22⟩ := hk
  obtain ⟨a1, a2, ⟨p, a3, a3'⟩, a4, a5, a6, a7, a8, a9, a10⟩ := h
  have e0 : F1 q0 = F q0 := fr _ (nek k0 k21 (by decide))
  unfold am9 inP9
  rw [e0, fr _ (nek a2 k21 (by decide)), fr _ (nek k20 k21 (by decide)), fr _ (nek k22 k21 (by decide)), cB_of h1]
  refine ⟨a1, a2, ⟨p, a3, a3'⟩, a4, fun i hi => ?_, a6, a7, a8, a9, a10⟩
  rw [cB_of h0] at a5
  rw [hz]
  exact updW a5 i hi
/-- the model's cell written: what doesn't matter -/
theorem am_q {s2 : gM9} (hk : kd9 γ q0) (h : am9 I γ q0 inp gn s F) (fr : ∀ b, b ≠ q0 → F1 b = F b) (hM : isMd γ (F1 q0)) (hr : fR (F1 q0) 28 = fR (F q0) 28) (e1 : s2.2.2.1 = s.2.2.1) (e2 : s2.2.2.2.1 = s.2.2.2.1) (e3 : s2.2.2.2.2.1 = s.2.2.2.2.1) (e4 : s2.2.2.2.2.2.1 = s.2.2.2.2.2.1) (h5 : (fI (F1 q0) 25).toInt = (s2.2.2.2.2.2.1 : Int)) (h7 : (fI (F1 q0) 27).toInt = (s2.2.2.2.2.2.2 : Int)) (h10 : s2.2.2.2.2.2.2 ≤ gn) : am9 I γ q0 inp gn s2 F1 := by
  obtain ⟨k0, k20, k21, k22⟩ := hk
  obtain ⟨a1, a2, ⟨p, a3, a3'⟩, a4, a5, a6, a7, a8, a9, a10⟩ := h
  refine ⟨hM, by rw [hr]; exact a2, ⟨p, ?_, a3'⟩, ?_, ?_, h5, h7, ?_, by rw [e4]; exact a9, h10⟩
  · rw [hr, fr _ (nek a2 k0 (by decide))]; exact a3
  · rw [fr _ (nek k20 k0 (by decide)), e1]; exact a4
  · rw [fr _ (nek k21 k0 (by decide)), e2]; exact a5
  · rw [fr _ (nek k22 k0 (by decide)), e3, e4]; exact a8
theorem vl_r {q0 : Nat} {a1 : Int32} {a2 : Int32} {o1 : Int32} {rg : Nat → Int32} (hE : opdE x n a2 a1) (h0 : -1 ≤ x) (h99 : x ≤ 99) (hr : ∀ i, i < 100 → cB (F (γ 9 20)) i = rg i) (h : tr_RModel_value D I γ el F q0 a1 a2 o1) : o1 = mvl rg x n := by
  unfold opdE at hE
  unfold mvl
  refine h (fun o1 => o1 = if 0 ≤ x then rg x.toNat else Int32.ofInt n) ?_ ?_
  · intro h1
    have q : x = -1 ∧ a2.toInt = n := by omega
    rw [if_neg (by omega), ← q.2]; exact (Int32.ofInt_toInt a2).symm
  · intro x1 x2 h1 h2 h3 h4
    have q : a2.toInt = x ∧ 0 ≤ x := by omega
    rw [if_pos q.2, h4, nnE (show a2.toInt = ((x.toNat : Nat) : Int) by omega), ← hr _ (by omega), cB_of h3]
theorem op_l {op t a c rA rB sl : Int32} (hO : rnO l) (hE : rwF l op t a c rA rB sl) : (op.toInt = 0 ∧ l 0 = 14) ∨ (op.toInt = 20 ∧ l 0 = 15) ∨ (op.toInt = 22 ∧ l 0 = 16) ∨ (op.toInt = 21 ∧ l 0 = 17) ∨ (op.toInt = 23 ∧ l 0 = 18) ∨ (1 ≤ op.toInt ∧ op.toInt ≤ 14 ∧ l 0 = op.toInt - 1) := by
  obtain ⟨e1, e2, e3, e4, e5, e6⟩ := hE
  have o1 := hO.1
  have h0 : l 0 ≤ 13 ∨ l 0 = 14 ∨ l 0 = 15 ∨ l 0 = 16 ∨ l 0 = 17 ∨ l 0 = 18 := by omega
  rcases h0 with h0 | h0 | h0 | h0 | h0 | h0
  · have := (e1 h0).1; omega
  · have := (e2 h0).1; omega
  · have := (e3 h0).1; omega
  · have := (e4 h0).1; omega
  · have := (e5 h0).1; omega
  · have := (e6 h0).1; omega
/-- what a step of the reference leaves -/
def sr9 (I : FieldType → ClassId) (γ : Nat → Nat → Nat) (q0 : Nat) (Q : gPg) (inp : Nat → Int32) (gn : Nat) (s : gM9) (F : Nat → va_E) (o1 : Int32) (o2 : Nat → va_E) : Prop :=
  ((fI (o2 q0) 24, fI (o2 q0) 30, fI (o2 q0) 34) = (fI (F q0) 24, fI (F q0) 30, fI (F q0) 34) ∧ fI (o2 q0) 26 = fI (F q0) 26) ∧
  ((o1.toInt < 0 ∧ ∃ s2, st9 Q inp gn s = (none, s2) ∧ s2.1 = s.1 ∧ s2.2.1 = s.2.1 + 1 ∧ am9 I γ q0 inp gn s2 o2) ∨
   (0 < o1.toInt ∧ st9 Q inp gn s = (some (o1.toInt, 0), s) ∧ am9 I γ q0 inp gn s o2))
set_option maxHeartbeats 4000000 in
theorem stp_r {q1 : Nat} {o1 : Int32} {o2 : Nat → va_E} (hk : kd9 γ q0) (ha : am9 I γ q0 inp gn s F) (hO : rnO (Q.2.2.1 s.1 s.2.1)) (hl : lnX true (Q.2.2.1 s.1 s.2.1) (F q1)) (h : tr_RModel_step2 D I γ el F q0 q1 o1 o2) : sr9 I γ q0 Q inp gn s F o1 o2 := by
  unfold lnX at hl
  rw [if_pos rfl] at hl
  obtain ⟨kq, k20, k21, k22⟩ := id hk
  obtain ⟨m1, m2, ⟨p, m3, m3'⟩, m4, m5, m6, m7, m8, m9, m10⟩ := id ha
  have ol := op_l hO hl
  obtain ⟨e1, e2, e3, e4, e5, e6⟩ := hl
  obtain ⟨w0, w2, w4, w1, w5⟩ := hO
  refine h (fun o1 o2 => sr9 I γ q0 Q inp gn s F o1 o2) ?_ ?_ ?_ ?_ ?_ ?_ ?_ ?_ ?_
  · intro x1 x2 x3 x4 x5 x6 x7 x8 h1 h2 h3 h4 h5 h6 h7 h8 h9 h10 h11
    rw [h1] at ol e1 e2 e3 e4 e5 e6
    have eo : Q.2.2.1 s.1 s.2.1 0 = 14 := by omega
    obtain ⟨-, y1, y2⟩ := e2 eo
    rw [h4] at y1
    rw [h6] at y2
    rw [h5] at y2
    have va := vl_r y2 w2.1 w2.2 m4 h7
    have w1 := w1 (by omega)
    have ex : x7 = upd x6 (Q.2.2.1 s.1 s.2.1 1).toNat (va9 Q s) := by rw [h9, nnE (show x2.toInt = (((Q.2.2.1 s.1 s.2.1 1).toNat : Nat) : Int) by omega), show x5 = va9 Q s from va]
    have e0 : x8 q0 = F q0 := h10 _ (nek kq k20 (by decide))
    exact ⟨⟨by rw [e0], by rw [e0]⟩, Or.inl ⟨by decide, _, st9_14 eo, rfl, rfl, am_rg hk ha h10 h8 h11 ex⟩⟩
  · intro x1 x2 x3 x4 x5 x6 x7 x8 x9 x10 x11 x12 x13 x14 h1 h2 h3 h4 h5 h6 h7 h8 h9 h10 h11 h12 h13 h14 h15 h16 h17 h18 h19 h20 h21
    rw [h1] at ol e1 e2 e3 e4 e5 e6
    have eo : Q.2.2.1 s.1 s.2.1 0 = 15 := by omega
    obtain ⟨-, y1⟩ := e3 eo
    rw [h4] at y1
    have w1 := w1 (by omega)
    rw [h5] at m7
    rw [h6] at m3
    have en := h7.symm.trans m3
    have e6 : x6 = gn := (Prod.mk.inj (Prod.mk.inj (Sum.inl.inj en)).2).1
    have e5 : x5 = p := Sum.inl.inj (Prod.mk.inj (Prod.mk.inj (Sum.inl.inj en)).2).2
    have ea : x10 q0 = F q0 := h12 _ (nek kq k20 (by decide))
    have hc := h21
    rw [ea] at hc
    obtain ⟨c27, c9, c10, c11, c23, c24, c25, c26, c30, c32, c34, cr, cm⟩ := cm27 m1 hc
    have lt : ¬ s.2.2.2.2.2.2 < gn := by omega
    have tv : tk9 inp gn s.2.2.2.2.2.2 = 0 := if_neg lt
    have tn : tn9 gn s.2.2.2.2.2.2 = s.2.2.2.2.2.2 := if_neg lt
    have ex : x9 = upd x8 (Q.2.2.1 s.1 s.2.1 1).toNat (tk9 inp gn s.2.2.2.2.2.2) := by rw [h11, nnE (show x2.toInt = (((Q.2.2.1 s.1 s.2.1 1).toNat : Nat) : Int) by omega), tv]
    have aa := am_rg hk ha h12 h10 h13 ex
    refine ⟨⟨by rw [c24, c30, c34], c26⟩, Or.inl ⟨by decide, _, st9_15 eo, rfl, rfl, ?_⟩⟩
    refine am_q hk aa h20 cm (by rw [cr, ea]) rfl rfl rfl rfl (by rw [c25]; exact m6) ?_ ?_
    · rw [c27]
      show x13.toInt = (tn9 gn s.2.2.2.2.2.2 : Int)
      rw [tn]
      have q1 := h19
      have q2 := h15
      have q3 := h18
      omega
    · show tn9 gn s.2.2.2.2.2.2 ≤ gn
      rw [tn]; omega
  · intro x1 x2 x3 x4 x5 x6 x7 x8 x9 x10 x11 x12 x13 x14 x15 h1 h2 h3 h4 h5 h6 h7 h8 h9 h10 h11 h12 h13 h14 h15 h16 h17 h18 h19 h20 h21 h22
    rw [h1] at ol e1 e2 e3 e4 e5 e6
    have eo : Q.2.2.1 s.1 s.2.1 0 = 15 := by omega
    obtain ⟨-, y1⟩ := e3 eo
    rw [h4] at y1
    have w1 := w1 (by omega)
    rw [h5] at m7
    rw [h6] at m3
    have en := h7.symm.trans m3
    have e6 : x6 = gn := (Prod.mk.inj (Prod.mk.inj (Sum.inl.inj en)).2).1
    have e5 : x5 = p := Sum.inl.inj (Prod.mk.inj (Prod.mk.inj (Sum.inl.inj en)).2).2
    have ea : x11 q0 = F q0 := h13 _ (nek kq k20 (by decide))
    have hc := h22
    rw [ea] at hc
    obtain ⟨c27, c9, c10, c11, c23, c24, c25, c26, c30, c32, c34, cr, cm⟩ := cm27 m1 hc
    have lt : s.2.2.2.2.2.2 < gn := by omega
    have tv : tk9 inp gn s.2.2.2.2.2.2 = x8 := by unfold tk9; rw [if_pos lt, h10, e5, nnE m7]; exact (m3' _ lt).symm
    have tn : tn9 gn s.2.2.2.2.2.2 = s.2.2.2.2.2.2 + 1 := if_pos lt
    have ex : x10 = upd x9 (Q.2.2.1 s.1 s.2.1 1).toNat (tk9 inp gn s.2.2.2.2.2.2) := by rw [h12, nnE (show x2.toInt = (((Q.2.2.1 s.1 s.2.1 1).toNat : Nat) : Int) by omega), tv]
    have aa := am_rg hk ha h13 h11 h14 ex
    refine ⟨⟨by rw [c24, c30, c34], c26⟩, Or.inl ⟨by decide, _, st9_15 eo, rfl, rfl, ?_⟩⟩
    refine am_q hk aa h21 cm (by rw [cr, ea]) rfl rfl rfl rfl (by rw [c25]; exact m6) ?_ ?_
    · rw [c27]
      show x14.toInt = (tn9 gn s.2.2.2.2.2.2 : Int)
      rw [tn]
      have q1 := h20
      have q2 := h16
      have q3 := h19
      omega
    · show tn9 gn s.2.2.2.2.2.2 ≤ gn
      rw [tn]; omega
  · intro x1 x2 x3 x4 x5 x6 x7 x8 h1 h2 h3 h4 h5 h6 h7 h8 h9 h10 h11 h12
    rw [h1] at ol e1 e2 e3 e4 e5 e6
    have eo : Q.2.2.1 s.1 s.2.1 0 = 17 := by omega
    obtain ⟨-, y1, y5⟩ := e5 eo
    rw [h4] at y1
    rw [h6] at y5
    have w1 := w1 (by omega)
    have w5 := w5 (by omega)
    have ex : x7 = upd x6 (Q.2.2.1 s.1 s.2.1 1).toNat (s.2.2.2.1 (Q.2.2.1 s.1 s.2.1 5).toNat) := by rw [h10, nnE (show x2.toInt = (((Q.2.2.1 s.1 s.2.1 1).toNat : Nat) : Int) by omega), h8, nnE (show x3.toInt = (((Q.2.2.1 s.1 s.2.1 5).toNat : Nat) : Int) by omega), ← cB_of h7, m5 _ (by omega)]
    have e0 : x8 q0 = F q0 := h11 _ (nek kq k20 (by decide))
    exact ⟨⟨by rw [e0], by rw [e0]⟩, Or.inl ⟨by decide, _, st9_17 eo, rfl, rfl, am_rg hk ha h11 h9 h12 ex⟩⟩
  · intro x1 x2 x3 x4 x5 x6 x7 x8 x9 x10 h1 h2 h3 h4 h5 h6 h7 h8 h9 h10 h11 h12 h13 h14 h15 h16
    rw [h1] at ol e1 e2 e3 e4 e5 e6
    have eo : Q.2.2.1 s.1 s.2.1 0 = 16 := by omega
    obtain ⟨-, y2⟩ := e4 eo
    rw [h7] at y2
    rw [h6] at y2
    have va := vl_r y2 w2.1 w2.2 m4 h8
    rw [h3] at m6
    have hlt : s.2.2.2.2.2.1 < 512 := by have := h4; omega
    have ea : x8 q0 = F q0 := h11 _ (nek kq k22 (by decide))
    have hc := h16
    rw [ea] at hc
    obtain ⟨c25, c9, c10, c11, c23, c24, c26, c27, c30, c32, c34, cr, cm⟩ := cm25 m1 hc
    have fr : ∀ b, b ≠ γ 9 22 → b ≠ q0 → x10 b = F b := fun b z1 z2 => (h15 b z2).trans (h11 b z1)
    refine ⟨⟨by rw [c24, c30, c34], c26⟩, Or.inl ⟨by decide, _, st9_16 eo hlt, rfl, rfl, ?_⟩⟩
    refine ⟨cm, by rw [cr]; exact m2, ⟨p, ?_, m3'⟩, ?_, ?_, ?_, ?_, fun i hi => ?_, hlt, m10⟩
    · rw [cr, fr _ (nek m2 k22 (by decide)) (nek m2 kq (by decide))]; exact m3
    · rw [fr _ (nek k20 k22 (by decide)) (nek k20 kq (by decide))]; exact m4
    · rw [fr _ (nek k21 k22 (by decide)) (nek k21 kq (by decide))]; exact m5
    · rw [c25]
      show _ = ((s.2.2.2.2.2.1 + 1 : Nat) : Int)
      have q := h14
      omega
    · rw [c27]; exact m7
    · have hi' : i < s.2.2.2.2.2.1 + 1 := hi
      rw [h15 _ (nek k22 kq (by decide)), cB_of h12, h10, nnE m6]
      show _ = upd s.2.2.2.2.1 s.2.2.2.2.2.1 (va9 Q s) i
      by_cases c : i = s.2.2.2.2.2.1
      · rw [c, updE, updE]; exact va
      · rw [updN c, updN c, ← cB_of h9]; exact m8 i (by omega)
  · intro x1 x2 h1 h2 h3 h4
    rw [h1] at ol e1 e2 e3 e4 e5 e6
    have eo : Q.2.2.1 s.1 s.2.1 0 = 16 := by omega
    obtain ⟨-, y2⟩ := e4 eo
    rw [h3] at m6
    exact ⟨⟨rfl, rfl⟩, Or.inr ⟨by decide, st9_16x eo (by omega), ha⟩⟩
  · intro x1 x2 x3 x4 x5 x6 x7 x8 h1 h2 h3 h4 h5 h6 h7 h8 h9 h10 h11
    rw [h1] at ol e1 e2 e3 e4 e5 e6
    have eo : Q.2.2.1 s.1 s.2.1 0 = 18 := by omega
    obtain ⟨-, y2, y5⟩ := e6 eo
    rw [h6] at y2
    rw [h4] at y5
    rw [h5] at y2
    have va := vl_r y2 w2.1 w2.2 m4 h7
    have w5 := w5 (by omega)
    have ex : x7 = upd x6 (Q.2.2.1 s.1 s.2.1 5).toNat (va9 Q s) := by rw [h9, nnE (show x2.toInt = (((Q.2.2.1 s.1 s.2.1 5).toNat : Nat) : Int) by omega), show x5 = va9 Q s from va]
    have e0 : x8 q0 = F q0 := h10 _ (nek kq k21 (by decide))
    exact ⟨⟨by rw [e0], by rw [e0]⟩, Or.inl ⟨by decide, _, st9_18 eo, rfl, rfl, am_sl hk ha h10 h8 h11 ex⟩⟩
  · intro x1 x2 x3 x4 x5 x6 x7 x8 x9 x10 x11 x12 x13 h1 h2 h3 h4 h5 h6 h7 h8 h9 h10 h11 h12 h13 h14 h15 h16 h17 h18 h19 h20 h21
    rw [h1] at ol e1 e2 e3 e4 e5 e6
    have l13 : Q.2.2.1 s.1 s.2.1 0 ≤ 13 := by omega
    obtain ⟨y0, y1, y2, y4⟩ := e1 l13
    rw [h16] at y1
    rw [h8] at y2
    rw [h11] at y4
    rw [h7] at y2
    rw [h10] at y4
    have va := vl_r y2 w2.1 w2.2 m4 h9
    have vb := vl_r y4 w4.1 w4.2 m4 h12
    have rs := res_r (by omega) (by omega) h13
    have w1 := w1 (by omega)
    rcases rs with ⟨z, -⟩ | ⟨-, z1, z2⟩
    · exact absurd z h14
    have ex : x12 = upd x11 (Q.2.2.1 s.1 s.2.1 1).toNat (clc (Q.2.2.1 s.1 s.2.1 0) (va9 Q s) (vb9 Q s)) := by
      rw [h19, nnE (show x9.toInt = (((Q.2.2.1 s.1 s.2.1 1).toNat : Nat) : Int) by omega), h17, z2, show x1.toInt - 1 = Q.2.2.1 s.1 s.2.1 0 by omega, show x4 = va9 Q s from va, show x7 = vb9 Q s from vb]
    have nz : ¬ ((Q.2.2.1 s.1 s.2.1 0 = 3 ∨ Q.2.2.1 s.1 s.2.1 0 = 4) ∧ (vb9 Q s).toInt = 0) := by rw [← show x7 = vb9 Q s from vb]; omega
    have e0 : x13 q0 = F q0 := h20 _ (nek kq k20 (by decide))
    exact ⟨⟨by rw [e0], by rw [e0]⟩, Or.inl ⟨by decide, _, st9_c l13 nz, rfl, rfl, am_rg hk ha h20 h18 h21 ex⟩⟩
  · intro x1 x2 x3 x4 x5 x6 x7 x8 h1 h2 h3 h4 h5 h6 h7 h8 h9 h10 h11 h12 h13 h14
    rw [h1] at ol e1 e2 e3 e4 e5 e6
    have l13 : Q.2.2.1 s.1 s.2.1 0 ≤ 13 := by omega
    obtain ⟨y0, y1, y2, y4⟩ := e1 l13
    rw [h8] at y2
    rw [h11] at y4
    rw [h7] at y2
    rw [h10] at y4
    have va := vl_r y2 w2.1 w2.2 m4 h9
    have vb := vl_r y4 w4.1 w4.2 m4 h12
    have rs := res_r (by omega) (by omega) h13
    refine ⟨⟨rfl, rfl⟩, Or.inr ⟨by decide, ?_, ha⟩⟩
    rcases rs with ⟨-, z1, z2⟩ | ⟨z, -⟩
    · exact st9_z (by omega) (by rw [← show x7 = vb9 Q s from vb]; exact z2)
    · exact absurd h14 z
set_option maxHeartbeats 4000000 in
theorem rn54_r {q1 : Nat} {a2 : Int32} {s1 : Nat → va_E} {s2 : Int32} {s3 : Int32} {k : Nat} {e1 : Nat} {e2 : Nat → va_E} {e3 : Int32} {kk : Int32} (hT : RS D I P F γ el) (hm : γ 0 q0 = 10) (hc : γ 0 q1 = 9) (hR6 : γ 6 (γ 1 q1) = Q.1) (hP : rnP Q) (hq : rfX γ el F q1 Q) (h : tl_RModel_run_54 D I γ el P F q1 q0 a2 s1 s2 s3 k e1 e2 e3) : ∀ (s : gM9) (t f : Nat), (fI (s1 q0) 26).toInt = (t : Int) → a2.toInt = ((t + f : Nat) : Int) → s2.toInt = (s.1 : Int) → s3.toInt = (s.2.1 : Int) → s.1 < Q.1 → s.2.1 < Q.2.1 s.1 → am9 I γ q0 inp gn s s1 → (fI (s1 q0) 24, fI (s1 q0) 30, fI (s1 q0) 34) = (0, 0, kk) → ((k = 69 ∧ (rn9 Q inp gn f t s).1 = 4) ∨ (k = 118 ∧ 0 < e3.toInt ∧ (rn9 Q inp gn f t s).1 = e3.toInt) ∨ (k = 144 ∧ (rn9 Q inp gn f t s).1 = 0)) ∧ (k ≠ 144 → (rn9 Q inp gn f t s).2.1 = 0) ∧ (k = 144 → ∀ z, tr_RModel_value D I γ el e2 q0 (fI (e2 e1) 5) (fI (e2 e1) 2) z → z = (rn9 Q inp gn f t s).2.1) ∧ (fI (e2 q0) 26).toInt = ((rn9 Q inp gn f t s).2.2.1 : Int) ∧ am9 I γ q0 inp gn (rn9 Q inp gn f t s).2.2.2 e2 ∧ (fI (e2 q0) 24, fI (e2 q0) 30, fI (e2 q0) 34) = (0, 0, kk) := by
  have hk := kd9_o hT hm
  obtain ⟨kq, k20, k21, k22⟩ := id hk
  have hB2 := hB2_ (Q := Q) hT hc rfl hR6
  refine h (fun s1 s2 s3 k e1 e2 e3 => ∀ (s : gM9) (t f : Nat), (fI (s1 q0) 26).toInt = (t : Int) → a2.toInt = ((t + f : Nat) : Int) → s2.toInt = (s.1 : Int) → s3.toInt = (s.2.1 : Int) → s.1 < Q.1 → s.2.1 < Q.2.1 s.1 → am9 I γ q0 inp gn s s1 → (fI (s1 q0) 24, fI (s1 q0) 30, fI (s1 q0) 34) = (0, 0, kk) → ((k = 69 ∧ (rn9 Q inp gn f t s).1 = 4) ∨ (k = 118 ∧ 0 < e3.toInt ∧ (rn9 Q inp gn f t s).1 = e3.toInt) ∨ (k = 144 ∧ (rn9 Q inp gn f t s).1 = 0)) ∧ (k ≠ 144 → (rn9 Q inp gn f t s).2.1 = 0) ∧ (k = 144 → ∀ z, tr_RModel_value D I γ el e2 q0 (fI (e2 e1) 5) (fI (e2 e1) 2) z → z = (rn9 Q inp gn f t s).2.1) ∧ (fI (e2 q0) 26).toInt = ((rn9 Q inp gn f t s).2.2.1 : Int) ∧ am9 I γ q0 inp gn (rn9 Q inp gn f t s).2.2.2 e2 ∧ (fI (e2 q0) 24, fI (e2 q0) 30, fI (e2 q0) 34) = (0, 0, kk)) ?_ ?_ ?_ ?_ ?_ ?_ ?_
  · intro F_1 l3_1 l4_1 x1 x2 x3 x4 x5 x6 x7 x8 x9 x10 x11 k e1 e2 e3 h1 h2 h3 h4 h5 h6 h7 h8 h9 h10 h11 h12 h13 h14 h15 h16 h17 h18 h19 h20 h21 h22 h23 h24 h25 h26 h27 ih
    intro s t f ht hf hs2 hs3 hb hj ha hz24
    have jT := h3
    have hQ1 : rfX γ el F_1 q1 Q := rfX_rs hT hc rfl (by exact hR6) hq h4 (by decide)
    have ht4 := ht
    rw [h14] at ht4
    obtain ⟨f1, rfl⟩ : ∃ f1, f = f1 + 1 := ⟨f - 1, by have := h15; omega⟩
    obtain ⟨lb, lr, rnn, md, w1, ⟨w2, -⟩, -⟩ := show rk_9 γ el q1 (F_1 q1) from RS_o jT hc
    have ex2 : x2 = el (γ 14 q1) s.1 := by
      rw [h11, ← h10, w1, show l3_1.toInt.toNat = s.1 by rw [hs2]; rfl]
      show el lb s.1 = _
      rw [w2]
    have kb : γ 0 x2 = 2 := by rw [ex2]; exact hB2 _ hb
    obtain ⟨c26, c9, c10, c11, c23, c24, c25, c27, c30, c32, c34, cr, cm⟩ := cm26 ha.1 h18
    have f6 := h17
    have a6 : am9 I γ q0 inp gn s x6 := am_q hk ha f6 cm cr rfl rfl rfl rfl (by rw [c25]; exact ha.2.2.2.2.2.1) (by rw [c27]; exact ha.2.2.2.2.2.2.1) ha.2.2.2.2.2.2.2.2.2
    have eb6 : x6 x2 = F_1 x2 := f6 _ (nek kb kq (by decide))
    obtain ⟨ll, nn, pp, ss, v1, ⟨g1, g2, g3⟩, v3, v4, v5, -⟩ := show rk_2 γ x2 (F_1 x2) from RS_o jT kb
    have ex7 : x7 = rwL γ el q1 s.1 := by
      rw [← h19, eb6, v1]
      show ll = γ 14 (el (γ 14 q1) s.1)
      rw [← ex2, g1]
    have mlen : γ 2 (rwL γ el q1 s.1) + 1 = Q.2.1 s.1 := (hQ1.2.1 s.1 hb).1
    have hx8 := h20
    rw [ex7] at hx8
    have t1 : x5.toInt = ((t + 1 : Nat) : Int) := by have := h16; omega
    have ej : s.2.1 = γ 2 (rwL γ el q1 s.1) := by omega
    have e9 : x9 = rAt γ el q1 s.1 s.2.1 := by
      rw [← h23, eb6, v1]
      show nn = _
      rw [show rAt γ el q1 s.1 s.2.1 = γ 15 (el (γ 14 q1) s.1) from if_neg (by omega), ← ex2, g2]
    have k9 : γ 0 x9 = 1 := by rw [e9]; exact (rAt_k jT hc rfl (by omega)).1
    have hr := rn_row hP hb hj
    have hG : 19 ≤ Q.2.2.1 s.1 s.2.1 0 ∧ edO (Q.2.2.1 s.1 s.2.1) ∧ edG (Q.2.2.1 s.1 s.2.1 0) (Q.2.2.2 s.1 0) (Q.2.2.2 s.1 1) := by
      rcases hr with z | z
      · omega
      · exact ⟨z.1, z.2.2⟩
    obtain ⟨hG1, ⟨d1, d2, d4, d5⟩, hG3⟩ := hG
    have hl : edR (Q.2.2.1 s.1 s.2.1) (fI (x6 x9) 0) (fI (x6 x9) 2) (fI (x6 x9) 5) := by
      have q := hQ1.2.2 s.1 hb s.2.1 (by omega)
      have q' : lnX (rwB Q s.1 s.2.1) (Q.2.2.1 s.1 s.2.1) (F_1 (rAt γ el q1 s.1 s.2.1)) := q
      rw [show rwB Q s.1 s.2.1 = false from decide_eq_false (by omega), ← e9] at q'
      rw [f6 _ (nek k9 kq (by decide))]
      exact q'
    obtain ⟨r19, r20, r21⟩ := hl
    have gl : gLX (Q.2.2.1 s.1 s.2.1 0) (Q.2.2.2 s.1) (fI (x6 x2) 2) (fI (x6 x2) 3) := by
      have q := (hQ1.2.1 s.1 hb).2
      rw [show Q.2.1 s.1 - 1 = s.2.1 by omega, ← ex2] at q
      rw [eb6]; exact q
    rw [h24] at r19 r20 r21
    have eo : Q.2.2.1 s.1 s.2.1 0 = 19 := by
      unfold edG at hG3
      rcases hG3 with z | z | z
      · exact z.1
      · have := (r20 z.1).1; omega
      · have := (r21 z.1).1; omega
    obtain ⟨g, y1, y2, y3⟩ := rn_g (i := 0) hP hb (by decide) (by unfold edG at hG3; omega)
    rw [rn9_n (st9_19 eo)]
    have eg : (Q.2.2.2 s.1 0).toNat = g := by rw [y1]; rfl
    refine ih (go9 s (Q.2.2.2 s.1 0)) (t + 1) f1 (by rw [c26]; exact t1) (by omega) ?_ (by show Int32.toInt 0 = (0 : Int); decide) (by show (Q.2.2.2 s.1 0).toNat < Q.1; omega) (by show 0 < Q.2.1 (Q.2.2.2 s.1 0).toNat; rw [eg]; exact y3) a6 (by rw [c24, c30, c34]; exact hz24)
    rw [← h27, (gl.1 eo).1, y1]
    show (g : Int) = (((g : Int).toNat : Nat) : Int)
    rfl
  · intro F_1 l3_1 l4_1 x1 x2 x3 x4 x5 x6 x7 x8 x9 x10 x11 x12 x13 x14 k e1 e2 e3 h1 h2 h3 h4 h5 h6 h7 h8 h9 h10 h11 h12 h13 h14 h15 h16 h17 h18 h19 h20 h21 h22 h23 h24 h25 h26 h27 h28 h29 h30 h31 ih
    intro s t f ht hf hs2 hs3 hb hj ha hz24
    have jT := h3
    have hQ1 : rfX γ el F_1 q1 Q := rfX_rs hT hc rfl (by exact hR6) hq h4 (by decide)
    have ht4 := ht
    rw [h14] at ht4
    obtain ⟨f1, rfl⟩ : ∃ f1, f = f1 + 1 := ⟨f - 1, by have := h15; omega⟩
    obtain ⟨lb, lr, rnn, md, w1, ⟨w2, -⟩, -⟩ := show rk_9 γ el q1 (F_1 q1) from RS_o jT hc
    have ex2 : x2 = el (γ 14 q1) s.1 := by
      rw [h11, ← h10, w1, show l3_1.toInt.toNat = s.1 by rw [hs2]; rfl]
      show el lb s.1 = _
      rw [w2]
    have kb : γ 0 x2 = 2 := by rw [ex2]; exact hB2 _ hb
    obtain ⟨c26, c9, c10, c11, c23, c24, c25, c27, c30, c32, c34, cr, cm⟩ := cm26 ha.1 h18
    have f6 := h17
    have a6 : am9 I γ q0 inp gn s x6 := am_q hk ha f6 cm cr rfl rfl rfl rfl (by rw [c25]; exact ha.2.2.2.2.2.1) (by rw [c27]; exact ha.2.2.2.2.2.2.1) ha.2.2.2.2.2.2.2.2.2
    have eb6 : x6 x2 = F_1 x2 := f6 _ (nek kb kq (by decide))
    obtain ⟨ll, nn, pp, ss, v1, ⟨g1, g2, g3⟩, v3, v4, v5, -⟩ := show rk_2 γ x2 (F_1 x2) from RS_o jT kb
    have ex7 : x7 = rwL γ el q1 s.1 := by
      rw [← h19, eb6, v1]
      show ll = γ 14 (el (γ 14 q1) s.1)
      rw [← ex2, g1]
    have mlen : γ 2 (rwL γ el q1 s.1) + 1 = Q.2.1 s.1 := (hQ1.2.1 s.1 hb).1
    have hx8 := h20
    rw [ex7] at hx8
    have t1 : x5.toInt = ((t + 1 : Nat) : Int) := by have := h16; omega
    have ej : s.2.1 = γ 2 (rwL γ el q1 s.1) := by omega
    have e9 : x9 = rAt γ el q1 s.1 s.2.1 := by
      rw [← h23, eb6, v1]
      show nn = _
      rw [show rAt γ el q1 s.1 s.2.1 = γ 15 (el (γ 14 q1) s.1) from if_neg (by omega), ← ex2, g2]
    have k9 : γ 0 x9 = 1 := by rw [e9]; exact (rAt_k jT hc rfl (by omega)).1
    have hr := rn_row hP hb hj
    have hG : 19 ≤ Q.2.2.1 s.1 s.2.1 0 ∧ edO (Q.2.2.1 s.1 s.2.1) ∧ edG (Q.2.2.1 s.1 s.2.1 0) (Q.2.2.2 s.1 0) (Q.2.2.2 s.1 1) := by
      rcases hr with z | z
      · omega
      · exact ⟨z.1, z.2.2⟩
    obtain ⟨hG1, ⟨d1, d2, d4, d5⟩, hG3⟩ := hG
    have hl : edR (Q.2.2.1 s.1 s.2.1) (fI (x6 x9) 0) (fI (x6 x9) 2) (fI (x6 x9) 5) := by
      have q := hQ1.2.2 s.1 hb s.2.1 (by omega)
      have q' : lnX (rwB Q s.1 s.2.1) (Q.2.2.1 s.1 s.2.1) (F_1 (rAt γ el q1 s.1 s.2.1)) := q
      rw [show rwB Q s.1 s.2.1 = false from decide_eq_false (by omega), ← e9] at q'
      rw [f6 _ (nek k9 kq (by decide))]
      exact q'
    obtain ⟨r19, r20, r21⟩ := hl
    have gl : gLX (Q.2.2.1 s.1 s.2.1 0) (Q.2.2.2 s.1) (fI (x6 x2) 2) (fI (x6 x2) 3) := by
      have q := (hQ1.2.1 s.1 hb).2
      rw [show Q.2.1 s.1 - 1 = s.2.1 by omega, ← ex2] at q
      rw [eb6]; exact q
    rw [h24] at r19 r20 r21
    have eo : Q.2.2.1 s.1 s.2.1 0 = 20 := by
      unfold edG at hG3
      rcases hG3 with z | z | z
      · have := r19 z.1; omega
      · exact z.1
      · have := (r21 z.1).1; omega
    have r20' := (r20 eo).2
    rw [h27, h28] at r20'
    have va : x13 = va9 Q s := vl_r r20' d2.1 d2.2 a6.2.2.2.1 h29
    have vz := h30
    rw [va] at vz
    obtain ⟨g, y1, y2, y3⟩ := rn_g (i := 1) hP hb (by decide) (by unfold edG at hG3; omega)
    rw [rn9_n (st9_20 eo), if_pos vz]
    have eg : (Q.2.2.2 s.1 1).toNat = g := by rw [y1]; rfl
    refine ih (go9 s (Q.2.2.2 s.1 1)) (t + 1) f1 (by rw [c26]; exact t1) (by omega) ?_ (by show Int32.toInt 0 = (0 : Int); decide) (by show (Q.2.2.2 s.1 1).toNat < Q.1; omega) (by show 0 < Q.2.1 (Q.2.2.2 s.1 1).toNat; rw [eg]; exact y3) a6 (by rw [c24, c30, c34]; exact hz24)
    rw [← h31, (gl.2 eo).2, y1]
    show (g : Int) = (((g : Int).toNat : Nat) : Int)
    rfl
  · intro F_1 l3_1 l4_1 x1 x2 x3 x4 x5 x6 x7 x8 x9 x10 x11 x12 x13 x14 k e1 e2 e3 h1 h2 h3 h4 h5 h6 h7 h8 h9 h10 h11 h12 h13 h14 h15 h16 h17 h18 h19 h20 h21 h22 h23 h24 h25 h26 h27 h28 h29 h30 h31 ih
    intro s t f ht hf hs2 hs3 hb hj ha hz24
    have jT := h3
    have hQ1 : rfX γ el F_1 q1 Q := rfX_rs hT hc rfl (by exact hR6) hq h4 (by decide)
    have ht4 := ht
    rw [h14] at ht4
    obtain ⟨f1, rfl⟩ : ∃ f1, f = f1 + 1 := ⟨f - 1, by have := h15; omega⟩
    obtain ⟨lb, lr, rnn, md, w1, ⟨w2, -⟩, -⟩ := show rk_9 γ el q1 (F_1 q1) from RS_o jT hc
    have ex2 : x2 = el (γ 14 q1) s.1 := by
      rw [h11, ← h10, w1, show l3_1.toInt.toNat = s.1 by rw [hs2]; rfl]
      show el lb s.1 = _
      rw [w2]
    have kb : γ 0 x2 = 2 := by rw [ex2]; exact hB2 _ hb
    obtain ⟨c26, c9, c10, c11, c23, c24, c25, c27, c30, c32, c34, cr, cm⟩ := cm26 ha.1 h18
    have f6 := h17
    have a6 : am9 I γ q0 inp gn s x6 := am_q hk ha f6 cm cr rfl rfl rfl rfl (by rw [c25]; exact ha.2.2.2.2.2.1) (by rw [c27]; exact ha.2.2.2.2.2.2.1) ha.2.2.2.2.2.2.2.2.2
    have eb6 : x6 x2 = F_1 x2 := f6 _ (nek kb kq (by decide))
    obtain ⟨ll, nn, pp, ss, v1, ⟨g1, g2, g3⟩, v3, v4, v5, -⟩ := show rk_2 γ x2 (F_1 x2) from RS_o jT kb
    have ex7 : x7 = rwL γ el q1 s.1 := by
      rw [← h19, eb6, v1]
      show ll = γ 14 (el (γ 14 q1) s.1)
      rw [← ex2, g1]
    have mlen : γ 2 (rwL γ el q1 s.1) + 1 = Q.2.1 s.1 := (hQ1.2.1 s.1 hb).1
    have hx8 := h20
    rw [ex7] at hx8
    have t1 : x5.toInt = ((t + 1 : Nat) : Int) := by have := h16; omega
    have ej : s.2.1 = γ 2 (rwL γ el q1 s.1) := by omega
    have e9 : x9 = rAt γ el q1 s.1 s.2.1 := by
      rw [← h23, eb6, v1]
      show nn = _
      rw [show rAt γ el q1 s.1 s.2.1 = γ 15 (el (γ 14 q1) s.1) from if_neg (by omega), ← ex2, g2]
    have k9 : γ 0 x9 = 1 := by rw [e9]; exact (rAt_k jT hc rfl (by omega)).1
    have hr := rn_row hP hb hj
    have hG : 19 ≤ Q.2.2.1 s.1 s.2.1 0 ∧ edO (Q.2.2.1 s.1 s.2.1) ∧ edG (Q.2.2.1 s.1 s.2.1 0) (Q.2.2.2 s.1 0) (Q.2.2.2 s.1 1) := by
      rcases hr with z | z
      · omega
      · exact ⟨z.1, z.2.2⟩
    obtain ⟨hG1, ⟨d1, d2, d4, d5⟩, hG3⟩ := hG
    have hl : edR (Q.2.2.1 s.1 s.2.1) (fI (x6 x9) 0) (fI (x6 x9) 2) (fI (x6 x9) 5) := by
      have q := hQ1.2.2 s.1 hb s.2.1 (by omega)
      have q' : lnX (rwB Q s.1 s.2.1) (Q.2.2.1 s.1 s.2.1) (F_1 (rAt γ el q1 s.1 s.2.1)) := q
      rw [show rwB Q s.1 s.2.1 = false from decide_eq_false (by omega), ← e9] at q'
      rw [f6 _ (nek k9 kq (by decide))]
      exact q'
    obtain ⟨r19, r20, r21⟩ := hl
    have gl : gLX (Q.2.2.1 s.1 s.2.1 0) (Q.2.2.2 s.1) (fI (x6 x2) 2) (fI (x6 x2) 3) := by
      have q := (hQ1.2.1 s.1 hb).2
      rw [show Q.2.1 s.1 - 1 = s.2.1 by omega, ← ex2] at q
      rw [eb6]; exact q
    rw [h24] at r19 r20 r21
    have eo : Q.2.2.1 s.1 s.2.1 0 = 20 := by
      unfold edG at hG3
      rcases hG3 with z | z | z
      · have := r19 z.1; omega
      · exact z.1
      · have := (r21 z.1).1; omega
    have r20' := (r20 eo).2
    rw [h27, h28] at r20'
    have va : x13 = va9 Q s := vl_r r20' d2.1 d2.2 a6.2.2.2.1 h29
    have vz := h30
    rw [va] at vz
    obtain ⟨g, y1, y2, y3⟩ := rn_g (i := 0) hP hb (by decide) (by unfold edG at hG3; omega)
    rw [rn9_n (st9_20 eo), if_neg vz]
    have eg : (Q.2.2.2 s.1 0).toNat = g := by rw [y1]; rfl
    refine ih (go9 s (Q.2.2.2 s.1 0)) (t + 1) f1 (by rw [c26]; exact t1) (by omega) ?_ (by show Int32.toInt 0 = (0 : Int); decide) (by show (Q.2.2.2 s.1 0).toNat < Q.1; omega) (by show 0 < Q.2.1 (Q.2.2.2 s.1 0).toNat; rw [eg]; exact y3) a6 (by rw [c24, c30, c34]; exact hz24)
    rw [← h31, (gl.2 eo).1, y1]
    show (g : Int) = (((g : Int).toNat : Nat) : Int)
    rfl
  · intro F_1 l3_1 l4_1 x1 x2 x3 x4 x5 x6 x7 x8 x9 x10 h1 h2 h3 h4 h5 h6 h7 h8 h9 h10 h11 h12 h13 h14 h15 h16 h17 h18 h19 h20 h21 h22 h23 h24 h25
    intro s t f ht hf hs2 hs3 hb hj ha hz24
    have jT := h3
    have hQ1 : rfX γ el F_1 q1 Q := rfX_rs hT hc rfl (by exact hR6) hq h4 (by decide)
    have ht4 := ht
    rw [h14] at ht4
    obtain ⟨f1, rfl⟩ : ∃ f1, f = f1 + 1 := ⟨f - 1, by have := h15; omega⟩
    obtain ⟨lb, lr, rnn, md, w1, ⟨w2, -⟩, -⟩ := show rk_9 γ el q1 (F_1 q1) from RS_o jT hc
    have ex2 : x2 = el (γ 14 q1) s.1 := by
      rw [h11, ← h10, w1, show l3_1.toInt.toNat = s.1 by rw [hs2]; rfl]
      show el lb s.1 = _
      rw [w2]
    have kb : γ 0 x2 = 2 := by rw [ex2]; exact hB2 _ hb
    obtain ⟨c26, c9, c10, c11, c23, c24, c25, c27, c30, c32, c34, cr, cm⟩ := cm26 ha.1 h18
    have f6 := h17
    have a6 : am9 I γ q0 inp gn s x6 := am_q hk ha f6 cm cr rfl rfl rfl rfl (by rw [c25]; exact ha.2.2.2.2.2.1) (by rw [c27]; exact ha.2.2.2.2.2.2.1) ha.2.2.2.2.2.2.2.2.2
    have eb6 : x6 x2 = F_1 x2 := f6 _ (nek kb kq (by decide))
    obtain ⟨ll, nn, pp, ss, v1, ⟨g1, g2, g3⟩, v3, v4, v5, -⟩ := show rk_2 γ x2 (F_1 x2) from RS_o jT kb
    have ex7 : x7 = rwL γ el q1 s.1 := by
      rw [← h19, eb6, v1]
      show ll = γ 14 (el (γ 14 q1) s.1)
      rw [← ex2, g1]
    have mlen : γ 2 (rwL γ el q1 s.1) + 1 = Q.2.1 s.1 := (hQ1.2.1 s.1 hb).1
    have hx8 := h20
    rw [ex7] at hx8
    have t1 : x5.toInt = ((t + 1 : Nat) : Int) := by have := h16; omega
    have ej : s.2.1 = γ 2 (rwL γ el q1 s.1) := by omega
    have e9 : x9 = rAt γ el q1 s.1 s.2.1 := by
      rw [← h23, eb6, v1]
      show nn = _
      rw [show rAt γ el q1 s.1 s.2.1 = γ 15 (el (γ 14 q1) s.1) from if_neg (by omega), ← ex2, g2]
    have k9 : γ 0 x9 = 1 := by rw [e9]; exact (rAt_k jT hc rfl (by omega)).1
    have hr := rn_row hP hb hj
    have hG : 19 ≤ Q.2.2.1 s.1 s.2.1 0 ∧ edO (Q.2.2.1 s.1 s.2.1) ∧ edG (Q.2.2.1 s.1 s.2.1 0) (Q.2.2.2 s.1 0) (Q.2.2.2 s.1 1) := by
      rcases hr with z | z
      · omega
      · exact ⟨z.1, z.2.2⟩
    obtain ⟨hG1, ⟨d1, d2, d4, d5⟩, hG3⟩ := hG
    have hl : edR (Q.2.2.1 s.1 s.2.1) (fI (x6 x9) 0) (fI (x6 x9) 2) (fI (x6 x9) 5) := by
      have q := hQ1.2.2 s.1 hb s.2.1 (by omega)
      have q' : lnX (rwB Q s.1 s.2.1) (Q.2.2.1 s.1 s.2.1) (F_1 (rAt γ el q1 s.1 s.2.1)) := q
      rw [show rwB Q s.1 s.2.1 = false from decide_eq_false (by omega), ← e9] at q'
      rw [f6 _ (nek k9 kq (by decide))]
      exact q'
    obtain ⟨r19, r20, r21⟩ := hl
    have gl : gLX (Q.2.2.1 s.1 s.2.1 0) (Q.2.2.2 s.1) (fI (x6 x2) 2) (fI (x6 x2) 3) := by
      have q := (hQ1.2.1 s.1 hb).2
      rw [show Q.2.1 s.1 - 1 = s.2.1 by omega, ← ex2] at q
      rw [eb6]; exact q
    rw [h24] at r19 r20 r21
    have eo : Q.2.2.1 s.1 s.2.1 0 = 21 := by
      unfold edG at hG3
      rcases hG3 with z | z | z
      · have := r19 z.1; omega
      · have := (r20 z.1).1; omega
      · exact z.1
    rw [rn9_s (st9_21 eo)]
    exact ⟨Or.inr (Or.inr ⟨rfl, rfl⟩), fun z => absurd rfl z, fun _ z hz => vl_r (r21 eo).2 d2.1 d2.2 a6.2.2.2.1 hz, by rw [c26]; exact t1, a6, by rw [c24, c30, c34]; exact hz24⟩
  · intro F_1 l3_1 l4_1 x1 x2 x3 x4 x5 x6 x7 x8 x9 x10 x11 x12 k e1 e2 e3 h1 h2 h3 h4 h5 h6 h7 h8 h9 h10 h11 h12 h13 h14 h15 h16 h17 h18 h19 h20 h21 h22 h23 h24 h25 h26 h27 h28 h29 h30 h31 h32 h33 h34 ih
    intro s t f ht hf hs2 hs3 hb hj ha hz24
    have jT := h3
    have hQ1 : rfX γ el F_1 q1 Q := rfX_rs hT hc rfl (by exact hR6) hq h4 (by decide)
    have ht4 := ht
    rw [h14] at ht4
    obtain ⟨f1, rfl⟩ : ∃ f1, f = f1 + 1 := ⟨f - 1, by have := h15; omega⟩
    obtain ⟨lb, lr, rnn, md, w1, ⟨w2, -⟩, -⟩ := show rk_9 γ el q1 (F_1 q1) from RS_o jT hc
    have ex2 : x2 = el (γ 14 q1) s.1 := by
      rw [h11, ← h10, w1, show l3_1.toInt.toNat = s.1 by rw [hs2]; rfl]
      show el lb s.1 = _
      rw [w2]
    have kb : γ 0 x2 = 2 := by rw [ex2]; exact hB2 _ hb
    obtain ⟨c26, c9, c10, c11, c23, c24, c25, c27, c30, c32, c34, cr, cm⟩ := cm26 ha.1 h18
    have f6 := h17
    have a6 : am9 I γ q0 inp gn s x6 := am_q hk ha f6 cm cr rfl rfl rfl rfl (by rw [c25]; exact ha.2.2.2.2.2.1) (by rw [c27]; exact ha.2.2.2.2.2.2.1) ha.2.2.2.2.2.2.2.2.2
    have eb6 : x6 x2 = F_1 x2 := f6 _ (nek kb kq (by decide))
    obtain ⟨ll, nn, pp, ss, v1, ⟨g1, g2, g3⟩, v3, v4, v5, -⟩ := show rk_2 γ x2 (F_1 x2) from RS_o jT kb
    have ex7 : x7 = rwL γ el q1 s.1 := by
      rw [← h19, eb6, v1]
      show ll = γ 14 (el (γ 14 q1) s.1)
      rw [← ex2, g1]
    have mlen : γ 2 (rwL γ el q1 s.1) + 1 = Q.2.1 s.1 := (hQ1.2.1 s.1 hb).1
    have hx8 := h20
    rw [ex7] at hx8
    have t1 : x5.toInt = ((t + 1 : Nat) : Int) := by have := h16; omega
    have hj2 : s.2.1 < γ 2 (rwL γ el q1 s.1) := by omega
    have e9 : x9 = rAt γ el q1 s.1 s.2.1 := by
      rw [h23, ex7, show l4_1.toInt.toNat = s.2.1 by rw [hs3]; rfl]
      exact (if_pos hj2).symm
    have k9 : γ 0 x9 = 1 := by rw [e9]; exact (rAt_k jT hc rfl (by omega)).1
    have hr := rn_row hP hb hj
    have hO : rnO (Q.2.2.1 s.1 s.2.1) := by
      rcases hr with z | z
      · exact z.2.2
      · omega
    have hl : lnX true (Q.2.2.1 s.1 s.2.1) (x6 x9) := by
      have q := hQ1.2.2 s.1 hb s.2.1 (by omega)
      have q' : lnX (rwB Q s.1 s.2.1) (Q.2.2.1 s.1 s.2.1) (F_1 (rAt γ el q1 s.1 s.2.1)) := q
      rw [show rwB Q s.1 s.2.1 = true from decide_eq_true (by omega), ← e9] at q'
      rw [f6 _ (nek k9 kq (by decide))]
      exact q'
    obtain ⟨⟨u1, u2⟩, u3⟩ := stp_r hk a6 hO hl h32
    rcases u3 with ⟨-, s2', z1, z2, z3, z4⟩ | ⟨z1, -⟩
    · rw [rn9_n z1]
      exact ih s2' (t + 1) f1 (by rw [u2, c26]; exact t1) (by omega) (by rw [z2]; exact hs2) (by rw [z3]; have := h34; omega) (by rw [z2]; exact hb) (by rw [z2, z3]; omega) z4 (u1.trans (by rw [c24, c30, c34]; exact hz24))
    · have := h33; omega
  · intro F_1 l3_1 l4_1 x1 x2 x3 x4 x5 x6 x7 x8 x9 x10 x11 h1 h2 h3 h4 h5 h6 h7 h8 h9 h10 h11 h12 h13 h14 h15 h16 h17 h18 h19 h20 h21 h22 h23 h24 h25 h26 h27 h28 h29 h30 h31 h32 h33
    intro s t f ht hf hs2 hs3 hb hj ha hz24
    have jT := h3
    have hQ1 : rfX γ el F_1 q1 Q := rfX_rs hT hc rfl (by exact hR6) hq h4 (by decide)
    have ht4 := ht
    rw [h14] at ht4
    obtain ⟨f1, rfl⟩ : ∃ f1, f = f1 + 1 := ⟨f - 1, by have := h15; omega⟩
    obtain ⟨lb, lr, rnn, md, w1, ⟨w2, -⟩, -⟩ := show rk_9 γ el q1 (F_1 q1) from RS_o jT hc
    have ex2 : x2 = el (γ 14 q1) s.1 := by
      rw [h11, ← h10, w1, show l3_1.toInt.toNat = s.1 by rw [hs2]; rfl]
      show el lb s.1 = _
      rw [w2]
    have kb : γ 0 x2 = 2 := by rw [ex2]; exact hB2 _ hb
    obtain ⟨c26, c9, c10, c11, c23, c24, c25, c27, c30, c32, c34, cr, cm⟩ := cm26 ha.1 h18
    have f6 := h17
    have a6 : am9 I γ q0 inp gn s x6 := am_q hk ha f6 cm cr rfl rfl rfl rfl (by rw [c25]; exact ha.2.2.2.2.2.1) (by rw [c27]; exact ha.2.2.2.2.2.2.1) ha.2.2.2.2.2.2.2.2.2
    have eb6 : x6 x2 = F_1 x2 := f6 _ (nek kb kq (by decide))
    obtain ⟨ll, nn, pp, ss, v1, ⟨g1, g2, g3⟩, v3, v4, v5, -⟩ := show rk_2 γ x2 (F_1 x2) from RS_o jT kb
    have ex7 : x7 = rwL γ el q1 s.1 := by
      rw [← h19, eb6, v1]
      show ll = γ 14 (el (γ 14 q1) s.1)
      rw [← ex2, g1]
    have mlen : γ 2 (rwL γ el q1 s.1) + 1 = Q.2.1 s.1 := (hQ1.2.1 s.1 hb).1
    have hx8 := h20
    rw [ex7] at hx8
    have t1 : x5.toInt = ((t + 1 : Nat) : Int) := by have := h16; omega
    have hj2 : s.2.1 < γ 2 (rwL γ el q1 s.1) := by omega
    have e9 : x9 = rAt γ el q1 s.1 s.2.1 := by
      rw [h23, ex7, show l4_1.toInt.toNat = s.2.1 by rw [hs3]; rfl]
      exact (if_pos hj2).symm
    have k9 : γ 0 x9 = 1 := by rw [e9]; exact (rAt_k jT hc rfl (by omega)).1
    have hr := rn_row hP hb hj
    have hO : rnO (Q.2.2.1 s.1 s.2.1) := by
      rcases hr with z | z
      · exact z.2.2
      · omega
    have hl : lnX true (Q.2.2.1 s.1 s.2.1) (x6 x9) := by
      have q := hQ1.2.2 s.1 hb s.2.1 (by omega)
      have q' : lnX (rwB Q s.1 s.2.1) (Q.2.2.1 s.1 s.2.1) (F_1 (rAt γ el q1 s.1 s.2.1)) := q
      rw [show rwB Q s.1 s.2.1 = true from decide_eq_true (by omega), ← e9] at q'
      rw [f6 _ (nek k9 kq (by decide))]
      exact q'
    obtain ⟨⟨u1, u2⟩, u3⟩ := stp_r hk a6 hO hl h32
    rcases u3 with ⟨z1, -⟩ | ⟨z1, z2, z3⟩
    · have := h33; omega
    · rw [rn9_s z2]
      exact ⟨Or.inr (Or.inl ⟨rfl, z1, rfl⟩), fun _ => rfl, fun z => (nomatch z), by rw [u2, c26]; exact t1, z3, u1.trans (by rw [c24, c30, c34]; exact hz24)⟩
  · intro F_1 l3_1 l4_1 x1 x2 x3 x4 h1 h2 h3 h4 h5 h6 h7 h8 h9 h10 h11 h12 h13 h14 h15
    intro s t f ht hf hs2 hs3 hb hj ha hz24
    have jT := h3
    have hQ1 : rfX γ el F_1 q1 Q := rfX_rs hT hc rfl (by exact hR6) hq h4 (by decide)
    have ht4 := ht
    rw [h14] at ht4
    have f0 : f = 0 := by omega
    rw [f0, rn9_0]
    exact ⟨Or.inl ⟨rfl, rfl⟩, fun _ => rfl, fun z => (nomatch z), ht, ha, hz24⟩
theorem rn2_r {s1 : Nat → va_E} {s2 : Int32} {k : Nat} {e1 : Nat → va_E} (hk : kd9 γ q0) (h : tl_RModel_run_2 D I γ el P F q0 s1 s2 k e1) : ∀ m : Nat, s2.toInt = (m : Int) → m ≤ 2000 → (∀ i, i < m → cB (s1 (γ 9 20)) i = 0) → (∀ i, i < m → cB (s1 (γ 9 21)) i = 0) → (∀ i, i < 2000 → cB (e1 (γ 9 20)) i = 0) ∧ (∀ i, i < 2000 → cB (e1 (γ 9 21)) i = 0) ∧ ∀ b, b ≠ γ 9 20 → b ≠ γ 9 21 → e1 b = s1 b := by
  obtain ⟨kq, k20, k21, k22⟩ := hk
  refine h (fun s1 s2 k e1 => ∀ m : Nat, s2.toInt = (m : Int) → m ≤ 2000 → (∀ i, i < m → cB (s1 (γ 9 20)) i = 0) → (∀ i, i < m → cB (s1 (γ 9 21)) i = 0) → (∀ i, i < 2000 → cB (e1 (γ 9 20)) i = 0) ∧ (∀ i, i < 2000 → cB (e1 (γ 9 21)) i = 0) ∧ ∀ b, b ≠ γ 9 20 → b ≠ γ 9 21 → e1 b = s1 b) ?_ ?_
  · intro F_1 l3_1 h1 h2 h3 h4 h5 h6 h7
    intro m hm hm2 z0 z1
    have e : m = 2000 := by omega
    rw [e] at z0 z1
    exact ⟨z0, z1, fun _ _ _ => rfl⟩
  · intro F_1 l3_1 x1 x2 x3 x4 x5 x6 x7 k e1 h1 h2 h3 h4 h5 h6 h7 h8 h9 h10 h11 h12 h13 h14 h15 h16 h17 h18 ih
    intro m hm hm2 z0 z1
    have e20 : x6 (γ 9 20) = x3 (γ 9 20) := h16 _ (nek k20 k21 (by decide))
    have e21 : x3 (γ 9 21) = F_1 (γ 9 21) := h11 _ (nek k21 k20 (by decide))
    obtain ⟨i1, i2, i3⟩ := ih (m + 1) (by rw [h18]; omega) (by omega) (fun i hi => by
      rw [e20, cB_of h12, h10, nnE hm]
      by_cases c : i = m
      · rw [c, updE]
      · rw [updN c, ← cB_of h9]; exact z0 i (by omega)) (fun i hi => by
      rw [cB_of h17, h15, nnE hm]
      by_cases c : i = m
      · rw [c, updE]
      · rw [updN c, ← cB_of h14, e21]; exact z1 i (by omega))
    exact ⟨i1, i2, fun b h20 h21 => (i3 b h20 h21).trans ((h16 b h21).trans (h11 b h20))⟩
theorem m28_9 (hT : RS D I P F γ el) (hm : γ 0 q0 = 10) : γ 0 (fR (F q0) 28) = 98 := by
  obtain ⟨r28, r35, v9, v10, v11, v12, v13, v14, v23, v24, v25, v26, v27, v30, v32, v33, v34, he, hM1, hK, hM2⟩ := rk10_m (show rk_10 γ (F q0) from RS_o hT hm)
  rw [he]
  exact hK.1
theorem md_c9 (hT : RS D I P F γ el) (hm : γ 0 q0 = 10) : (γ 0 (γ 9 6) = 9 ∧ γ 0 (γ 9 7) = 9) ∧ γ 1 (γ 9 6) = 0 ∧ γ 1 (γ 9 7) = 1 := by
  obtain ⟨r28, r35, v9, v10, v11, v12, v13, v14, v23, v24, v25, v26, v27, v30, v32, v33, v34, he, hM1, hK, hM2⟩ := rk10_m (show rk_10 γ (F q0) from RS_o hT hm)
  obtain ⟨k0, k1, k2, k3, k4, k5, k6, k7, k8, k9, k10, k11, k12, k13, k14, k15, k16, k17, k18, kW, k20, k21, k22, k23⟩ := hK
  exact ⟨⟨k8, k9⟩, k21, k22⟩
theorem run_r {q1 : Nat} {a2 : Int32} {o1 : Int32} {o2 : Nat → va_E} (hT : RS D I P F γ el) (hm : γ 0 q0 = 10) (hc : γ 0 q1 = 9) (hR6 : γ 6 (γ 1 q1) = Q.1) (hP : rnP Q) (hq : rfX γ el F q1 Q) (hin : inP9 I F q0 inp gn) (h0 : 0 ≤ a2.toInt) (h30 : fI (F q0) 30 = 0) (h : tr_RModel_run D I γ el P F q0 q1 a2 o1 o2) : ∃ r, r = rn9 Q inp gn a2.toInt.toNat 0 in9 ∧ o1.toInt = r.1 ∧ (fI (o2 q0) 24 = r.2.1 ∧ (fI (o2 q0) 30 = 0 ∧ fI (o2 q0) 34 = fI (F q0) 34) ∧ (r.1 ≠ 0 → r.2.1 = 0)) ∧ (fI (o2 q0) 26).toInt = (r.2.2.1 : Int) ∧ am9 I γ q0 inp gn r.2.2.2 o2 := by
  have hk := kd9_o hT hm
  obtain ⟨kq, k20, k21, k22⟩ := id hk
  have mM : isMd γ (F q0) := isMd_o (RS_o hT hm)
  have m28 : γ 0 (fR (F q0) 28) = 98 := m28_9 hT hm
  refine h (fun o1 o2 => ∃ r, r = rn9 Q inp gn a2.toInt.toNat 0 in9 ∧ o1.toInt = r.1 ∧ (fI (o2 q0) 24 = r.2.1 ∧ (fI (o2 q0) 30 = 0 ∧ fI (o2 q0) 34 = fI (F q0) 34) ∧ (r.1 ≠ 0 → r.2.1 = 0)) ∧ (fI (o2 q0) 26).toInt = (r.2.2.1 : Int) ∧ am9 I γ q0 inp gn r.2.2.2 o2) ?_ ?_ ?_
  · intro x1 x2 x3 x4 x5 x6 x7 x8 x9 x10 x11 h1 h2 h3 h4 h5 h6 h7 h8 h9 h10 h11 h12 h13 h14 h15
    obtain ⟨z0, z1, z2⟩ := rn2_r hk h1 0 (by decide) (by decide) (fun i hi => absurd hi (Nat.not_lt_zero i)) (fun i hi => absurd hi (Nat.not_lt_zero i))
    have e1 : x1 q0 = F q0 := z2 _ (nek kq k20 (by decide)) (nek kq k21 (by decide))
    have c2 := h3
    rw [e1] at c2
    obtain ⟨a24, a9, a10, a11, a23, a25, a26, a27, a30, a32, a34, ar, am⟩ := cm24 mM c2
    obtain ⟨b25, b9, b10, b11, b23, b24, b26, b27, b30, b32, b34, br, bm⟩ := cm25 am h5
    obtain ⟨c26, c9, c10, c11, c23, c24, c25, c27, c30, c32, c34, cr, cm⟩ := cm26 bm h7
    obtain ⟨d27, d9, d10, d11, d23, d24, d25, d26, d30, d32, d34, dr, dm⟩ := cm27 cm h9
    have fr : ∀ b, b ≠ q0 → x5 b = x1 b := fun b hb => (h8 b hb).trans ((h6 b hb).trans ((h4 b hb).trans (h2 b hb)))
    have e28 : fR (x5 q0) 28 = fR (F q0) 28 := by rw [dr, cr, br, ar]
    have a0 : am9 I γ q0 inp gn in9 x5 := by
      obtain ⟨p, p1, p2⟩ := hin
      refine ⟨dm, by rw [e28]; exact m28, ⟨p, ?_, p2⟩, fun i hi => ?_, fun i hi => ?_, by rw [d25, c25, b25]; decide, by rw [d27]; decide, fun i hi => absurd hi (Nat.not_lt_zero i), Nat.zero_le _, Nat.zero_le _⟩
      · rw [e28, fr _ (nek m28 kq (by decide)), z2 _ (nek m28 k20 (by decide)) (nek m28 k21 (by decide))]; exact p1
      · rw [fr _ (nek k20 kq (by decide))]; exact z0 i (by omega)
      · rw [fr _ (nek k21 kq (by decide))]; exact z1 i (by omega)
    obtain ⟨y1, y2, y3, y4, y5, y6⟩ := rn54_r (kk := fI (F q0) 34) hT hm hc hR6 hP hq h10 in9 0 a2.toInt.toNat (by rw [d26, c26]; decide) (by omega) (by decide) (by decide) hP.1.1 (hP.2.2.1 0 hP.1.1).1 a0 (by rw [d24, c24, b24, a24, d30, c30, b30, a30, h30, d34, c34, b34, a34])
    have q0e := y3 rfl
    rw [h11, h12] at q0e
    obtain ⟨g24, g9, g10, g11, g23, g25, g26, g27, g30, g32, g34, gr, gm⟩ := cm24 y5.1 h15
    have r0 : (rn9 Q inp gn a2.toInt.toNat 0 in9).1 = 0 := by
      rcases y1 with z | z | z
      · exact absurd z.1 (by decide)
      · exact absurd z.1 (by decide)
      · exact z.2
    exact ⟨_, rfl, by rw [r0]; decide, ⟨by rw [g24]; exact q0e _ h13, ⟨by rw [g30]; exact congrArg (fun z => z.2.1) y6, by rw [g34]; exact congrArg (fun z => z.2.2) y6⟩, fun z => absurd r0 z⟩, by rw [g26]; exact y4, am_q hk y5 h14 gm gr rfl rfl rfl rfl (by rw [g25]; exact y5.2.2.2.2.2.1) (by rw [g27]; exact y5.2.2.2.2.2.2.1) y5.2.2.2.2.2.2.2.2.2⟩
  · intro x1 x2 x3 x4 x5 x6 x7 h1 h2 h3 h4 h5 h6 h7 h8 h9 h10
    obtain ⟨z0, z1, z2⟩ := rn2_r hk h1 0 (by decide) (by decide) (fun i hi => absurd hi (Nat.not_lt_zero i)) (fun i hi => absurd hi (Nat.not_lt_zero i))
    have e1 : x1 q0 = F q0 := z2 _ (nek kq k20 (by decide)) (nek kq k21 (by decide))
    have c2 := h3
    rw [e1] at c2
    obtain ⟨a24, a9, a10, a11, a23, a25, a26, a27, a30, a32, a34, ar, am⟩ := cm24 mM c2
    obtain ⟨b25, b9, b10, b11, b23, b24, b26, b27, b30, b32, b34, br, bm⟩ := cm25 am h5
    obtain ⟨c26, c9, c10, c11, c23, c24, c25, c27, c30, c32, c34, cr, cm⟩ := cm26 bm h7
    obtain ⟨d27, d9, d10, d11, d23, d24, d25, d26, d30, d32, d34, dr, dm⟩ := cm27 cm h9
    have fr : ∀ b, b ≠ q0 → x5 b = x1 b := fun b hb => (h8 b hb).trans ((h6 b hb).trans ((h4 b hb).trans (h2 b hb)))
    have e28 : fR (x5 q0) 28 = fR (F q0) 28 := by rw [dr, cr, br, ar]
    have a0 : am9 I γ q0 inp gn in9 x5 := by
      obtain ⟨p, p1, p2⟩ := hin
      refine ⟨dm, by rw [e28]; exact m28, ⟨p, ?_, p2⟩, fun i hi => ?_, fun i hi => ?_, by rw [d25, c25, b25]; decide, by rw [d27]; decide, fun i hi => absurd hi (Nat.not_lt_zero i), Nat.zero_le _, Nat.zero_le _⟩
      · rw [e28, fr _ (nek m28 kq (by decide)), z2 _ (nek m28 k20 (by decide)) (nek m28 k21 (by decide))]; exact p1
      · rw [fr _ (nek k20 kq (by decide))]; exact z0 i (by omega)
      · rw [fr _ (nek k21 kq (by decide))]; exact z1 i (by omega)
    obtain ⟨y1, y2, y3, y4, y5, y6⟩ := rn54_r (kk := fI (F q0) 34) hT hm hc hR6 hP hq h10 in9 0 a2.toInt.toNat (by rw [d26, c26]; decide) (by omega) (by decide) (by decide) hP.1.1 (hP.2.2.1 0 hP.1.1).1 a0 (by rw [d24, c24, b24, a24, d30, c30, b30, a30, h30, d34, c34, b34, a34])
    have r0 : 0 < x7.toInt ∧ (rn9 Q inp gn a2.toInt.toNat 0 in9).1 = x7.toInt := by
      rcases y1 with z | z | z
      · exact absurd z.1 (by decide)
      · exact z.2
      · exact absurd z.1 (by decide)
    exact ⟨_, rfl, r0.2.symm, ⟨(congrArg (fun z => z.1) y6).trans (y2 (by decide)).symm, ⟨congrArg (fun z => z.2.1) y6, congrArg (fun z => z.2.2) y6⟩, fun _ => y2 (by decide)⟩, y4, y5⟩
  · intro x1 x2 x3 x4 x5 x6 h1 h2 h3 h4 h5 h6 h7 h8 h9 h10
    obtain ⟨z0, z1, z2⟩ := rn2_r hk h1 0 (by decide) (by decide) (fun i hi => absurd hi (Nat.not_lt_zero i)) (fun i hi => absurd hi (Nat.not_lt_zero i))
    have e1 : x1 q0 = F q0 := z2 _ (nek kq k20 (by decide)) (nek kq k21 (by decide))
    have c2 := h3
    rw [e1] at c2
    obtain ⟨a24, a9, a10, a11, a23, a25, a26, a27, a30, a32, a34, ar, am⟩ := cm24 mM c2
    obtain ⟨b25, b9, b10, b11, b23, b24, b26, b27, b30, b32, b34, br, bm⟩ := cm25 am h5
    obtain ⟨c26, c9, c10, c11, c23, c24, c25, c27, c30, c32, c34, cr, cm⟩ := cm26 bm h7
    obtain ⟨d27, d9, d10, d11, d23, d24, d25, d26, d30, d32, d34, dr, dm⟩ := cm27 cm h9
    have fr : ∀ b, b ≠ q0 → x5 b = x1 b := fun b hb => (h8 b hb).trans ((h6 b hb).trans ((h4 b hb).trans (h2 b hb)))
    have e28 : fR (x5 q0) 28 = fR (F q0) 28 := by rw [dr, cr, br, ar]
    have a0 : am9 I γ q0 inp gn in9 x5 := by
      obtain ⟨p, p1, p2⟩ := hin
      refine ⟨dm, by rw [e28]; exact m28, ⟨p, ?_, p2⟩, fun i hi => ?_, fun i hi => ?_, by rw [d25, c25, b25]; decide, by rw [d27]; decide, fun i hi => absurd hi (Nat.not_lt_zero i), Nat.zero_le _, Nat.zero_le _⟩
      · rw [e28, fr _ (nek m28 kq (by decide)), z2 _ (nek m28 k20 (by decide)) (nek m28 k21 (by decide))]; exact p1
      · rw [fr _ (nek k20 kq (by decide))]; exact z0 i (by omega)
      · rw [fr _ (nek k21 kq (by decide))]; exact z1 i (by omega)
    obtain ⟨y1, y2, y3, y4, y5, y6⟩ := rn54_r (kk := fI (F q0) 34) hT hm hc hR6 hP hq h10 in9 0 a2.toInt.toNat (by rw [d26, c26]; decide) (by omega) (by decide) (by decide) hP.1.1 (hP.2.2.1 0 hP.1.1).1 a0 (by rw [d24, c24, b24, a24, d30, c30, b30, a30, h30, d34, c34, b34, a34])
    have r0 : (rn9 Q inp gn a2.toInt.toNat 0 in9).1 = 4 := by
      rcases y1 with z | z | z
      · exact z.2
      · exact absurd z.1 (by decide)
      · exact absurd z.1 (by decide)
    exact ⟨_, rfl, by rw [r0]; decide, ⟨(congrArg (fun z => z.1) y6).trans (y2 (by decide)).symm, ⟨congrArg (fun z => z.2.1) y6, congrArg (fun z => z.2.2) y6⟩, fun _ => y2 (by decide)⟩, y4, y5⟩
def rnM (I : FieldType → ClassId) (γ el : Nat → Nat → Nat) (F : Nat → va_E) (q0 : Nat) (a1 a2 o1 : Int32) (o2 : Nat → va_E) : Prop := ((a2.toInt < 1 ∨ 100000 < a2.toInt) ∧ (fI (o2 q0) 30).toInt = 1 ∧ (mO (o2 q0) = mO (F q0) ∧ o2 (γ 9 22) = F (γ 9 22))) ∨ ((1 ≤ a2.toInt ∧ a2.toInt ≤ 100000) ∧ ((a1.toInt = 0 ∧ (fI (F q0) 9).toInt = 0) ∨ (a1.toInt ≠ 0 ∧ (fI (F q0) 10).toInt = 0)) ∧ (fI (o2 q0) 30).toInt = 2 ∧ (mO (o2 q0) = mO (F q0) ∧ o2 (γ 9 22) = F (γ 9 22))) ∨ ((1 ≤ a2.toInt ∧ a2.toInt ≤ 100000) ∧ ((a1.toInt = 0 ∧ (fI (F q0) 9).toInt ≠ 0) ∨ (a1.toInt ≠ 0 ∧ (fI (F q0) 10).toInt ≠ 0)) ∧ ∀ (Q : gPg) (inp : Nat → Int32) (gn : Nat), rnP Q → ((a1.toInt = 0 ∧ rfX γ el F (γ 9 6) Q ∧ γ 6 0 = Q.1) ∨ (a1.toInt ≠ 0 ∧ rfX γ el F (γ 9 7) Q ∧ γ 6 1 = Q.1)) → inP9 I F q0 inp gn → ((fI (o2 q0) 30).toInt = 0 ∧ fI (o2 q0) 34 = fI (F q0) 34) ∧ ∃ r, r = rn9 Q inp gn a2.toInt.toNat 0 in9 ∧ o1.toInt = r.1 ∧ fI (o2 q0) 23 = o1 ∧ (fI (o2 q0) 24 = r.2.1 ∧ (r.1 ≠ 0 → r.2.1 = 0)) ∧ (fI (o2 q0) 26).toInt = (r.2.2.1 : Int) ∧ am9 I γ q0 inp gn r.2.2.2 o2)
theorem mO_30 {e e1 : va_E} {y : Int32} (h : isMd γ e) (he : e1 = cF e 30 (.int y)) : mO e1 = mO e ∧ fI e1 30 = y := by
  obtain ⟨c30, -, -, -, c23, c24, c25, c26, c27, -, c34, cr, -⟩ := cm30 h he
  unfold mO
  rw [c23, c24, c25, c26, c27, c34, cr]
  exact ⟨rfl, c30⟩
theorem no_q {a1 : Int32} {o1 : Nat → va_E} (h : tr_RModel_no D I γ el F q0 a1 o1) : o1 q0 = cF (F q0) 30 (.int a1) := by
  refine h (fun o1 => o1 q0 = cF (F q0) 30 (.int a1)) ?_
  intro x1 h1 h2
  exact h2
theorem no_f9 {a1 : Int32} {o1 : Nat → va_E} (h : tr_RModel_no D I γ el F q0 a1 o1) : ∀ b, b ≠ q0 → o1 b = F b := by
  refine h (fun o1 => ∀ b, b ≠ q0 → o1 b = F b) ?_
  intro x1 h1 h2
  exact h1
theorem run2_r {a1 : Int32} {a2 : Int32} {o1 : Int32} {o2 : Nat → va_E} (hT : RS D I P F γ el) (hm : γ 0 q0 = 10) (h : tr_RModel_run2 D I γ el P F q0 a1 a2 o1 o2) : rnM I γ el F q0 a1 a2 o1 o2 := by
  have mM : isMd γ (F q0) := isMd_o (RS_o hT hm)
  have n22 : γ 9 22 ≠ q0 := nek (kd9_o hT hm).2.2.2 hm (by decide)
  obtain ⟨⟨c6, c7⟩, f6, f7⟩ := md_c9 hT hm
  refine h (fun o1 o2 => rnM I γ el F q0 a1 a2 o1 o2) ?_ ?_ ?_ ?_ ?_ ?_
  · intro x1 x2 h1 h2 h3 h4 h5 h6 h7 h8 h9 h10
    obtain ⟨b30, b9, b10, b11, b23, b24, b25, b26, b27, b32, b34, br, bm⟩ := cm30 mM h2
    have e1 := (mO_30 mM h2).1
    obtain ⟨d1, d2⟩ := mO_30 bm (no_q h10)
    exact Or.inl ⟨by omega, by rw [d2]; decide, d1.trans e1, (no_f9 h10 _ n22).trans (h1 _ n22)⟩
  · intro x1 x2 x3 x4 x5 h1 h2 h3 h4 h5 h6 h7 h8 h9 h10 h11 h12 h13 h14 h15 h16 h17 h18
    obtain ⟨b30, b9, b10, b11, b23, b24, b25, b26, b27, b32, b34, br, bm⟩ := cm30 mM h2
    have e1 := (mO_30 mM h2).1
    have g9 : fI (F q0) 9 = x2 := by rw [← b9]; exact h6
    refine Or.inr (Or.inr ⟨by omega, by rw [g9]; omega, fun Q inp gn hP hq hin => ?_⟩)
    have hq2 : rfX γ el F (γ 9 6) Q ∧ γ 6 0 = Q.1 := by
      rcases hq with ⟨z, y1, y2⟩ | ⟨z, -⟩
      · exact ⟨y1, y2⟩
      · omega
    have hT1 : RS D I P x1 γ el := rs_30 hT hm h1 h2
    have st : rStr γ [] F x1 := fun b _ z _ => h1 b (fun e => by rw [e, hm] at z; omega)
    have hq3 : rfX γ el x1 (γ 9 6) Q := rfX_rs hT c6 f6 hq2.2 hq2.1 st ⟨List.not_mem_nil, List.not_mem_nil, List.not_mem_nil⟩
    have hin1 : inP9 I x1 q0 inp gn := by
      obtain ⟨p, p1, p2⟩ := hin
      refine ⟨p, ?_, p2⟩
      rw [br, h1 _ (nek (m28_9 hT hm) hm (by decide))]; exact p1
    obtain ⟨r, y1, y2, ⟨y3, ⟨y4, y44⟩, y7⟩, y5, y6⟩ := run_r hT1 hm c6 (by rw [f6]; exact hq2.2) hP hq3 hin1 (by omega) b30 h15
    obtain ⟨g23, g9, g10, g11, g24, g25, g26, g27, g30, g32, g34, gr, gm⟩ := cm23 y6.1 h17
    exact ⟨⟨by rw [g30, y4]; decide, by rw [g34, y44, b34]⟩, r, y1, y2, g23, ⟨by rw [g24]; exact y3, y7⟩, by rw [g26]; exact y5, am_q (kd9_o hT hm) y6 h16 gm gr rfl rfl rfl rfl (by rw [g25]; exact y6.2.2.2.2.2.1) (by rw [g27]; exact y6.2.2.2.2.2.2.1) y6.2.2.2.2.2.2.2.2.2⟩
  · intro x1 x2 x3 h1 h2 h3 h4 h5 h6 h7 h8 h9 h10 h11 h12 h13 h14
    obtain ⟨b30, b9, b10, b11, b23, b24, b25, b26, b27, b32, b34, br, bm⟩ := cm30 mM h2
    have e1 := (mO_30 mM h2).1
    obtain ⟨d1, d2⟩ := mO_30 bm (no_q h14)
    have g9 : fI (F q0) 9 = x2 := by rw [← b9]; exact h6
    exact Or.inr (Or.inl ⟨by omega, by rw [g9]; omega, by rw [d2]; decide, d1.trans e1, (no_f9 h14 _ n22).trans (h1 _ n22)⟩)
  · intro x1 x2 x3 x4 x5 h1 h2 h3 h4 h5 h6 h7 h8 h9 h10 h11 h12 h13 h14 h15 h16 h17 h18
    obtain ⟨b30, b9, b10, b11, b23, b24, b25, b26, b27, b32, b34, br, bm⟩ := cm30 mM h2
    have e1 := (mO_30 mM h2).1
    have g9 : fI (F q0) 10 = x2 := by rw [← b10]; exact h6
    refine Or.inr (Or.inr ⟨by omega, by rw [g9]; omega, fun Q inp gn hP hq hin => ?_⟩)
    have hq2 : rfX γ el F (γ 9 7) Q ∧ γ 6 1 = Q.1 := by
      rcases hq with ⟨z, -⟩ | ⟨z, y1, y2⟩
      · omega
      · exact ⟨y1, y2⟩
    have hT1 : RS D I P x1 γ el := rs_30 hT hm h1 h2
    have st : rStr γ [] F x1 := fun b _ z _ => h1 b (fun e => by rw [e, hm] at z; omega)
    have hq3 : rfX γ el x1 (γ 9 7) Q := rfX_rs hT c7 f7 hq2.2 hq2.1 st ⟨List.not_mem_nil, List.not_mem_nil, List.not_mem_nil⟩
    have hin1 : inP9 I x1 q0 inp gn := by
      obtain ⟨p, p1, p2⟩ := hin
      refine ⟨p, ?_, p2⟩
      rw [br, h1 _ (nek (m28_9 hT hm) hm (by decide))]; exact p1
    obtain ⟨r, y1, y2, ⟨y3, ⟨y4, y44⟩, y7⟩, y5, y6⟩ := run_r hT1 hm c7 (by rw [f7]; exact hq2.2) hP hq3 hin1 (by omega) b30 h15
    obtain ⟨g23, g9, g10, g11, g24, g25, g26, g27, g30, g32, g34, gr, gm⟩ := cm23 y6.1 h17
    exact ⟨⟨by rw [g30, y4]; decide, by rw [g34, y44, b34]⟩, r, y1, y2, g23, ⟨by rw [g24]; exact y3, y7⟩, by rw [g26]; exact y5, am_q (kd9_o hT hm) y6 h16 gm gr rfl rfl rfl rfl (by rw [g25]; exact y6.2.2.2.2.2.1) (by rw [g27]; exact y6.2.2.2.2.2.2.1) y6.2.2.2.2.2.2.2.2.2⟩
  · intro x1 x2 x3 h1 h2 h3 h4 h5 h6 h7 h8 h9 h10 h11 h12 h13 h14
    obtain ⟨b30, b9, b10, b11, b23, b24, b25, b26, b27, b32, b34, br, bm⟩ := cm30 mM h2
    have e1 := (mO_30 mM h2).1
    obtain ⟨d1, d2⟩ := mO_30 bm (no_q h14)
    have g9 : fI (F q0) 10 = x2 := by rw [← b10]; exact h6
    exact Or.inr (Or.inl ⟨by omega, by rw [g9]; omega, by rw [d2]; decide, d1.trans e1, (no_f9 h14 _ n22).trans (h1 _ n22)⟩)
  · intro x1 x2 h1 h2 h3 h4 h5 h6 h7 h8 h9 h10 h11
    obtain ⟨b30, b9, b10, b11, b23, b24, b25, b26, b27, b32, b34, br, bm⟩ := cm30 mM h2
    have e1 := (mO_30 mM h2).1
    obtain ⟨d1, d2⟩ := mO_30 bm (no_q h11)
    exact Or.inl ⟨by omega, by rw [d2]; decide, d1.trans e1, (no_f9 h11 _ n22).trans (h1 _ n22)⟩
end RN9
