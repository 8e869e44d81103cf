theorem vP_g2 {v : Int32} (h : vP 2 v) : gB v 0 99 := by
  have := h.1 (by decide)
  exact ⟨this.1, this.2⟩
theorem vP_g3 {v : Int32} (h : vP 3 v) : gB v 0 39 := by
  have := h.2 (by decide)
  exact ⟨this.1, this.2⟩
theorem opP_of {o : Int32} (h : gB o 0 14) : opP o := Or.inl h.2
/-- a block's cell, its goals below 40 -/
def bkX (F : Nat → va_E) (b l n : Nat) : Prop := ∃ f s : Int32, F b = .inr (17, [.ref l, .ref n, .int f, .int s]) ∧ gB f 0 39 ∧ gB s 0 39
theorem prP_lt {k a b : Int32} (h : prP k a b) (e : k.toInt ≠ 0) : a.toInt < b.toInt := h.resolve_left e
