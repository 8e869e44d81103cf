/-- what a row of a list is, read off its cell -/
theorem rk1_at {D : va_G} {I : FieldType → ClassId} {P : List Nat} {F : Nat → va_E} {γ el : Nat → Nat → Nat} {x : Nat} {op t a b s ra rb : Int32} (hT : RS D I P F γ el) (hk : rKd γ x 1) (he : F x = .inr (20, [.int op, .int t, .int a, .int b, .int s, .int ra, .int rb])) : ((op.toInt ≠ 21 ∧ op.toInt ≠ 23) ∨ s.toInt < γ 7 (γ 1 x)) ∧ (γ 22 x = 0 ∨ 30 ≤ op.toInt) := by
  obtain ⟨op', t', a', b', s', ra', rb', e, -, -, -, -, -, -, -, -, h1, h2⟩ := RS_o hT hk
  have e2 := he.symm.trans e
  injection e2 with e3
  injection e3 with _ e4
  simp only [List.cons.injEq, Value.int.injEq, and_true] at e4
  obtain ⟨rfl, rfl, rfl, rfl, rfl, rfl, rfl⟩ := e4
  exact ⟨h1, h2⟩
/-- hidden from arithmetic -/
def gH (p : Prop) : Prop := p
theorem gHe {p : Prop} (h : gH p) : p := h
