theorem gB_01 {x : Int32} (h : gB x 0 1) : x = 0 ∨ x = 1 := by
  rcases (show x.toInt = 0 ∨ x.toInt = 1 by omega) with h2 | h2
  · exact Or.inl (Int32.toInt_inj.mp (h2.trans (by decide)))
  · exact Or.inr (Int32.toInt_inj.mp (h2.trans (by decide)))
theorem gT_bool {x : Int32} (h : gB x 0 1) : fits .boolean (.int x) = true := by
  rcases gB_01 h with rfl | rfl <;> rfl
