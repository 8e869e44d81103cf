/-! the lowest bit goes -/
theorem lo_not {x : BitVec 64} {j : Nat} (h1 : x.getLsbD j = true) (h2 : ∀ i, i < j → x.getLsbD i = false) : (x - 1#64).getLsbD j = false := by
  have hj : j < 64 := by
    refine Classical.byContradiction fun hn => ?_
    rw [BitVec.getLsbD_of_ge x j (by omega)] at h1
    cases h1
  have h3 := congrArg (fun z => BitVec.getLsbD z j) (lb_andneg h1 h2)
  have h4 : (x &&& -x).getLsbD j = (BitVec.twoPow 64 j).getLsbD j := h3
  rw [BitVec.getLsbD_and, h1, BitVec.getLsbD_twoPow, Bool.true_and] at h4
  have h5 : (-x).getLsbD j = true := by rw [h4]; simp [hj]
  rw [← BitVec.not_neg, BitVec.getLsbD_not, h5]
  simp
theorem rpop_low {x y z : Int64} (hx : ¬ x = 0) (hy : y = x - 1) (hz : z = x &&& y) : rpop z + 1 ≤ rpop x := by
  have hx' : x.toBitVec ≠ 0#64 := fun h => hx (Int64.toBitVec_inj.mp h)
  obtain ⟨j, h1, h2, h3⟩ := lb_least hx'
  have h4 : y.toBitVec.getLsbD j = false := by
    rw [hy]
    exact lo_not h2 h3
  refine rpopN_lt (x := z.toBitVec) (y := x.toBitVec) (fun i hi => ?_) ?_ h2 64 h1
  · rw [hz, Int64.toBitVec_and, BitVec.getLsbD_and, Bool.and_eq_true] at hi
    exact hi.1
  · rw [hz, Int64.toBitVec_and, BitVec.getLsbD_and, h4, Bool.and_false]
/-! trailing zeros of an int, as the JDK finds them -/
theorem nz_least {x : BitVec 32} (h : x ≠ 0#32) : ∃ j, j < 32 ∧ x.getLsbD j = true ∧ ∀ i, i < j → x.getLsbD i = false := by
  have h1 : ∃ j, j < 32 ∧ x.getLsbD j = true := by
    refine Classical.byContradiction fun hn => h ?_
    apply BitVec.eq_of_getLsbD_eq
    intro i hi
    rw [BitVec.getLsbD_zero]
    cases hx : x.getLsbD i with
    | false => rfl
    | true => exact absurd ⟨i, hi, hx⟩ hn
  have h2 : ∀ n : Nat, (∃ j, j < n ∧ x.getLsbD j = true) → ∃ j, j < n ∧ x.getLsbD j = true ∧ ∀ i, i < j → x.getLsbD i = false := by
    intro n
    induction n with
    | zero => intro ⟨j, hj, _⟩; omega
    | succ n ih =>
      intro ⟨j, hj, hx⟩
      by_cases hs : ∃ j, j < n ∧ x.getLsbD j = true
      · obtain ⟨k, k1, k2, k3⟩ := ih hs
        exact ⟨k, by omega, k2, k3⟩
      · refine ⟨j, hj, hx, fun i hi => ?_⟩
        cases hxi : x.getLsbD i with
        | false => rfl
        | true => exact absurd ⟨i, by omega, hxi⟩ hs
  exact h2 32 h1
theorem nz_mask {x : BitVec 32} {j : Nat} (h1 : x.getLsbD j = true) (h2 : ∀ i, i < j → x.getLsbD i = false) : ∀ i, i < 32 → (~~~x &&& (x - 1#32)).getLsbD i = decide (i < j) := fun i hi => by
  rw [← BitVec.not_neg, BitVec.getLsbD_and, BitVec.getLsbD_not, BitVec.getLsbD_not, BitVec.getLsbD_neg]
  rcases Nat.lt_trichotomy i j with h | h | h
  · have hn : ¬ ∃ k, k < i ∧ x.getLsbD k = true := fun ⟨k, k1, k2⟩ => by rw [h2 k (by omega)] at k2; cases k2
    rw [h2 i h]; simp [hn, hi, h]
  · subst h
    rw [h1]; simp
  · have hy : ∃ k, k < i ∧ x.getLsbD k = true := ⟨j, h, h1⟩
    have hne : ¬ i < j := by omega
    cases x.getLsbD i <;> simp [hi, hy, hne]
