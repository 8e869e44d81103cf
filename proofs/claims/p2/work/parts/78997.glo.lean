/-! the lowest bit goes -/
theorem lo_not {x : BitVec 64} {j : Nat} (h1 : x.getLsbD j = true) (h2 : ∀ i, i < j → x.getLsbD i = false) : (x - 1#64).getLsbD j = false := by
  have hj : j < 64 := by
    refine Classical.byContradiction fun hn => ?_
    rw [BitVec.getLsbD_of_ge x j (by omega)] at h1
    cases h1
  have h3 := congrArg (fun z => BitVec.getLsbD z j) (lb_andneg h1 h2)
  have h4 : (x &&& -x).getLsbD j = (BitVec.twoPow 64 j).getLsbD j := h3
  rw [BitVec.getLsbD_and, h1, BitVec.getLsbD_twoPow, Bool.true_and] at h4
  have h5 : (-x).getLsbD j = true := by rw [h4]; simp [hj]
  rw [← BitVec.not_neg, BitVec.getLsbD_not, h5]
  simp
theorem rpop_low {x y z : Int64} (hx : ¬ x = 0) (hy : y = x - 1) (hz : z = x &&& y) : rpop z + 1 ≤ rpop x := by
  have hx' : x.toBitVec ≠ 0#64 := fun h => hx (Int64.toBitVec_inj.mp h)
  obtain ⟨j, h1, h2, h3⟩ := lb_least hx'
  have h4 : y.toBitVec.getLsbD j = false := by
    rw [hy]
    exact lo_not h2 h3
  refine rpopN_lt (x := z.toBitVec) (y := x.toBitVec) (fun i hi => ?_) ?_ h2 64 h1
  · rw [hz, Int64.toBitVec_and, BitVec.getLsbD_and, Bool.and_eq_true] at hi
    exact hi.1
  · rw [hz, Int64.toBitVec_and, BitVec.getLsbD_and, h4, Bool.and_false]
