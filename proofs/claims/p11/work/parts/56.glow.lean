/-! Long.bitCount as a function; the lowest bit -/
def lb_sh (x : Int64) (y : Int32) : Int64 := (x.toUInt64 >>> (y.toInt64.toUInt64 &&& Int64.toUInt64 63)).toInt64
def lb_b1 (x : Int64) : Int64 := x - (lb_sh x 1 &&& 6148914691236517205)
def lb_b2 (x : Int64) : Int64 := (x &&& 3689348814741910323) + (lb_sh x 2 &&& 3689348814741910323)
def lb_b3 (x : Int64) : Int64 := (x + lb_sh x 4) &&& 1085102592571150095
def lb_b4 (x : Int64) : Int64 := x + lb_sh x 8
def lb_b5 (x : Int64) : Int64 := x + lb_sh x 16
def lb_b6 (x : Int64) : Int64 := x + lb_sh x 32
def lb_bc (x : Int64) : Int32 := (lb_b6 (lb_b5 (lb_b4 (lb_b3 (lb_b2 (lb_b1 x)))))).toInt32 &&& 127
theorem lb_bcT : ∀ j : Fin 64, (lb_bc ((Int64.ofNat (2 ^ j.val)) - 1)).toInt = j.val := by decide +kernel
theorem lb_least {x : BitVec 64} (h : x ≠ 0#64) : ∃ j, j < 64 ∧ x.getLsbD j = true ∧ ∀ i, i < j → x.getLsbD i = false := by
  have h1 : ∃ j, j < 64 ∧ x.getLsbD j = true := by
    refine Classical.byContradiction fun hn => h ?_
    apply BitVec.eq_of_getLsbD_eq
    intro i hi
    rw [BitVec.getLsbD_zero]
    cases hx : x.getLsbD i with
    | false => rfl
    | true => exact absurd ⟨i, hi, hx⟩ hn
  have h2 : ∀ n : Nat, (∃ j, j < n ∧ x.getLsbD j = true) → ∃ j, j < n ∧ x.getLsbD j = true ∧ ∀ i, i < j → x.getLsbD i = false := by
    intro n
    induction n with
    | zero => intro ⟨j, hj, _⟩; omega
    | succ n ih =>
      intro ⟨j, hj, hx⟩
      by_cases hs : ∃ j, j < n ∧ x.getLsbD j = true
      · obtain ⟨k, k1, k2, k3⟩ := ih hs
        exact ⟨k, by omega, k2, k3⟩
      · refine ⟨j, hj, hx, fun i hi => ?_⟩
        cases hxi : x.getLsbD i with
        | false => rfl
        | true => exact absurd ⟨i, by omega, hxi⟩ hs
  exact h2 64 h1
theorem lb_andneg {x : BitVec 64} {j : Nat} (h1 : x.getLsbD j = true) (h2 : ∀ i, i < j → x.getLsbD i = false) : x &&& -x = BitVec.twoPow 64 j := by
  have hj : j < 64 := by
    refine Classical.byContradiction fun hn => ?_
    rw [BitVec.getLsbD_of_ge x j (by omega)] at h1
    cases h1
  apply BitVec.eq_of_getLsbD_eq
  intro i hi
  rw [BitVec.getLsbD_and, BitVec.getLsbD_neg, BitVec.getLsbD_twoPow]
  rcases Nat.lt_trichotomy i j with h | h | h
  · rw [h2 i h]; simp; omega
  · subst h
    have hn : ¬ ∃ k, k < i ∧ x.getLsbD k = true := fun ⟨k, k1, k2⟩ => by rw [h2 k k1] at k2; cases k2
    rw [h1]; simp [hn, hi]
  · have hy : ∃ k, k < i ∧ x.getLsbD k = true := ⟨j, h, h1⟩
    cases x.getLsbD i <;> simp [hi, hy] <;> omega
theorem lb_lowE {x : Int64} {z : Int32} (hx : ¬ x = 0) (hz : z = lb_bc ((x &&& (-x)) - 1)) : 0 ≤ z.toInt ∧ z.toInt ≤ 63 ∧ x.toBitVec.getLsbD z.toInt.toNat = true := by
  have hx' : x.toBitVec ≠ 0#64 := fun h => hx (Int64.toBitVec_inj.mp h)
  obtain ⟨j, h1, h2, h3⟩ := lb_least hx'
  have h4 : x &&& (-x) = Int64.ofNat (2 ^ j) := by
    apply Int64.toBitVec_inj.mp
    rw [Int64.toBitVec_and, Int64.toBitVec_neg, lb_andneg h2 h3]
    show BitVec.twoPow 64 j = BitVec.ofNat 64 (2 ^ j)
    apply BitVec.eq_of_toNat_eq
    rw [BitVec.toNat_twoPow, BitVec.toNat_ofNat]
  have h5 := lb_bcT ⟨j, h1⟩
  rw [h4] at hz
  have h6 : z.toInt = j := by rw [hz]; exact h5
  refine ⟨by omega, by omega, ?_⟩
  rw [h6]; exact h2
theorem lb_lowQ {x : Int64} {z : Int32} {m : Int} (h : 0 ≤ z.toInt ∧ z.toInt ≤ 63 ∧ x.toBitVec.getLsbD z.toInt.toNat = true) (hq : lb_Q x m) : z.toInt < m := by
  have h1 := hq z.toInt.toNat (by omega) h.2.2
  omega
