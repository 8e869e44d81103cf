/-! the lowest bit goes -/
theorem lo_not {x : BitVec 64} {j : Nat} (h1 : x.getLsbD j = true) (h2 : ∀ i, i < j → x.getLsbD i = false) : (x - 1#64).getLsbD j = false := by
  have hj : j < 64 := by
    refine Classical.byContradiction fun hn => ?_
    rw [BitVec.getLsbD_of_ge x j (by omega)] at h1
    cases h1
  have h3 := congrArg (fun z => BitVec.getLsbD z j) (lb_andneg h1 h2)
  have h4 : (x &&& -x).getLsbD j = (BitVec.twoPow 64 j).getLsbD j := h3
  rw [BitVec.getLsbD_and, h1, BitVec.getLsbD_twoPow, Bool.true_and] at h4
  have h5 : (-x).getLsbD j = true := by rw [h4]; simp [hj]
  rw [← BitVec.not_neg, BitVec.getLsbD_not, h5]
  simp
theorem rpop_low {x y z : Int64} (hx : ¬ x = 0) (hy : y = x - 1) (hz : z = x &&& y) : rpop z + 1 ≤ rpop x := by
  have hx' : x.toBitVec ≠ 0#64 := fun h => hx (Int64.toBitVec_inj.mp h)
  obtain ⟨j, h1, h2, h3⟩ := lb_least hx'
  have h4 : y.toBitVec.getLsbD j = false := by
    rw [hy]
    exact lo_not h2 h3
  refine rpopN_lt (x := z.toBitVec) (y := x.toBitVec) (fun i hi => ?_) ?_ h2 64 h1
  · rw [hz, Int64.toBitVec_and, BitVec.getLsbD_and, Bool.and_eq_true] at hi
    exact hi.1
  · rw [hz, Int64.toBitVec_and, BitVec.getLsbD_and, h4, Bool.and_false]
/-! trailing zeros of an int, as the JDK finds them -/
theorem nz_least {x : BitVec 32} (h : x ≠ 0#32) : ∃ j, j < 32 ∧ x.getLsbD j = true ∧ ∀ i, i < j → x.getLsbD i = false := by
  have h1 : ∃ j, j < 32 ∧ x.getLsbD j = true := by
    refine Classical.byContradiction fun hn => h ?_
    apply BitVec.eq_of_getLsbD_eq
    intro i hi
    rw [BitVec.getLsbD_zero]
    cases hx : x.getLsbD i with
    | false => rfl
    | true => exact absurd ⟨i, hi, hx⟩ hn
  have h2 : ∀ n : Nat, (∃ j, j < n ∧ x.getLsbD j = true) → ∃ j, j < n ∧ x.getLsbD j = true ∧ ∀ i, i < j → x.getLsbD i = false := by
    intro n
    induction n with
    | zero => intro ⟨j, hj, _⟩; omega
    | succ n ih =>
      intro ⟨j, hj, hx⟩
      by_cases hs : ∃ j, j < n ∧ x.getLsbD j = true
      · obtain ⟨k, k1, k2, k3⟩ := ih hs
        exact ⟨k, by omega, k2, k3⟩
      · refine ⟨j, hj, hx, fun i hi => ?_⟩
        cases hxi : x.getLsbD i with
        | false => rfl
        | true => exact absurd ⟨i, by omega, hxi⟩ hs
  exact h2 32 h1
theorem nz_mask {x : BitVec 32} {j : Nat} (h1 : x.getLsbD j = true) (h2 : ∀ i, i < j → x.getLsbD i = false) : ∀ i, i < 32 → (~~~x &&& (x - 1#32)).getLsbD i = decide (i < j) := fun i hi => by
  rw [← BitVec.not_neg, BitVec.getLsbD_and, BitVec.getLsbD_not, BitVec.getLsbD_not, BitVec.getLsbD_neg]
  rcases Nat.lt_trichotomy i j with h | h | h
  · have hn : ¬ ∃ k, k < i ∧ x.getLsbD k = true := fun ⟨k, k1, k2⟩ => by rw [h2 k (by omega)] at k2; cases k2
    rw [h2 i h]; simp [hn, hi, h]
  · subst h
    rw [h1]; simp
  · have hy : ∃ k, k < i ∧ x.getLsbD k = true := ⟨j, h, h1⟩
    have hne : ¬ i < j := by omega
    cases x.getLsbD i <;> simp [hi, hy, hne]
def nz_u (x k : Int32) : Int32 := (x.toUInt32 >>> (k.toUInt32 &&& Int32.toUInt32 31)).toInt32
def nz_s (p : Int32 × Int32) (t k : Int32) : Int32 × Int32 := if t < p.1 then (nz_u p.1 k, p.2 + k) else p
def nz_q (m : Int32) : Int32 × Int32 := nz_s (nz_s (nz_s (nz_s (m, 1) 65536 16) 256 8) 16 4) 4 2
def nz_f (m : Int32) : Int32 := if 0 < m then (nz_q m).2 + nz_u (nz_q m).1 1 else m &&& 32
theorem nz_tab : ∀ j : Fin 32, (nz_f (Int32.ofNat (2 ^ j.val - 1))).toInt = j.val := by decide +kernel
theorem nz_ok {i r : Int32} (h : ¬ i = 0) (hr : r = nz_f ((i ^^^ (-1)) &&& (i - 1))) : 0 ≤ r.toInt ∧ r.toInt ≤ 31 ∧ i.toBitVec.getLsbD r.toInt.toNat = true := by
  have hx : i.toBitVec ≠ 0#32 := fun e => h (Int32.toBitVec_inj.mp e)
  obtain ⟨j, h1, h2, h3⟩ := nz_least hx
  have hm : (i ^^^ (-1)) &&& (i - 1) = Int32.ofNat (2 ^ j - 1) := by
    apply Int32.toBitVec_inj.mp
    apply BitVec.eq_of_getLsbD_eq
    intro k hk
    have e1 : ((i ^^^ (-1)) &&& (i - 1)).toBitVec = ~~~i.toBitVec &&& (i.toBitVec - 1#32) := by
      rw [Int32.toBitVec_and, Int32.toBitVec_xor, Int32.toBitVec_sub]
      congr 1
      show i.toBitVec ^^^ BitVec.allOnes 32 = _
      rw [BitVec.xor_allOnes]
    rw [e1, nz_mask h2 h3 k hk]
    show _ = (BitVec.ofNat 32 (2 ^ j - 1)).getLsbD k
    rw [BitVec.getLsbD_ofNat, Nat.testBit_two_pow_sub_one]
    simp [hk]
  have ht := nz_tab ⟨j, h1⟩
  have hj : r.toInt = j := by rw [hr, hm]; exact ht
  refine ⟨by omega, by omega, ?_⟩
  rw [hj]
  exact h2
