/-! how many bits are set -/
def rpopN (x : BitVec 64) : Nat → Nat
  | 0 => 0
  | n + 1 => rpopN x n + (if x.getLsbD n then 1 else 0)
def rpop (x : Int64) : Nat := rpopN x.toBitVec 64
theorem rpopN_le (x : BitVec 64) : ∀ n, rpopN x n ≤ n
  | 0 => Nat.le_refl _
  | n + 1 => by
    have h := rpopN_le x n
    show rpopN x n + (if x.getLsbD n then 1 else 0) ≤ n + 1
    split <;> omega
theorem rpop_le (x : Int64) : rpop x ≤ 64 := rpopN_le _ _
theorem rpopN_mono {x y : BitVec 64} (h : ∀ i, x.getLsbD i = true → y.getLsbD i = true) : ∀ n, rpopN x n ≤ rpopN y n
  | 0 => Nat.le_refl _
  | n + 1 => by
    have h1 := rpopN_mono h n
    show rpopN x n + (if x.getLsbD n then 1 else 0) ≤ rpopN y n + (if y.getLsbD n then 1 else 0)
    by_cases hx : x.getLsbD n = true
    · rw [if_pos hx, if_pos (h n hx)]; omega
    · rw [if_neg hx]; omega
theorem rpopN_lt {x y : BitVec 64} (h : ∀ i, x.getLsbD i = true → y.getLsbD i = true) {j : Nat} (hx : x.getLsbD j = false) (hy : y.getLsbD j = true) : ∀ n, j < n → rpopN x n + 1 ≤ rpopN y n
  | 0, hn => by omega
  | n + 1, hn => by
    show rpopN x n + (if x.getLsbD n then 1 else 0) + 1 ≤ rpopN y n + (if y.getLsbD n then 1 else 0)
    by_cases e : j = n
    · subst e
      have h1 := rpopN_mono h j
      rw [hx, hy]
      simp
      omega
    · have h1 := rpopN_lt h hx hy n (by omega)
      by_cases hx : x.getLsbD n = true
      · rw [if_pos hx, if_pos (h n hx)]; omega
      · rw [if_neg hx]; omega
theorem rpop_or {x y z : Int64} (hz : z = x ||| y) : rpop x ≤ rpop z := by
  subst hz
  refine rpopN_mono (fun i hi => ?_) 64
  rw [Int64.toBitVec_or, BitVec.getLsbD_or, hi]
  rfl
theorem rshl_bit {i : Int32} {y : Int64} (hy : y = 1 <<< (i.toInt64 &&& 63)) (h0 : 0 ≤ i.toInt) (h1 : i.toInt < 64) : y.toBitVec.getLsbD i.toInt.toNat = true := by
  rw [hy, lb_Qcnt i h0]
  have h2 : ∀ j : Fin 64, ((1 : Int64) <<< (Int64.ofNat (j.val % 64))).toBitVec.getLsbD j.val = true := by decide +kernel
  exact h2 ⟨i.toInt.toNat, by omega⟩
theorem rpop_new {x y z : Int64} {i : Int32} (hz : z = x ||| y) (hy : y = 1 <<< (i.toInt64 &&& 63)) (h0 : 0 ≤ i.toInt) (h1 : i.toInt < 64) (hx : x.toBitVec.getLsbD i.toInt.toNat = false) : rpop x + 1 ≤ rpop z := by
  subst hz
  refine rpopN_lt (fun i hi => ?_) hx ?_ 64 (by omega)
  · rw [Int64.toBitVec_or, BitVec.getLsbD_or, hi]
    rfl
  · rw [Int64.toBitVec_or, BitVec.getLsbD_or, rshl_bit hy h0 h1]
    simp
theorem rbit_0 {x u v : Int64} {i : Int32} (hu : u = (x.toUInt64 >>> (i.toInt64.toUInt64 &&& Int64.toUInt64 63)).toInt64) (hv : v = u &&& 1) (h : v = 0) (h0 : 0 ≤ i.toInt) (h1 : i.toInt < 64) : x.toBitVec.getLsbD i.toInt.toNat = false := by
  have e1 : (i.toInt64.toUInt64 &&& Int64.toUInt64 63) = (i.toInt64 &&& 63).toUInt64 := rfl
  rw [e1, lb_Qcnt i h0] at hu
  have h2 : (v.toBitVec).getLsbD 0 = false := by rw [h]; rfl
  rw [hv, Int64.toBitVec_and, BitVec.getLsbD_and] at h2
  have h3 : (1 : Int64).toBitVec.getLsbD 0 = true := by decide
  rw [h3, Bool.and_true, hu] at h2
  have h4 : ∀ j : Nat, j < 64 → ((x.toUInt64 >>> (Int64.ofNat (j % 64)).toUInt64).toInt64).toBitVec.getLsbD 0 = x.toBitVec.getLsbD j := fun j hj => by
    show (x.toBitVec >>> ((Int64.ofNat (j % 64)).toBitVec % 64#64)).getLsbD 0 = _
    have h5 : ((Int64.ofNat (j % 64)).toBitVec % 64#64).toNat = j := by
      show ((j % 64) % 2 ^ 64) % 64 = j
      omega
    show (x.toBitVec >>> ((Int64.ofNat (j % 64)).toBitVec % 64#64).toNat).getLsbD 0 = _
    rw [BitVec.getLsbD_ushiftRight, h5, Nat.add_zero]
  rw [h4 _ (by omega)] at h2
  exact h2
