section RSU
variable {f g x : Nat → Int32} {n m c : Nat} {cnt a o : Int32} {bs : List Int32}
theorem cn0 : (0 : Int32).toNatClampNeg = 0 := by decide
theorem crb_tr (h : tr_RArrays_copyOfRangeByte cnt f n m x) (hc : cnt.toInt = (c : Int)) (hn : c ≤ n) : m = c ∧ ∀ j, j < c → x j = f j := by
  refine h (fun m x => m = c ∧ ∀ j, j < c → x j = f j) ?_
  · intro x1 x2 x3 x4 x5 h1 h2 h3 h4 h5
    have e : x4.toNatClampNeg = c := nnE (by omega)
    refine ⟨by omega, fun j hj => ?_⟩
    rw [h5, cn0, e, va_cpE (Nat.zero_le _) (by omega)]
    congr 1
    omega
theorem cor_tr (h : tr_RArrays_copyOfRange cnt f n m x) (hc : cnt.toInt = (c : Int)) (hn : c ≤ n) : m = c ∧ ∀ j, j < c → x j = f j := by
  refine h (fun m x => m = c ∧ ∀ j, j < c → x j = f j) ?_ ?_
  · intro x1 h1 h2
    exact ⟨by omega, fun _ _ => rfl⟩
  · intro x1 x2 x3 h1 h2 h3
    exact crb_tr h3 hc hn
theorem si2_tr (h : tr_RString_init2 cnt f n m x) (hc : cnt.toInt = (c : Int)) (hn : c ≤ n) : m = c ∧ ∀ j, j < c → x j = f j := by
  refine h (fun m x => m = c ∧ ∀ j, j < c → x j = f j) ?_
  · intro x1 x2 h1
    exact cor_tr h1 hc hn
theorem si1_tr (h : tr_RString_init cnt f n m x) (hc : cnt.toInt = (c : Int)) (hn : c ≤ n) : m = c ∧ ∀ j, j < c → x j = f j := by
  refine h (fun m x => m = c ∧ ∀ j, j < c → x j = f j) ?_
  · intro x1 x2 h1
    exact si2_tr h1 hc hn
theorem tos_tr (h : tr_RStringBuilder_toString cnt f n m x) (hc : cnt.toInt = (c : Int)) (hn : c ≤ n) : m = c ∧ ∀ j, j < c → x j = f j := by
  refine h (fun m x => m = c ∧ ∀ j, j < c → x j = f j) ?_
  · intro x1 x2 h1
    exact si1_tr h1 hc hn
theorem nar_b (h0 : 0 ≤ a.toInt) (h1 : a.toInt ≤ 127) {y : Int32} (hy : y = a.toInt8.toInt32) : (vp_nar .byte y).toInt = a.toInt := by
  have e : a.toInt8.toInt32.toInt = a.toInt := by
    rw [Int8.toInt_toInt32, Int32.toInt_toInt8]
    rw [Int.bmod_def]; split <;> omega
  have e2 : vp_nar .byte y = y.toInt8.toInt32 := rfl
  rw [e2, hy, Int8.toInt_toInt32, Int32.toInt_toInt8, e, Int.bmod_def]
  split <;> omega
theorem nll_tr {a b c r : Int32} (h : tr_RArraysSupport_newLength a b c r) : a.toInt + b.toInt ≤ r.toInt := by
  refine h (fun r => a.toInt + b.toInt ≤ r.toInt) ?_
  · intro x1 x2 h1 h2
    omega
theorem ncl_tr {a r : Int32} {n : Nat} (h : tr_RAbstractStringBuilder_newCapacity a n r) : a.toInt ≤ r.toInt := by
  refine h (fun r => a.toInt ≤ r.toInt) ?_
  · intro x1 x2 x3 x4 x5 x6 x7 h1 h2 h3 h4 h5 h6 h7 h8
    have q := nll_tr h7
    omega
theorem ecl_tr {a1 : Int32} (h : tr_RAbstractStringBuilder_ensureCapacityInternal2 a1 f n m x) : a1.toInt ≤ (m : Int) := by
  refine h (fun m _ => a1.toInt ≤ (m : Int)) ?_ ?_
  · intro x1 x2 x3 h1 h2 h3 h4
    omega
  · intro x1 x2 x3 x4 x5 x6 h1 h2 h3 h4 h5 h6 h7 h8
    have q := ncl_tr h6
    omega
theorem apg1 (h : tr_RAbstractStringBuilder_append8 a cnt f n o m x) (hc : cnt.toInt = (c : Int)) (hn : c ≤ n) (b0 : 0 ≤ a.toInt) (b1 : a.toInt ≤ 127) : o.toInt = ((c + 1 : Nat) : Int) ∧ (∀ j, j < c → x j = f j) ∧ (x c).toInt = a.toInt ∧ c + 1 ≤ m := by
  refine h (fun o m x => o.toInt = ((c + 1 : Nat) : Int) ∧ (∀ j, j < c → x j = f j) ∧ (x c).toInt = a.toInt ∧ c + 1 ≤ m) ?_
  · intro x1 x2 x3 x4 x5 x6 h1 h2 h3 h4 h5 h6
    have q := eci_tr (c := c) hn h2
    have q2 := ecl_tr h2
    rw [nnE hc] at h6
    refine ⟨by omega, fun j hj => ?_, ?_, by omega⟩
    · rw [h6, updN (by omega), q j hj]
    · rw [h6, updE]; exact nar_b b0 b1 h5
theorem apg (h : tr_RStringBuilder_append8 a cnt f n o m x) (hc : cnt.toInt = (c : Int)) (hn : c ≤ n) (b0 : 0 ≤ a.toInt) (b1 : a.toInt ≤ 127) : o.toInt = ((c + 1 : Nat) : Int) ∧ (∀ j, j < c → x j = f j) ∧ (x c).toInt = a.toInt ∧ c + 1 ≤ m := by
  refine h (fun o m x => o.toInt = ((c + 1 : Nat) : Int) ∧ (∀ j, j < c → x j = f j) ∧ (x c).toInt = a.toInt ∧ c + 1 ≤ m) ?_
  · intro x1 x2 x3 h1 h2
    exact apg1 h2 hc hn b0 b1
theorem ecm_tr {a1 : Int32} (h : tr_RAbstractStringBuilder_ensureCapacityInternal a1 n) : a1.toInt ≤ (n : Int) := by
  refine h (a1.toInt ≤ (n : Int)) ?_
  · intro x1 x2 x3 h1 h2 h3 h4
    omega
theorem apn1 (h : tr_RAbstractStringBuilder_append a cnt f n o x) (hc : cnt.toInt = (c : Int)) (hn : c ≤ n) (b0 : 0 ≤ a.toInt) (b1 : a.toInt ≤ 127) : o.toInt = ((c + 1 : Nat) : Int) ∧ (∀ j, j < c → x j = f j) ∧ (x c).toInt = a.toInt ∧ c + 1 ≤ n := by
  refine h (fun o x => o.toInt = ((c + 1 : Nat) : Int) ∧ (∀ j, j < c → x j = f j) ∧ (x c).toInt = a.toInt ∧ c + 1 ≤ n) ?_
  · intro x1 x2 x3 x4 h1 h2 h3 h4 h5 h6
    have q2 := ecm_tr h2
    rw [nnE hc] at h6
    refine ⟨by omega, fun j hj => ?_, ?_, by omega⟩
    · rw [h6, updN (by omega)]
    · rw [h6, updE]; exact nar_b b0 b1 h5
theorem apn (h : tr_RStringBuilder_append a cnt f n o x) (hc : cnt.toInt = (c : Int)) (hn : c ≤ n) (b0 : 0 ≤ a.toInt) (b1 : a.toInt ≤ 127) : o.toInt = ((c + 1 : Nat) : Int) ∧ (∀ j, j < c → x j = f j) ∧ (x c).toInt = a.toInt ∧ c + 1 ≤ n := by
  refine h (fun o x => o.toInt = ((c + 1 : Nat) : Int) ∧ (∀ j, j < c → x j = f j) ∧ (x c).toInt = a.toInt ∧ c + 1 ≤ n) ?_
  · intro x1 x2 h1 h2
    exact apn1 h2 hc hn b0 b1
theorem sl2_tr (h : tr_RString_length2 bs o) : o.toInt = (bs.length : Int) := by
  refine h (fun o => o.toInt = (bs.length : Int)) ?_
  · intro x1 x2 h1 h2
    omega
theorem sl_tr (h : tr_RString_length n o) : o.toInt = (n : Int) := by
  refine h (fun o => o.toInt = (n : Int)) ?_
  · intro x1 x2 h1 h2
    omega
theorem gb2_tr (h : tr_RString_getBytes2 bs cnt f x) (hc : cnt.toInt = (c : Int)) : (∀ j, j < c → x j = f j) ∧ ∀ j, j < bs.length → x (c + j) = bs.getD j 0 := by
  refine h (fun x => (∀ j, j < c → x j = f j) ∧ ∀ j, j < bs.length → x (c + j) = bs.getD j 0) ?_
  · intro x1 x2 x3 h1 h2 h3
    have e1 : x1.toNatClampNeg = c := nnE (by omega)
    have e2 : x2.toNatClampNeg = bs.length := nnE h2
    rw [h3, cn0, e1, e2]
    refine ⟨fun j hj => va_cpN (by omega), fun j hj => ?_⟩
    rw [va_cpE (by omega) (by omega)]
    show bs.getD (0 + (c + j - c)) 0 = _
    congr 1
    omega
theorem gb1_tr (h : tr_RString_getBytes cnt f g m x) (hc : cnt.toInt = (c : Int)) : (∀ j, j < c → x j = f j) ∧ ∀ j, j < m → x (c + j) = g j := by
  refine h (fun x => (∀ j, j < c → x j = f j) ∧ ∀ j, j < m → x (c + j) = g j) ?_
  · intro x1 x2 x3 h1 h2 h3
    have e1 : x1.toNatClampNeg = c := nnE (by omega)
    have e2 : x2.toNatClampNeg = m := nnE h2
    rw [h3, cn0, e1, e2]
    refine ⟨fun j hj => va_cpN (by omega), fun j hj => ?_⟩
    rw [va_cpE (by omega) (by omega)]
    congr 1
    omega
theorem ps2_tr (h : tr_RAbstractStringBuilder_putStringAt2 cnt bs f x) (hc : cnt.toInt = (c : Int)) : (∀ j, j < c → x j = f j) ∧ ∀ j, j < bs.length → x (c + j) = bs.getD j 0 := by
  refine h (fun x => (∀ j, j < c → x j = f j) ∧ ∀ j, j < bs.length → x (c + j) = bs.getD j 0) ?_
  · intro x1 h1
    exact gb2_tr h1 hc
theorem ps1_tr (h : tr_RAbstractStringBuilder_putStringAt cnt f g m x) (hc : cnt.toInt = (c : Int)) : (∀ j, j < c → x j = f j) ∧ ∀ j, j < m → x (c + j) = g j := by
  refine h (fun x => (∀ j, j < c → x j = f j) ∧ ∀ j, j < m → x (c + j) = g j) ?_
  · intro x1 h1
    exact gb1_tr h1 hc
theorem apl1 (h : tr_RAbstractStringBuilder_append4 bs cnt f n o x) (hc : cnt.toInt = (c : Int)) (hn : c ≤ n) : o.toInt = ((c + bs.length : Nat) : Int) ∧ (∀ j, j < c → x j = f j) ∧ (∀ j, j < bs.length → x (c + j) = bs.getD j 0) ∧ c + bs.length ≤ n := by
  refine h (fun o x => o.toInt = ((c + bs.length : Nat) : Int) ∧ (∀ j, j < c → x j = f j) ∧ (∀ j, j < bs.length → x (c + j) = bs.getD j 0) ∧ c + bs.length ≤ n) ?_
  · intro x1 x2 x3 x4 h1 h2 h3 h4 h5 h6
    have q1 := sl2_tr h2
    have q2 := ecm_tr h4
    obtain ⟨p1, p2⟩ := ps2_tr h5 hc
    exact ⟨by omega, fun j hj => p1 j hj, p2, by omega⟩
theorem apl (h : tr_RStringBuilder_append4 bs cnt f n o x) (hc : cnt.toInt = (c : Int)) (hn : c ≤ n) : o.toInt = ((c + bs.length : Nat) : Int) ∧ (∀ j, j < c → x j = f j) ∧ (∀ j, j < bs.length → x (c + j) = bs.getD j 0) ∧ c + bs.length ≤ n := by
  refine h (fun o x => o.toInt = ((c + bs.length : Nat) : Int) ∧ (∀ j, j < c → x j = f j) ∧ (∀ j, j < bs.length → x (c + j) = bs.getD j 0) ∧ c + bs.length ≤ n) ?_
  · intro x1 x2 h1 h2
    exact apl1 h2 hc hn
theorem aplg1 (h : tr_RAbstractStringBuilder_append6 bs cnt f n o m x) (hc : cnt.toInt = (c : Int)) (hn : c ≤ n) : o.toInt = ((c + bs.length : Nat) : Int) ∧ (∀ j, j < c → x j = f j) ∧ (∀ j, j < bs.length → x (c + j) = bs.getD j 0) ∧ c + bs.length ≤ m := by
  refine h (fun o m x => o.toInt = ((c + bs.length : Nat) : Int) ∧ (∀ j, j < c → x j = f j) ∧ (∀ j, j < bs.length → x (c + j) = bs.getD j 0) ∧ c + bs.length ≤ m) ?_
  · intro x1 x2 x3 x4 x5 x6 h1 h2 h3 h4 h5 h6
    have q1 := sl2_tr h2
    have q := eci_tr (c := c) hn h4
    have q2 := ecl_tr h4
    obtain ⟨p1, p2⟩ := ps2_tr h5 hc
    exact ⟨by omega, fun j hj => (p1 j hj).trans (q j hj), p2, by omega⟩
theorem aplg (h : tr_RStringBuilder_append6 bs cnt f n o m x) (hc : cnt.toInt = (c : Int)) (hn : c ≤ n) : o.toInt = ((c + bs.length : Nat) : Int) ∧ (∀ j, j < c → x j = f j) ∧ (∀ j, j < bs.length → x (c + j) = bs.getD j 0) ∧ c + bs.length ≤ m := by
  refine h (fun o m x => o.toInt = ((c + bs.length : Nat) : Int) ∧ (∀ j, j < c → x j = f j) ∧ (∀ j, j < bs.length → x (c + j) = bs.getD j 0) ∧ c + bs.length ≤ m) ?_
  · intro x1 x2 x3 h1 h2
    exact aplg1 h2 hc hn
theorem aps1 {l : Nat} (h : tr_RAbstractStringBuilder_append5 cnt f n g l o m x) (hc : cnt.toInt = (c : Int)) (hn : c ≤ n) : o.toInt = ((c + l : Nat) : Int) ∧ (∀ j, j < c → x j = f j) ∧ (∀ j, j < l → x (c + j) = g j) ∧ c + l ≤ m := by
  refine h (fun o m x => o.toInt = ((c + l : Nat) : Int) ∧ (∀ j, j < c → x j = f j) ∧ (∀ j, j < l → x (c + j) = g j) ∧ c + l ≤ m) ?_
  · intro x1 x2 x3 x4 x5 x6 h1 h2 h3 h4 h5 h6
    have q1 := sl_tr h2
    have q := eci_tr (c := c) hn h4
    have q2 := ecl_tr h4
    obtain ⟨p1, p2⟩ := ps1_tr h5 hc
    exact ⟨by omega, fun j hj => (p1 j hj).trans (q j hj), p2, by omega⟩
theorem aps {l : Nat} (h : tr_RStringBuilder_append5 cnt f n g l o m x) (hc : cnt.toInt = (c : Int)) (hn : c ≤ n) : o.toInt = ((c + l : Nat) : Int) ∧ (∀ j, j < c → x j = f j) ∧ (∀ j, j < l → x (c + j) = g j) ∧ c + l ≤ m := by
  refine h (fun o m x => o.toInt = ((c + l : Nat) : Int) ∧ (∀ j, j < c → x j = f j) ∧ (∀ j, j < l → x (c + j) = g j) ∧ c + l ≤ m) ?_
  · intro x1 x2 x3 h1 h2
    exact aps1 h2 hc hn
end RSU
