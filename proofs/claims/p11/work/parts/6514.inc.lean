/-! INPUT: four bytes an int -/
section INC
variable {q n : Nat}
def i4 (t : Nat → Int32) (q : Nat) : Nat → Int32
  | 0 => 0
  | j + 1 => (i4 t q j <<< ((8 : Int32) &&& 31)) ||| (t (4 * q + j) &&& 255)
theorem i4_c {t u : Nat → Int32} : ∀ j, (∀ k, k < j → t (4 * q + k) = u (4 * q + k)) → i4 t q j = i4 u q j
  | 0, _ => rfl
  | j + 1, h => by
    show (i4 t q j <<< ((8 : Int32) &&& 31)) ||| (t (4 * q + j) &&& 255) = (i4 u q j <<< ((8 : Int32) &&& 31)) ||| (u (4 * q + j) &&& 255)
    rw [i4_c j (fun k hk => h k (by omega)), h j (by omega)]
theorem a255 (x : Int32) : (x &&& 255) &&& 255 = x &&& 255 := by
  apply Int32.toBitVec_inj.mp
  show (x.toBitVec &&& 255#32) &&& 255#32 = x.toBitVec &&& 255#32
  rw [BitVec.and_assoc, BitVec.and_self]
theorem by_x {a1 : Int32} {Tape_size : Int32} {Tape_bytes : Nat → Int32} {o1 : Int32} (h0 : 0 ≤ a1.toInt) (hl : a1.toInt < Tape_size.toInt) (h : tr_Tape_byteAt a1 Tape_size Tape_bytes o1) : o1 = Tape_bytes a1.toNatClampNeg &&& 255 := by
  refine h (fun o1 => o1 = Tape_bytes a1.toNatClampNeg &&& 255) ?_ ?_ ?_
  · intro h1
    omega
  · intro h1 h2
    omega
  · intro x1 x2 h1 h2 h3 h4 h5
    rw [h5, h3]
theorem it_tl {a1 : Int32} {Tape_size : Int32} {Tape_bytes : Nat → Int32} {s1 : Int32} {s2 : Int32} {k : Nat} {e1 : Int32} (ha : a1.toInt = ((4 * q : Nat) : Int)) (hl : ((4 * q + 4 : Nat) : Int) ≤ Tape_size.toInt) (h8192 : Tape_size.toInt ≤ 8192) (h : tl_Tape_intAt_4 a1 Tape_size Tape_bytes s1 s2 k e1) : ∀ j : Nat, s1.toInt = (j : Int) → j ≤ 4 → s2 = i4 Tape_bytes q j → e1 = i4 Tape_bytes q 4 := by
  refine h (fun s1 s2 k e1 => ∀ j : Nat, s1.toInt = (j : Int) → j ≤ 4 → s2 = i4 Tape_bytes q j → e1 = i4 Tape_bytes q 4) ?_ ?_
  · intro l3_1 l2_1 h1 h2
    intro j hj hj4 hs
    rw [hs, show j = 4 by omega]
  · intro l3_1 l2_1 x1 x2 x3 x4 x5 x6 k e1 h1 h2 h3 h4 h5 h6 h7 h8 h9 ih
    intro j hj hj4 hs
    have e2 : x2.toInt = ((4 * q + j : Nat) : Int) := by
      have q := gI_add h4 (show gB a1 0 8192 from ⟨by omega, by omega⟩) (show gB l3_1 0 4 from ⟨by omega, by omega⟩) (by decide) (by decide)
      omega
    have b := by_x (by omega) (by omega) h6
    refine ih (j + 1) (by rw [h9]; omega) (by omega) ?_
    rw [h8, h7, b, a255, h3, hs, nnE e2]
    rfl
theorem it_tr {a1 : Int32} {Tape_size : Int32} {Tape_bytes : Nat → Int32} {o1 : Int32} (ha : a1.toInt = ((4 * q : Nat) : Int)) (hl : ((4 * q + 4 : Nat) : Int) ≤ Tape_size.toInt) (h8192 : Tape_size.toInt ≤ 8192) (h : tr_Tape_intAt a1 Tape_size Tape_bytes o1) : o1 = i4 Tape_bytes q 4 := by
  refine h (fun o1 => o1 = i4 Tape_bytes q 4) ?_
  · intro x1 h1
    exact it_tl ha hl h8192 h1 0 (by decide) (by decide) rfl
theorem ti_tl {c1 : Int32} {Tape_size : Int32} {Tape_bytes : Nat → Int32} {s1 : Int32} {s2 : Nat → Int32} {k : Nat} {e1 : Nat → Int32} (hc : c1.toInt = (n : Int)) (hn : ((4 * n : Nat) : Int) ≤ Tape_size.toInt) (h8192 : Tape_size.toInt ≤ 8192) (h : tl_Machine_takeInput_20 c1 Tape_size Tape_bytes s1 s2 k e1) : ∀ m : Nat, s1.toInt = (m : Int) → (∀ q, q < m → s2 q = i4 Tape_bytes q 4) → ∀ q, q < n → e1 q = i4 Tape_bytes q 4 := by
  refine h (fun s1 s2 k e1 => ∀ m : Nat, s1.toInt = (m : Int) → (∀ q, q < m → s2 q = i4 Tape_bytes q 4) → ∀ q, q < n → e1 q = i4 Tape_bytes q 4) ?_ ?_
  · intro l2_1 Machine_given_1 h1 h2
    intro m hm hz q hq
    exact hz q (by omega)
  · intro l2_1 Machine_given_1 x1 x2 x3 x4 k e1 h1 h2 h3 h4 h5 h6 ih
    intro m hm hz
    refine ih (m + 1) (by rw [h6]; omega) (fun q hq => ?_)
    rw [h5, nnE hm]
    by_cases e : q = m
    · rw [e, updE]
      exact it_tr (by omega) (by omega) h8192 h4
    · rw [updN e]; exact hz q (by omega)
theorem ti_tr {Tape_size : Int32} {Machine_given : Nat → Int32} {Tape_bytes : Nat → Int32} {o1 : Int32} {o2 : Int32} {o3 : Nat → Int32} (h0 : 0 ≤ Tape_size.toInt) (h8192 : Tape_size.toInt ≤ 8192) (h : tr_Machine_takeInput Tape_size Machine_given Tape_bytes o1 o2 o3) : ∃ n : Nat, (n : Int) = Tape_size.toInt / 4 ∧ o1.toInt = (n : Int) ∧ o2.toInt = (n : Int) ∧ ∀ q, q < n → o3 q = i4 Tape_bytes q 4 := by
  refine h (fun o1 o2 o3 => ∃ n : Nat, (n : Int) = Tape_size.toInt / 4 ∧ o1.toInt = (n : Int) ∧ o2.toInt = (n : Int) ∧ ∀ q, q < n → o3 q = i4 Tape_bytes q 4) ?_
  · intro x1 x2 x3 h1 h2 h3
    have e2 : x2.toInt = Tape_size.toInt / 4 := by omega
    refine ⟨(Tape_size.toInt / 4).toNat, by omega, by omega, by omega, ti_tl (n := (Tape_size.toInt / 4).toNat) (by omega) (by omega) h8192 h3 0 (by decide) (fun q hq => absurd hq (Nat.not_lt_zero q))⟩
theorem inp_c {Tape_size : Int32} {Tape_bytes : Nat → Int32} {Machine_given : Nat → Int32} {o1 : Int32} {o2 : Int32} {o3 : Int32} {o4 : Nat → Int32} (h0 : 0 ≤ Tape_size.toInt) (h8192 : Tape_size.toInt ≤ 8192) (h : tr_SpillForge_input Tape_size Tape_bytes Machine_given o1 o2 o3 o4) : ∃ n : Nat, (n : Int) = Tape_size.toInt / 4 ∧ o3.toInt = (n : Int) ∧ ∀ q, q < n → o4 q = i4 Tape_bytes q 4 := by
  refine h (fun o1 o2 o3 o4 => ∃ n : Nat, (n : Int) = Tape_size.toInt / 4 ∧ o3.toInt = (n : Int) ∧ ∀ q, q < n → o4 q = i4 Tape_bytes q 4) ?_
  · intro x1 x2 x3 x4 h1 h2 h3 h4 h5
    obtain ⟨n, y1, y2, y3, y4⟩ := ti_tr h0 h8192 h3
    exact ⟨n, y1, y3, y4⟩
end INC
