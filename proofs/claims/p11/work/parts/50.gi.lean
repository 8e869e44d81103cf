/-! bounds of ints, contents of arrays -/
abbrev gB (x : Int32) (a b : Int) : Prop := a ≤ x.toInt ∧ x.toInt ≤ b
abbrev gF (f : Nat → Int32) (a b : Int) : Prop := ∀ k, a ≤ (f k).toInt ∧ (f k).toInt ≤ b
section GI
variable {x y z : Int32} {a b c d e g n : Int}
theorem gBl (h : x.toInt = n) : gB x n n := ⟨Int.le_of_eq h.symm, Int.le_of_eq h⟩
theorem gB_w (h : gB x a b) (h1 : c ≤ a) (h2 : b ≤ d) : gB x c d := ⟨Int.le_trans h1 h.1, Int.le_trans h.2 h2⟩
theorem gF_w {f : Nat → Int32} (h : gF f a b) (h1 : c ≤ a) (h2 : b ≤ d) : gF f c d := fun k => gB_w (h k) h1 h2
theorem gB_any (x : Int32) : gB x (-2147483648) 2147483647 := ⟨Int32.le_toInt x, by have := Int32.toInt_lt x; omega⟩
theorem gF_any (f : Nat → Int32) : gF f (-2147483648) 2147483647 := fun k => gB_any (f k)
theorem gF_upd {f h : Nat → Int32} {i : Nat} (hh : h = upd f i z) (hf : gF f a b) (hz : gB z a b) : gF h a b := fun k => by
  rw [hh]; unfold upd; split
  · exact hz
  · exact hf k
theorem gF_0 : gF (fun _ => 0) 0 0 := fun _ => ⟨show (0 : Int) ≤ Int32.toInt 0 by decide, show Int32.toInt 0 ≤ 0 by decide⟩
theorem gB_in {N : Nat} (h : gB x a b) (h1 : 0 ≤ a) (h2 : b < N) : vp_in x N := vp_in_iff.mpr ⟨by omega, by omega⟩
theorem gB_inr {N : Nat} (h1 : 0 ≤ x.toInt) (h2 : x.toInt < N) : vp_in x N := vp_in_iff.mpr ⟨h1, h2⟩
theorem gM_of (h1 : -2147483648 ≤ n) (h2 : n ≤ 2147483647) : n.bmod (2 ^ 32) = n := by
  have h : ((2 ^ 32 : Nat) : Int) = 4294967296 := rfl
  exact Int.bmod_eq_of_le (by omega) (by omega)
theorem gI_add (hz : z = x + y) (bx : gB x a b) (bz : gB y c d) (h1 : -2147483648 ≤ a + c) (h2 : b + d ≤ 2147483647) : z.toInt = x.toInt + y.toInt := by
  rw [hz, Int32.toInt_add]; exact gM_of (by omega) (by omega)
theorem gI_sub (hz : z = x - y) (bx : gB x a b) (bz : gB y c d) (h1 : -2147483648 ≤ a - d) (h2 : b - c ≤ 2147483647) : z.toInt = x.toInt - y.toInt := by
  rw [hz, Int32.toInt_sub]; exact gM_of (by omega) (by omega)
theorem gI_inc (hz : z = x + Int32.ofInt n) (hn : (Int32.ofInt n).toInt = n) (bx : gB x a b) (h1 : -2147483648 ≤ a + n) (h2 : b + n ≤ 2147483647) : z.toInt = x.toInt + n := by
  rw [hz, Int32.toInt_add, hn]; exact gM_of (by omega) (by omega)
theorem gI_neg (hz : z = -x) (bx : gB x a b) (h1 : -2147483648 < a) : z.toInt = -x.toInt := by
  have h3 := Int32.toInt_lt x
  rw [hz, Int32.toInt_neg]; exact gM_of (by omega) (by omega)
theorem gI_mulB (bx : gB x a b) (bz : gB y c d) (ha : 0 ≤ a) (hc : 0 ≤ c) : 0 ≤ x.toInt * y.toInt ∧ x.toInt * y.toInt ≤ b * d :=
  ⟨Int.mul_nonneg (by omega) (by omega), Int.mul_le_mul bx.2 bz.2 (by omega) (by omega)⟩
theorem gI_mul (hz : z = x * y) (bx : gB x a b) (bz : gB y c d) (ha : 0 ≤ a) (hc : 0 ≤ c) (h : b * d ≤ 2147483647) : z.toInt = x.toInt * y.toInt := by
  have h3 := gI_mulB bx bz ha hc
  rw [hz, Int32.toInt_mul]; exact gM_of (by omega) (by omega)
theorem gB_mul (hz : z = x * y) (bx : gB x a b) (bz : gB y c d) (ha : 0 ≤ a) (hc : 0 ≤ c) (h : b * d = e) (h2 : e ≤ 2147483647) : gB z 0 e := by
  subst h
  have h3 := gI_mulB bx bz ha hc
  rw [gB, gI_mul hz bx bz ha hc h2]; exact h3
theorem gB_add (h : z.toInt = x.toInt + y.toInt) (bx : gB x a b) (bz : gB y c d) (h1 : a + c = e) (h2 : b + d = g) : gB z e g := by
  subst h1 h2; exact ⟨by omega, by omega⟩
theorem gB_sub (h : z.toInt = x.toInt - y.toInt) (bx : gB x a b) (bz : gB y c d) (h1 : a - d = e) (h2 : b - c = g) : gB z e g := by
  subst h1 h2; exact ⟨by omega, by omega⟩
theorem gB_inc (h : z.toInt = x.toInt + n) (bx : gB x a b) (h1 : a + n = e) (h2 : b + n = g) : gB z e g := by
  subst h1 h2; exact ⟨by omega, by omega⟩
theorem gB_neg (h : z.toInt = -x.toInt) (bx : gB x a b) (h1 : -b = e) (h2 : -a = g) : gB z e g := by
  subst h1 h2; exact ⟨by omega, by omega⟩
theorem gI_shr {k : Nat} (hz : z = x >>> (y &&& 31)) (hy : ((y &&& 31).toBitVec.smod 32).toNat = k) : z.toInt = x.toInt / 2 ^ k := by
  subst hz hy
  show (x.toBitVec.sshiftRight _).toInt = _
  rw [BitVec.toInt_sshiftRight, Int.shiftRight_eq_div_pow]
  rfl
theorem gI_nat (h : 0 ≤ x.toInt) : (x.toBitVec.toNat : Int) = x.toInt := by
  have h1 : x.toInt = x.toBitVec.toInt := rfl
  have h2 := x.toBitVec.isLt
  rw [h1] at h ⊢
  rw [BitVec.toInt_eq_toNat_cond] at h ⊢
  split <;> rename_i h3
  · rfl
  · rw [if_neg h3] at h; omega
theorem gI_ofNat {k : Nat} (h : x.toBitVec.toNat = k) (h2 : k < 2147483648) : x.toInt = k := by
  show x.toBitVec.toInt = _
  rw [BitVec.toInt_eq_toNat_cond, h, if_pos (by omega)]
theorem gI_shl {k : Nat} (hz : z = x <<< (y &&& 31)) (hy : ((y &&& 31).toBitVec.smod 32).toNat = k) (bx : gB x a b) (ha : 0 ≤ a) (hb : b * 2 ^ k ≤ 2147483647) : z.toInt = x.toInt * 2 ^ k := by
  subst hz hy
  have h0 : 0 ≤ x.toInt := by omega
  have h1 := gI_nat h0
  have h5 : x.toInt * 2 ^ ((y &&& 31).toBitVec.smod 32).toNat ≤ b * 2 ^ ((y &&& 31).toBitVec.smod 32).toNat := Int.mul_le_mul_of_nonneg_right bx.2 (Int.le_of_lt (Int.pow_pos (by decide)))
  have h6 : x.toBitVec.toNat * 2 ^ ((y &&& 31).toBitVec.smod 32).toNat < 2147483648 := by
    have : ((x.toBitVec.toNat * 2 ^ ((y &&& 31).toBitVec.smod 32).toNat : Nat) : Int) = x.toInt * 2 ^ ((y &&& 31).toBitVec.smod 32).toNat := by
      rw [← h1]; simp
    omega
  have h7 : (x <<< (y &&& 31)).toBitVec.toNat = x.toBitVec.toNat * 2 ^ ((y &&& 31).toBitVec.smod 32).toNat := by
    show (x.toBitVec <<< ((y &&& 31).toBitVec.smod 32)).toNat = _
    rw [BitVec.shiftLeft_eq', BitVec.toNat_shiftLeft, Nat.shiftLeft_eq, Nat.mod_eq_of_lt (by omega)]
  rw [gI_ofNat h7 h6, ← h1]; simp
theorem gB_and (hz : z = x &&& y) (bz : gB y c d) (hc : 0 ≤ c) : gB z 0 d := by
  have h0 : 0 ≤ y.toInt := by omega
  have h1 := gI_nat h0
  have h2 : z.toBitVec.toNat = x.toBitVec.toNat &&& y.toBitVec.toNat := by rw [hz, Int32.toBitVec_and, BitVec.toNat_and]
  have h3 : x.toBitVec.toNat &&& y.toBitVec.toNat ≤ y.toBitVec.toNat := Nat.and_le_right
  have h5 := Int32.toInt_lt y
  have h4 := gI_ofNat h2 (by omega)
  exact ⟨by omega, by omega⟩
theorem gB_andL (hz : z = y &&& x) (bz : gB y c d) (hc : 0 ≤ c) : gB z 0 d := by
  have h0 : 0 ≤ y.toInt := by omega
  have h1 := gI_nat h0
  have h2 : z.toBitVec.toNat = y.toBitVec.toNat &&& x.toBitVec.toNat := by rw [hz, Int32.toBitVec_and, BitVec.toNat_and]
  have h3 : y.toBitVec.toNat &&& x.toBitVec.toNat ≤ y.toBitVec.toNat := Nat.and_le_left
  have h5 := Int32.toInt_lt y
  have h4 := gI_ofNat h2 (by omega)
  exact ⟨by omega, by omega⟩
theorem gI_or {k m : Nat} (hz : z = x ||| y) (hx : x.toInt = (m * 2 ^ k : Nat)) (bz : gB y 0 d) (hd : d < 2 ^ k) (hm : m * 2 ^ k + 2 ^ k ≤ 2147483648) : z.toInt = x.toInt + y.toInt := by
  have h1 := gI_nat (x := x) (by omega)
  have h2 := gI_nat (x := y) bz.1
  have h4 : x.toBitVec.toNat = m * 2 ^ k := by omega
  have h6 : ((2 ^ k : Nat) : Int) = 2 ^ k := by simp
  have h5 : y.toBitVec.toNat < 2 ^ k := by omega
  have h3 : z.toBitVec.toNat = m * 2 ^ k + y.toBitVec.toNat := by
    rw [hz, Int32.toBitVec_or, BitVec.toNat_or, h4, ← Nat.shiftLeft_eq, Nat.shiftLeft_add_eq_or_of_lt h5]
  rw [gI_ofNat h3 (by omega)]
  omega
theorem gI_div (hz : z = x / y) (bx : gB x a b) (ha : 0 ≤ a) (hy : y.toInt = n) (hn : 0 < n) : z.toInt = x.toInt / n := by
  have h0 : Int32.toInt (-1) = -1 := by decide
  have h : y ≠ -1 := fun h => by rw [h] at hy; omega
  rw [hz, Int32.toInt_div_of_ne_right _ _ h, hy, Int.tdiv_eq_ediv_of_nonneg (by omega)]
theorem gC_cmpE {u w : Int64} (hz : z = lg_cmp u w) (h : z = 0) : u = w := by
  rw [h] at hz; unfold lg_cmp at hz; split at hz
  · exact absurd hz (by decide)
  · split at hz
    · assumption
    · exact absurd hz (by decide)
theorem gC_cmpN {u w : Int64} (hz : z = lg_cmp u w) (h : ¬ z = 0) : ¬ u = w := fun e => h (by rw [hz, e]; simp [lg_cmp])
theorem gB_cmp {u w : Int64} (hz : z = lg_cmp u w) : gB z (-1) 1 := by
  rw [hz]; unfold lg_cmp; split
  · exact ⟨by decide, by decide⟩
  · split
    · exact ⟨by decide, by decide⟩
    · exact ⟨by decide, by decide⟩
theorem gN_bool (h : gB x 0 1) : narrow .boolean (.int x) = .int x := by
  have h1 : x = 0 ∨ x = 1 := by
    rcases (show x.toInt = 0 ∨ x.toInt = 1 by omega) with h2 | h2
    · exact Or.inl (Int32.toInt_inj.mp (h2.trans (by decide)))
    · exact Or.inr (Int32.toInt_inj.mp (h2.trans (by decide)))
  rcases h1 with rfl | rfl <;> rfl
theorem gB_byte : gB (vp_nar .byte x) (-128) 127 := by
  show -128 ≤ (x.toInt8.toInt32).toInt ∧ (x.toInt8.toInt32).toInt ≤ 127
  rw [Int8.toInt_toInt32]
  have h1 := Int8.le_toInt x.toInt8
  have h2 := Int8.toInt_lt x.toInt8
  exact ⟨by omega, by omega⟩
theorem gB_i2b (hz : z = x.toInt8.toInt32) : gB z (-128) 127 := by
  rw [hz, gB, Int8.toInt_toInt32]
  have h1 := Int8.le_toInt x.toInt8
  have h2 := Int8.toInt_lt x.toInt8
  exact ⟨by omega, by omega⟩
theorem gB_i2c (hz : z = (x.toUInt32 % 65536).toInt32) : gB z 0 65535 := by
  have h : z.toBitVec.toNat = x.toUInt32.toNat % 65536 := by rw [hz]; rfl
  have h2 := gI_ofNat h (by omega)
  exact ⟨by omega, by omega⟩
/-- bounds that a comparison gives -/
theorem gB_hi (bx : gB x a b) (bz : gB y c d) (h : x.toInt < y.toInt) (e1 : d - 1 = g) : gB x a g := ⟨bx.1, by omega⟩
theorem gB_lo (bx : gB x a b) (bz : gB y c d) (h : y.toInt < x.toInt) (e1 : c + 1 = g) : gB x g b := ⟨by omega, bx.2⟩
theorem gB_hiE (bx : gB x a b) (bz : gB y c d) (h : x.toInt ≤ y.toInt) : gB x a d := ⟨bx.1, by omega⟩
theorem gB_loE (bx : gB x a b) (bz : gB y c d) (h : y.toInt ≤ x.toInt) : gB x c b := ⟨by omega, bx.2⟩
theorem gC_lt (h : x < y) : x.toInt < y.toInt := Int32.lt_iff_toInt_lt.mp h
theorem gC_nlt (h : ¬ x < y) : y.toInt ≤ x.toInt := Int.not_lt.mp (fun z => h (Int32.lt_iff_toInt_lt.mpr z))
theorem gC_le (h : x ≤ y) : x.toInt ≤ y.toInt := Int32.le_iff_toInt_le.mp h
theorem gC_nle (h : ¬ x ≤ y) : y.toInt < x.toInt := Int.not_le.mp (fun z => h (Int32.le_iff_toInt_le.mpr z))
theorem gC_eq (h : x = y) : x.toInt = y.toInt := by rw [h]
theorem gC_ne (h : ¬ x = y) : x.toInt ≠ y.toInt := fun z => h (Int32.toInt_inj.mp z)
theorem gL0 : Int32.toInt 0 = 0 := by decide
end GI
section GIR
variable {v : gEnv} {l : Launch} {R : Room} {Qf : gFin} {k : gKey} {pc : Nat} {L : List (Nat × Value)} {st : List Value} {ws : va_W} {cs sl a M q t : Nat} {cA : ClassId} {y z : Int32} {f : Nat → Int32}
theorem G_namL {x : Int64} (n : ∀ z, z = x → G v l R Qf k pc L (.long z :: st) ws cs sl) : G v l R Qf k pc L (.long x :: st) ws cs sl := n x rfl
theorem G_iastN (q t : Nat) (d : decode k.1 pc = .ok (.iastore, 1)) (he : ws[q]? = some (a, .inl (cA, M, .inl f))) (ht : v.2.2.1[t]? = some (cA, .int)) (hin : vp_in y M) (n : ∀ h, h = upd f y.toNatClampNeg z → G v l R Qf k (pc + 1) L st (ws.set q (a, .inl (cA, M, .inl h))) cs sl) : G v l R Qf k pc L (.int z :: .int y :: .ref a :: st) ws cs sl := G_iast q t d he ht hin rfl (n _ rfl)
theorem G_bastN (q t : Nat) (d : decode k.1 pc = .ok (.bastore, 1)) (he : ws[q]? = some (a, .inl (cA, M, .inl f))) (ht : v.2.2.1[t]? = some (cA, .byte)) (hin : vp_in y M) (n : ∀ h, h = upd f y.toNatClampNeg (vp_nar .byte z) → G v l R Qf k (pc + 1) L st (ws.set q (a, .inl (cA, M, .inl h))) cs sl) : G v l R Qf k pc L (.int z :: .int y :: .ref a :: st) ws cs sl := G_bast q t d he ht hin rfl (n _ rfl)
theorem G_lastN {g : Nat → Int64} {u : Int64} (q t : Nat) (d : decode k.1 pc = .ok (.lastore, 1)) (he : ws[q]? = some (a, .inl (cA, M, .inr (.inl g)))) (ht : v.2.2.1[t]? = some (cA, .long)) (hin : vp_in y M) (n : ∀ h, h = vp_updL g y.toNatClampNeg u → G v l R Qf k (pc + 1) L st (ws.set q (a, .inl (cA, M, .inr (.inl h)))) cs sl) : G v l R Qf k pc L (.long u :: .int y :: .ref a :: st) ws cs sl := G_last q t d he ht hin rfl (n _ rfl)
end GIR
theorem gI_max {x y z : Int32} (hz : z = if x < y then y else x) : x.toInt ≤ z.toInt ∧ y.toInt ≤ z.toInt ∧ (z.toInt = x.toInt ∨ z.toInt = y.toInt) := by
  split at hz <;> rename_i h <;> subst hz
  · have := gC_lt h; omega
  · have := gC_nlt h; omega
theorem gI_min {x y z : Int32} (hz : z = if y < x then y else x) : x.toInt ≥ z.toInt ∧ y.toInt ≥ z.toInt ∧ (z.toInt = x.toInt ∨ z.toInt = y.toInt) := by
  split at hz <;> rename_i h <;> subst hz
  · have := gC_lt h; omega
  · have := gC_nlt h; omega
