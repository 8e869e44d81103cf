theorem gB_01 {x : Int32} (h : gB x 0 1) : x = 0 ∨ x = 1 := by
  rcases (show x.toInt = 0 ∨ x.toInt = 1 by omega) with h2 | h2
  · exact Or.inl (Int32.toInt_inj.mp (h2.trans (by decide)))
  · exact Or.inr (Int32.toInt_inj.mp (h2.trans (by decide)))
theorem gT_bool {x : Int32} (h : gB x 0 1) : fits .boolean (.int x) = true := by
  rcases gB_01 h with rfl | rfl <;> rfl
theorem gN_char {x : Int32} (h : gB x 0 65535) : narrow .char (.int x) = .int x := by
  have h1 := gI_nat (x := x) h.1
  have h2 : (x.toUInt32 % 65536).toInt32 = x := by
    apply Int32.toBitVec_inj.mp
    apply BitVec.eq_of_toNat_eq
    show x.toUInt32.toNat % 65536 = x.toBitVec.toNat
    have h3 : x.toUInt32.toNat = x.toBitVec.toNat := rfl
    rw [h3]
    omega
  show Value.int _ = Value.int _
  congr 1
theorem gN_byte {x : Int32} (h : gB x (-128) 127) : narrow .byte (.int x) = .int x := by
  show Value.int _ = Value.int _
  congr 1
  apply Int32.toInt_inj.mp
  show (x.toInt8.toInt32).toInt = x.toInt
  rw [Int8.toInt_toInt32, Int32.toInt_toInt8]
  have h3 : ((2 ^ 8 : Nat) : Int) = 256 := rfl
  exact Int.bmod_eq_of_le (by omega) (by omega)
theorem gI_ofN {z : Int32} {n : Nat} (hz : z = Int32.ofNat n) (h : (n : Int) ≤ 65535) : z.toInt = n := by
  subst hz
  exact gI_ofNat (x := Int32.ofNat n) (k := n) (by show n % 2 ^ 32 = n; omega) (by omega)
theorem gC_cmpS {z : Int32} {u w : Int64} (hz : z = lg_cmp u w) (h : z.toInt ≠ 0) : ¬ u = w := gC_cmpN hz (fun e => h (by rw [e]; decide))
