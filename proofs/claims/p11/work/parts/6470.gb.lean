/-- bit q of a row of words -/
def gbit (f : Nat → Int64) (q : Nat) : Bool := (f (q / 64)).toBitVec.getLsbD (q % 64)
section GBT
variable {f h : Nat → Int64} {i v : Int32} {x y z : Int64} {a m q : Nat}
theorem gbit_upd {i : Nat} : gbit (vp_updL f i y) q = if q / 64 = i then y.toBitVec.getLsbD (q % 64) else gbit f q := by
  unfold gbit vp_updL
  by_cases e : q / 64 = i
  · rw [if_pos e, if_pos e]
  · rw [if_neg e, if_neg e]
theorem lb_shlM (hz : z = 1 <<< (v.toInt64 &&& 63)) (hi : v.toInt = (m : Int)) (n : Nat) (hn : n < 64) : z.toBitVec.getLsbD n = decide (n = m % 64) := by
  have e : v.toInt.toNat % 64 = m % 64 := by rw [hi, Int.toNat_natCast]
  rw [hz, lb_Qcnt v (by omega), e]
  exact lb_tab2 ⟨m % 64, Nat.mod_lt _ (by decide)⟩ ⟨n, hn⟩
theorem lb_xn (n : Nat) (hn : n < 64) : (x ^^^ (-1)).toBitVec.getLsbD n = !x.toBitVec.getLsbD n := by
  have e : ∀ j : Fin 64, (Int64.toBitVec (-1)).getLsbD j.val = true := by decide +kernel
  rw [Int64.toBitVec_xor, BitVec.getLsbD_xor, e ⟨n, hn⟩, Bool.xor_true]
theorem gb_q (e : q / 64 = a + m / 64) : (q % 64 = m % 64) ↔ q = 64 * a + m := by omega
/-- a bit is set -/
theorem gbit_or (hx : x = 1 <<< (v.toInt64 &&& 63)) (hv : v.toInt = (m : Int)) (hi : i.toInt = ((a + m / 64 : Nat) : Int)) (hy : y = f i.toNatClampNeg ||| x) (hh : h = vp_updL f i.toNatClampNeg y) (q : Nat) : gbit h q = (gbit f q || decide (q = 64 * a + m)) := by
  have hq : q % 64 < 64 := Nat.mod_lt _ (by decide)
  rw [hh, gbit_upd, nnE hi]
  by_cases e : q / 64 = a + m / 64
  · rw [if_pos e, hy, nnE hi, Int64.toBitVec_or, BitVec.getLsbD_or, lb_shlM hx hv _ hq]
    unfold gbit
    rw [e]
    congr 1
    exact decide_eq_decide.mpr (gb_q e)
  · rw [if_neg e, decide_eq_false (fun z => e (by omega)), Bool.or_false]
/-- a bit is set unless another row has it -/
theorem gbit_orN {g : Nat → Int64} {u w : Int64} (hx : x = 1 <<< (v.toInt64 &&& 63)) (hv : v.toInt = (m : Int)) (hi : i.toInt = ((a + m / 64 : Nat) : Int)) (hu : u = g i.toNatClampNeg ^^^ (-1)) (hw : w = x &&& u) (hy : y = f i.toNatClampNeg ||| w) (hh : h = vp_updL f i.toNatClampNeg y) (q : Nat) : gbit h q = (gbit f q || (decide (q = 64 * a + m) && !gbit g q)) := by
  have hq : q % 64 < 64 := Nat.mod_lt _ (by decide)
  rw [hh, gbit_upd, nnE hi]
  by_cases e : q / 64 = a + m / 64
  · rw [if_pos e, hy, hw, hu, nnE hi, Int64.toBitVec_or, BitVec.getLsbD_or, Int64.toBitVec_and, BitVec.getLsbD_and, lb_shlM hx hv _ hq, lb_xn _ hq]
    unfold gbit
    rw [e]
    congr 2
    exact decide_eq_decide.mpr (gb_q e)
  · rw [if_neg e, decide_eq_false (fun z => e (by omega)), Bool.false_and, Bool.or_false]
/-- a bit is cleared -/
theorem gbit_clr {u : Int64} (hx : x = 1 <<< (v.toInt64 &&& 63)) (hv : v.toInt = (m : Int)) (hi : i.toInt = ((a + m / 64 : Nat) : Int)) (hu : u = x ^^^ (-1)) (hy : y = f i.toNatClampNeg &&& u) (hh : h = vp_updL f i.toNatClampNeg y) (q : Nat) : gbit h q = (gbit f q && !decide (q = 64 * a + m)) := by
  have hq : q % 64 < 64 := Nat.mod_lt _ (by decide)
  rw [hh, gbit_upd, nnE hi]
  by_cases e : q / 64 = a + m / 64
  · rw [if_pos e, hy, hu, nnE hi, Int64.toBitVec_and, BitVec.getLsbD_and, lb_xn _ hq, lb_shlM hx hv _ hq]
    unfold gbit
    rw [e]
    congr 2
    exact decide_eq_decide.mpr (gb_q e)
  · rw [if_neg e, decide_eq_false (fun z => e (by omega)), Bool.not_false, Bool.and_true]
theorem gbit_0 {f : Nat → Int64} {q : Nat} (h : f (q / 64) = 0) : gbit f q = false := by unfold gbit; rw [h]; simp
/-- bits of a word that is put in a row -/
theorem gbit_w {i : Nat} (h : f i = y) (q : Nat) (hq : q / 64 = i) : gbit f q = y.toBitVec.getLsbD (q % 64) := by unfold gbit; rw [hq, h]
theorem bit_or (hz : z = x ||| y) (n : Nat) : z.toBitVec.getLsbD n = (x.toBitVec.getLsbD n || y.toBitVec.getLsbD n) := by rw [hz, Int64.toBitVec_or, BitVec.getLsbD_or]
theorem bit_and (hz : z = x &&& y) (n : Nat) : z.toBitVec.getLsbD n = (x.toBitVec.getLsbD n && y.toBitVec.getLsbD n) := by rw [hz, Int64.toBitVec_and, BitVec.getLsbD_and]
theorem bit_not (hz : z = x ^^^ (-1)) (n : Nat) (hn : n < 64) : z.toBitVec.getLsbD n = !x.toBitVec.getLsbD n := by rw [hz]; exact lb_xn n hn
theorem bit_eq (h : ∀ n, n < 64 → x.toBitVec.getLsbD n = y.toBitVec.getLsbD n) : x = y := by
  rw [← Int64.toBitVec_inj]
  exact BitVec.eq_of_getLsbD_eq (fun k hk => h k hk)
/-- the bit that is asked for -/
theorem tst_bit {u w : Int64} (hi : i.toInt = ((a + m / 64 : Nat) : Int)) (hv : v.toInt = (m : Int)) (hx : x = f i.toNatClampNeg) (hu : u = x >>> (v.toInt64 &&& 63)) (hw : w = u &&& 1) : (w = 0) ↔ gbit f (64 * a + m) = false := by
  have hq : (64 * a + m) / 64 = a + m / 64 := by omega
  have hr : (64 * a + m) % 64 = m % 64 := by omega
  unfold gbit
  rw [hq, hr, ← nnE hi, ← hx]
  exact sh_bitM hu hw hv
end GBT
