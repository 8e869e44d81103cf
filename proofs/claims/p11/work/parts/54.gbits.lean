/-! bits of longs: no bit at or above m is set; words of such bits in arrays, wn words to a row -/
def lb_Q (x : Int64) (m : Int) : Prop := ∀ n : Nat, n < 64 → x.toBitVec.getLsbD n = true → (n : Int) < m
section GBITS
variable {x y z : Int64} {m m' : Int}
theorem lb_Q0 : lb_Q 0 m := fun n _ h => by
  have h1 : (0 : Int64).toBitVec.getLsbD n = false := BitVec.getLsbD_zero
  rw [h1] at h; cases h
theorem lb_Qw (h : lb_Q x m) (hm : m ≤ m') : lb_Q x m' := fun n h1 h2 => Int.lt_of_lt_of_le (h n h1 h2) hm
theorem lb_Q64 (x : Int64) (hm : 64 ≤ m) : lb_Q x m := fun n h _ => by omega
theorem lb_Qor (hz : z = x ||| y) (hx : lb_Q x m) (hy : lb_Q y m) : lb_Q z m := fun n h1 h2 => by
  rw [hz, Int64.toBitVec_or, BitVec.getLsbD_or, Bool.or_eq_true] at h2
  rcases h2 with h2 | h2
  · exact hx n h1 h2
  · exact hy n h1 h2
theorem lb_QandL (hz : z = x &&& y) (hx : lb_Q x m) : lb_Q z m := fun n h1 h2 => by
  rw [hz, Int64.toBitVec_and, BitVec.getLsbD_and, Bool.and_eq_true] at h2
  exact hx n h1 h2.1
theorem lb_QandR (hz : z = x &&& y) (hy : lb_Q y m) : lb_Q z m := fun n h1 h2 => by
  rw [hz, Int64.toBitVec_and, BitVec.getLsbD_and, Bool.and_eq_true] at h2
  exact hy n h1 h2.2
/-- 1L << i has the bit i % 64 alone -/
theorem lb_Qtab : ∀ j : Fin 64, ∀ n : Fin 64, ((1 : Int64) <<< (Int64.ofNat j.val)).toBitVec.getLsbD n.val = true → n.val = j.val := by decide +kernel
theorem lb_Qcnt (i : Int32) (h : 0 ≤ i.toInt) : i.toInt64 &&& 63 = Int64.ofNat (i.toInt.toNat % 64) := by
  apply Int64.toBitVec_inj.mp
  apply BitVec.eq_of_toNat_eq
  have h1 := gI_nat h
  have h2 : i.toInt64.toBitVec.toNat = i.toBitVec.toNat := by
    have h3 : i.toInt64.toInt = i.toInt := Int32.toInt_toInt64 i
    have h4 : i.toInt64.toInt = i.toInt64.toBitVec.toInt := rfl
    rw [h4, BitVec.toInt_eq_toNat_cond] at h3
    have h5 := i.toInt64.toBitVec.isLt
    have h6 := Int32.toInt_lt i
    split at h3 <;> omega
  rw [Int64.toBitVec_and, BitVec.toNat_and, h2]
  have h7 : (63 : Int64).toBitVec.toNat = 2 ^ 6 - 1 := by decide
  rw [h7, Nat.and_two_pow_sub_one_eq_mod]
  show _ = (i.toInt.toNat % 64) % 2 ^ 64
  omega
theorem lb_Qshl {i : Int32} (hz : z = 1 <<< (i.toInt64 &&& 63)) (h : 0 ≤ i.toInt) : lb_Q z (i.toInt % 64 + 1) := fun n h1 h2 => by
  rw [hz, lb_Qcnt i h] at h2
  have h3 := lb_Qtab ⟨i.toInt.toNat % 64, Nat.mod_lt _ (by decide)⟩ ⟨n, h1⟩ h2
  have h4 : n = i.toInt.toNat % 64 := h3
  omega
end GBITS
/-- contents: word k of a row of wn words has no bit that stands for nm or more -/
def lb_W (f : Nat → Int64) (N wn nm : Int) : Prop := ∀ k : Nat, (k : Int) < N → lb_Q (f k) (nm - 64 * ((k : Int) % wn))
section GW
variable {f h : Nat → Int64} {N wn nm : Int} {i : Int32} {u : Int64} {w : Int}
theorem lb_Wld (hu : u = f i.toNatClampNeg) (hf : lb_W f N wn nm) (h0 : 0 ≤ i.toInt) (h1 : i.toInt < N) (hw : i.toInt % wn = w) : lb_Q u (nm - 64 * w) := by
  have h2 := g_nn h0
  have h3 := hf i.toNatClampNeg (by omega)
  rw [h2, hw] at h3
  rw [hu]; exact h3
theorem lb_Wst (hh : h = vp_updL f i.toNatClampNeg u) (hf : lb_W f N wn nm) (h0 : 0 ≤ i.toInt) (hw : i.toInt % wn = w) (hu : lb_Q u (nm - 64 * w)) : lb_W h N wn nm := fun k hk => by
  rw [hh]; unfold vp_updL
  have h2 := g_nn h0
  by_cases e : k = i.toNatClampNeg
  · rw [if_pos e, e, h2, hw]; exact hu
  · rw [if_neg e]; exact hf k hk
theorem lb_Wle {N' : Int} (hf : lb_W f N wn nm) (hN : N' ≤ N) : lb_W f N' wn nm := fun k hk => hf k (by omega)
def lb_Z (f : Nat → Int64) (n : Int) : Prop := ∀ k : Nat, (k : Int) < n → f k = 0
theorem lb_Z0 : lb_Z f 0 := fun k hk => absurd hk (by omega)
theorem lb_Zst {n : Int} (hh : h = vp_updL f i.toNatClampNeg 0) (h0 : 0 ≤ i.toInt) (hf : lb_Z f i.toInt) (hn : n = i.toInt + 1) : lb_Z h n := fun k hk => by
  rw [hh]; unfold vp_updL
  have h2 := g_nn h0
  by_cases e : k = i.toNatClampNeg
  · rw [if_pos e]
  · rw [if_neg e]; exact hf k (by omega)
theorem lb_Wz (hf : lb_Z f N) : lb_W f N wn nm := fun k hk => by rw [hf k hk]; exact lb_Q0
theorem lb_Mod0 {a : Int} (h0 : 0 ≤ a) (h1 : a < wn) : a % wn = a := Int.emod_eq_of_lt h0 h1
theorem lb_Mod1 {a b p : Int} (ha : a = p + w) (hp : p = b * wn) (h0 : 0 ≤ w) (h1 : w < wn) : a % wn = w := by
  rw [ha, hp, Int.mul_add_emod_self_right]; exact Int.emod_eq_of_lt h0 h1
theorem lb_Mod2 {a p : Int} (ha : a = p + w) (hp : p % wn = 0) (h0 : 0 ≤ w) (h1 : w < wn) : a % wn = w := by
  rw [ha, Int.add_emod, hp, Int.zero_add, Int.emod_emod_of_dvd _ (Int.dvd_refl _)]; exact Int.emod_eq_of_lt h0 h1
theorem lb_Mod3 {b p : Int} (hp : p = b * wn) : p % wn = 0 := by rw [hp]; exact Int.mul_emod_left b wn
theorem lb_Lt1 {a b p B : Int} (ha : a = p + w) (hp : p = b * wn) (h1 : w < wn) (hw : 0 ≤ wn) (hb : b < B) : a < B * wn := by
  have h2 : (b + 1) * wn ≤ B * wn := Int.mul_le_mul_of_nonneg_right (by omega) hw
  have h3 : (b + 1) * wn = b * wn + wn := by rw [Int.add_mul, Int.one_mul]
  omega
end GW
