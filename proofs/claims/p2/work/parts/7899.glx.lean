/-! exact bits: clear; what back does -/
theorem rbt_clr {f f2 : Nat → Int64} {i z : Int32} {u v w x : Int64} (hz : z.toInt = i.toInt / 64) (hu : u = f z.toNatClampNeg) (hv : v = 1 <<< (i.toInt64 &&& 63)) (hx : x = v ^^^ (-1)) (hw : w = u &&& x) (hf : f2 = vp_updL f z.toNatClampNeg w) (h0 : 0 ≤ i.toInt) : ∀ k : Nat, rbt f2 k = (rbt f k && !decide ((k : Int) = i.toInt)) := fun k => by
  have hzn : (z.toNatClampNeg : Int) = z.toInt := g_nn (by omega)
  have hm1 : ∀ j : Fin 64, ((-1 : Int64)).toBitVec.getLsbD j.val = true := by decide +kernel
  rw [rbt_updL hf]
  split
  · next e =>
    rw [hw, Int64.toBitVec_and, BitVec.getLsbD_and, hu, ← e]
    show (rbt f k && _) = _
    congr 1
    rw [hx, Int64.toBitVec_xor, BitVec.getLsbD_xor, hm1 ⟨k % 64, by omega⟩, hv, lb_Qcnt i h0]
    have h2 : ((1 : Int64) <<< (Int64.ofNat (i.toInt.toNat % 64 % 64))).toBitVec.getLsbD (k % 64) = decide (k % 64 = i.toInt.toNat % 64) := r1_bit ⟨i.toInt.toNat % 64, by omega⟩ ⟨k % 64, by omega⟩
    rw [Nat.mod_mod] at h2
    rw [h2]
    have h3 : decide (k % 64 = i.toInt.toNat % 64) = decide ((k : Int) = i.toInt) := by
      apply decide_eq_decide.mpr
      omega
    rw [h3]
    cases decide ((k : Int) = i.toInt) <;> rfl
  · next e =>
    have hne : ¬ (k : Int) = i.toInt := fun c => e (by omega)
    rw [decide_eq_false hne, Bool.not_false, Bool.and_true]
theorem bkS_of {e : va_E} {op t a b s ra rb : Int32} {sl : Bool} {S : Nat → Bool} {k : Nat} (he : e = .inr (20, [.int op, .int t, .int a, .int b, .int s, .int ra, .int rb])) : bkS e sl S k = bkV sl op.toInt t.toInt a.toInt b.toInt s.toInt ra.toInt rb.toInt S k := by
  rw [he]
  rfl
/-- the set behind a row without slots: c1 cleared, ca, cb set -/
theorem bk_n {op t a b s ra rb : Int} {S : Nat → Bool} {k : Nat} {x : Bool} (c1 ca cb : Bool) (h1 : decide (op ≤ 21) = c1) (ha : decide (op ≠ 20 ∧ op ≠ 21 ∧ op ≠ 30 ∧ ra = 1) = ca) (hb : decide (0 < op ∧ op < 20 ∧ rb = 1) = cb)
    (hx : x = (((S k && !(c1 && decide ((k : Int) = t))) || (ca && decide ((k : Int) = a))) || (cb && decide ((k : Int) = b)))) : x = bkV false op t a b s ra rb S k := by
  rw [hx]
  unfold bkV
  rw [if_neg (by decide), h1, ha, hb]
theorem bk_s {op t a b s ra rb : Int} {S : Nat → Bool} {k : Nat} {x : Bool} (c1 ca : Bool) (h1 : decide (op = 23) = c1) (ha : decide (op = 21) = ca)
    (hx : x = ((S k && !(c1 && decide ((k : Int) = s))) || (ca && decide ((k : Int) = s)))) : x = bkV true op t a b s ra rb S k := by
  rw [hx]
  unfold bkV
  rw [if_pos rfl, h1, ha]
