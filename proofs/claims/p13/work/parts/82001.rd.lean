theorem gI_i2c {x z : Int32} (hz : z = (x.toUInt32 % 65536).toInt32) (h0 : 0 ≤ x.toInt) (h1 : x.toInt ≤ 65535) : z.toInt = x.toInt := by
  have h : z.toBitVec.toNat = x.toUInt32.toNat % 65536 := by rw [hz]; rfl
  have h2 := gI_ofNat h (by omega)
  have h3 : x.toInt = if 2 * x.toBitVec.toNat < 2 ^ 32 then (x.toBitVec.toNat : Int) else (x.toBitVec.toNat : Int) - (2 ^ 32 : Nat) := BitVec.toInt_eq_toNat_cond x.toBitVec
  have h4 : x.toUInt32.toNat = x.toBitVec.toNat := rfl
  have h5 := x.toBitVec.isLt
  split at h3 <;> omega
theorem rFr_eit {W P : List Nat} {F F1 F2 : Nat → va_E} {a o : Nat} (h0 : a = o ∨ a ∉ P) (h : rFr W P F F1) (g : ∀ b, b ≠ a → F2 b = F1 b) : rFr (o :: W) P F F2 := fun b hb hn => (g b (fun e => h0.elim (fun e2 => hn ((e.trans e2) ▸ List.mem_cons_self)) (fun n => n (e ▸ hb)))).trans (h b hb (fun z => hn (List.mem_cons_of_mem _ z)))
theorem rFr_eit' {W P : List Nat} {F F1 F2 : Nat → va_E} {a o : Nat} (h0 : a = o ∨ a ∉ P) (ho : o ∈ W) (h : rFr W P F F1) (g : ∀ b, b ≠ a → F2 b = F1 b) : rFr W P F F2 := fun b hb hn => (g b (fun e => h0.elim (fun e2 => hn ((e.trans e2) ▸ ho)) (fun n => n (e ▸ hb)))).trans (h b hb hn)
/-- r says whether c lies between a and b -/
def isP (c : Int32) (a b : Int) (r : Int32) : Prop := (r.toInt = 1 ∧ a ≤ c.toInt ∧ c.toInt ≤ b) ∨ (r.toInt = 0 ∧ (c.toInt < a ∨ b < c.toInt))
theorem isP_1 {c r : Int32} {a b : Int} (h : isP c a b r) (hr : 1 ≤ r.toInt) : gB c a b := by
  rcases h with ⟨-, h1, h2⟩ | ⟨h1, -⟩
  · exact ⟨h1, h2⟩
  · omega
theorem isP_0 {c r : Int32} {a b : Int} (h : isP c a b r) (hr : r.toInt = 0) : c.toInt < a ∨ b < c.toInt := by
  rcases h with ⟨h1, -⟩ | ⟨-, h1⟩
  · omega
  · exact h1
theorem isP_y {c : Int32} {a b : Int} (h1 : a ≤ c.toInt) (h2 : c.toInt ≤ b) : isP c a b 1 := Or.inl ⟨by decide, h1, h2⟩
theorem isP_n {c : Int32} {a b : Int} (h : c.toInt < a ∨ b < c.toInt) : isP c a b 0 := Or.inr ⟨by decide, h⟩
theorem chNe {f : Nat → Int32} {a b z y : Int32} (hz : z = f a.toNatClampNeg) (hy : y = f b.toNatClampNeg) (hn : z.toInt ≠ y.toInt) (hl : a.toInt ≤ b.toInt) : a.toInt < b.toInt := by
  rcases Int.lt_or_eq_of_le hl with h1 | h1
  · exact h1
  · have e : a = b := Int32.toInt_inj.mp h1
    subst e
    exact absurd (by rw [hz, hy]) hn
/-- the end, or a step forward -/
def prP (k a b : Int32) : Prop := k.toInt = 0 ∨ a.toInt < b.toInt
theorem prP_le {k a b c : Int32} (h : prP k b c) (e : a.toInt ≤ b.toInt) : prP k a c := h.imp id (fun z => by omega)
