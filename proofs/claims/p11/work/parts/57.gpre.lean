/-! the first n of an int array lie in 0 .. b - 1 -/
def gP (f : Nat → Int32) (n b : Int) : Prop := ∀ k : Nat, (k : Int) < n → 0 ≤ (f k).toInt ∧ (f k).toInt < b
section GPRE
variable {f h : Nat → Int32} {n b : Int} {i z : Int32}
theorem gP_0 : gP f 0 b := fun k hk => absurd hk (by omega)
theorem gP_le {n' : Int} (hf : gP f n b) (h1 : n' ≤ n) : gP f n' b := fun k hk => hf k (by omega)
theorem gP_ld (hz : z = f i.toNatClampNeg) (hf : gP f n b) (h0 : 0 ≤ i.toInt) (h1 : i.toInt < n) : 0 ≤ z.toInt ∧ z.toInt < b := by
  have h2 := g_nn h0
  rw [hz]; exact hf _ (by omega)
theorem gP_ext (hh : h = upd f i.toNatClampNeg z) (hf : gP f i.toInt b) (h0 : 0 ≤ i.toInt) (h1 : 0 ≤ z.toInt) (h2 : z.toInt < b) : gP h (i.toInt + 1) b := fun k hk => by
  rw [hh]; unfold upd
  have h3 := g_nn h0
  by_cases e : k = i.toNatClampNeg
  · rw [if_pos e]; exact ⟨h1, h2⟩
  · rw [if_neg e]; exact hf k (by omega)
theorem gP_cpy {s d c : Int32} (hh : h = va_cpy f f s.toNatClampNeg d.toNatClampNeg c.toNatClampNeg) (hf : gP f (n + 1) b) (h0 : 0 ≤ d.toInt) (h1 : s.toInt = d.toInt + 1) (h2 : 0 ≤ c.toInt) (h3 : d.toInt + c.toInt = n) : gP h n b := fun k hk => by
  have e1 := g_nn h0
  have e2 := g_nn (z := s) (by omega)
  have e3 := g_nn h2
  rw [hh]; unfold va_cpy
  split
  · exact hf _ (by omega)
  · exact hf _ (by omega)
end GPRE
