section GW2
variable {f h : Nat → Int64} {N wn nm : Int} {i : Int32} {u : Int64} {w : Int}
theorem lb_Zle {n n' : Int} (hf : lb_Z f n) (h1 : n' ≤ n) : lb_Z f n' := fun k hk => hf k (by omega)
theorem lb_Wext (hh : h = vp_updL f i.toNatClampNeg u) (hf : lb_W f i.toInt wn nm) (h0 : 0 ≤ i.toInt) (hw : i.toInt % wn = w) (hu : lb_Q u (nm - 64 * w)) : lb_W h (i.toInt + 1) wn nm := fun k hk => by
  rw [hh]; unfold vp_updL
  have h2 := g_nn h0
  by_cases e : k = i.toNatClampNeg
  · rw [if_pos e, e, h2, hw]; exact hu
  · rw [if_neg e]; exact hf k (by omega)
theorem lb_W0 : lb_W f 0 wn nm := fun k hk => absurd hk (by omega)
theorem lb_Le1 {b p B : Int} (hp : p = b * wn) (hw : 0 ≤ wn) (hb : b < B) : p + wn ≤ B * wn := by
  have h2 : (b + 1) * wn ≤ B * wn := Int.mul_le_mul_of_nonneg_right (by omega) hw
  have h3 : (b + 1) * wn = b * wn + wn := by rw [Int.add_mul, Int.one_mul]
  omega
end GW2
