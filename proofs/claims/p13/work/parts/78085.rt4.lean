/-! the sum of the sizes behind a removal -/
section RT5
variable {D : va_G} {I : FieldType → ClassId} {P : List Nat} {F F1 : Nat → va_E} {γ el γ1 el1 : Nat → Nat → Nat} {c f lst k m i : Nat}
theorem rDq_sum (hT : RS D I P F γ el) (hc : γ 0 c = 9) (hcf : γ 1 c = f) (hi : i < m) (hm : m ≤ γ 2 (γ 14 c)) (hl : γ 14 (el (γ 14 c) i) = lst) (hk : k < γ 2 lst) (h : rDq D I P F γ el f lst k F1 γ1 el1) :
    rsum (fun i => γ1 2 (γ1 14 (el1 (γ1 14 c) i))) m + 1 = rsum (fun i => γ 2 (γ 14 (el (γ 14 c) i))) m := by
  obtain ⟨h1, h2, h3, h4, -⟩ := h
  obtain ⟨a21, a4, a41, a5, a51⟩ := rc_at hT hc hcf
  have hk1 := rSk_of h1
  have e14 := (rSk_s hk1 (show rKd γ c 9 from hc) (by decide)).2.1
  obtain ⟨l0, l1, -, -⟩ := RS_lst hT a4 (show i < γ 2 (γ 14 c) by omega)
  have hlb : γ 14 c ≠ lst := fun e => by rw [hl, ← e, a4] at l0; omega
  have elb := (h4 (γ 14 c) (by omega) hlb).2
  have hg : ∀ j, j < m → γ1 14 (el1 (γ1 14 c) j) = γ 14 (el (γ 14 c) j) := fun j hj => by
    rw [e14, elb]
    have q := ((show rk_4 D I γ el F (γ 14 c) from RS_o hT a4).2 j (by omega)).1
    exact (h1.2.2.1.2.1 _ (by omega)).2.2.1
  have hs : rsum (fun i => γ1 2 (γ1 14 (el1 (γ1 14 c) i))) m = rsum (fun i => γ1 2 (γ 14 (el (γ 14 c) i))) m := rsum_c _ (fun j hj => by show γ1 2 (γ1 14 (el1 (γ1 14 c) j)) = _; rw [hg j hj])
  have hu := rsum_u (f := fun i => γ 2 (γ 14 (el (γ 14 c) i))) (g := fun i => γ1 2 (γ 14 (el (γ 14 c) i))) m hi (fun j hj hne => by
    have q0 := (RS_lst hT a4 (show j < γ 2 (γ 14 c) by omega)).1
    exact (h4 _ (by omega) (fun e => hne (RS_inj hT a4 (by omega) (by omega) (e.trans hl.symm)))).1)
  rw [hl, h2] at hu
  rw [hs]
  omega
end RT5
