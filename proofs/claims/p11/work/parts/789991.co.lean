/-! colours: what stands is on the pile or still there -/
section RCO
variable {f f2 g h : Nat → Int32} {k z c : Int32} {n : Nat}
theorem nb_0 : vp_nar .boolean 0 = 0 := by decide
theorem nb_1 : vp_nar .boolean 1 = 1 := by decide
theorem nb_z (b : gB z 0 1) : vp_nar .boolean z = z := by
  obtain ⟨b1, b2⟩ := b
  by_cases e : z.toInt = 0
  · have e2 : z = 0 := Int32.toInt_inj.1 (by rw [e]; decide)
    rw [e2]; exact nb_0
  · have e2 : z = 1 := Int32.toInt_inj.1 (by rw [show z.toInt = 1 by omega]; decide)
    rw [e2]; exact nb_1
theorem sd_of (hz : z = g k.toNatClampNeg) (h1 : z.toInt = 1) (h0 : 0 ≤ k.toInt) (h2 : k.toInt < 2000) : rSd g k.toInt.toNat := ⟨by omega, by
  have e : k.toNatClampNeg = k.toInt.toNat := rfl
  rw [e] at hz
  rw [← hz]; exact h1⟩
theorem nx_0 {r : Int} (hh : ∀ m : Nat, (m : Int) < r → ¬ rSd g m) (hz : z = g k.toNatClampNeg) (z0 : z.toInt = 0) (hk : k.toInt = r) (m : Nat) (hm : (m : Int) < r + 1) : ¬ rSd g m := by
  have e : k.toNatClampNeg = k.toInt.toNat := rfl
  by_cases q : (m : Int) < r
  · exact hh m q
  · intro s
    rw [e, show k.toInt.toNat = m by omega] at hz
    have s2 := s.2
    rw [← hz] at s2
    omega
theorem th_u (h1 : f2 = upd f k.toNatClampNeg (vp_nar .boolean z)) (hz : z = g k.toNatClampNeg) (b : gB z 0 1) (h0 : 0 ≤ k.toInt) (hh : ∀ m : Nat, (m : Int) < k.toInt → rSd g m → rSd f m) (m : Nat) (hm : (m : Int) < k.toInt + 1) (s : rSd g m) : rSd f2 m := by
  have e : k.toNatClampNeg = k.toInt.toNat := rfl
  rw [nb_z b] at h1
  subst h1
  unfold rSd upd
  rw [e] at hz ⊢
  by_cases q : m = k.toInt.toNat
  · rw [if_pos q, hz, ← q]
    exact s
  · rw [if_neg q]
    exact hh m (by omega) s
def rcn (g : Nat → Int32) : Nat → Nat
  | 0 => 0
  | n + 1 => rcn g n + if (g n).toInt = 1 then 1 else 0
theorem rcn_le : ∀ n, rcn g n ≤ n
  | 0 => Nat.le_refl _
  | n + 1 => by
    have := rcn_le n
    show rcn g n + _ ≤ n + 1
    split <;> omega
theorem rcn_eq : ∀ n, (∀ i, i < n → f i = g i) → rcn f n = rcn g n
  | 0, _ => rfl
  | n + 1, hh => by
    show rcn f n + _ = rcn g n + _
    rw [rcn_eq n (fun i hi => hh i (by omega)), hh n (by omega)]
theorem rcn_d {j : Nat} (h1 : f2 = upd f j 0) (s : (f j).toInt = 1) : ∀ n, j < n → rcn f2 n + 1 = rcn f n
  | 0, hj => by omega
  | n + 1, hj => by
    show rcn f2 n + _ + 1 = rcn f n + _
    by_cases q : j = n
    · subst q
      rw [rcn_eq j (fun i hi => show f2 i = f i by rw [h1]; unfold upd; rw [if_neg (by omega)])]
      rw [if_pos s, show f2 j = 0 from by rw [h1]; unfold upd; rw [if_pos rfl], if_neg (by decide)]
    · have ih := rcn_d h1 s n (by omega)
      rw [show f2 n = f n from by rw [h1]; unfold upd; rw [if_neg (fun e => q e.symm)]]
      omega
theorem rcn_pos {m : Nat} (s : rSd g m) : 0 < rcn g 2000 := by
  have e := rcn_d (f := g) (f2 := upd g m 0) rfl s.2 2000 s.1
  omega
theorem th_d (h1 : f2 = upd f k.toNatClampNeg (vp_nar .boolean 0)) (h0 : 0 ≤ k.toInt) (s : rSd f k.toInt.toNat) : rcn f2 2000 + 1 = rcn f 2000 := by
  rw [nb_0] at h1
  exact rcn_d h1 s.2 2000 s.1
theorem pi_u {p p2 : Nat → Int32} {i : Int32} (h1 : f2 = upd f k.toNatClampNeg (vp_nar .boolean 0)) (h2 : p2 = upd p i.toNatClampNeg k) (hk : 0 ≤ k.toInt) (hi : 0 ≤ i.toInt) (hh : ∀ m : Nat, rSd g m → rSd f m ∨ ∃ j : Nat, (j : Int) < i.toInt ∧ (p j).toInt = m) (m : Nat) (s : rSd g m) : rSd f2 m ∨ ∃ j : Nat, (j : Int) < i.toInt + 1 ∧ (p2 j).toInt = m := by
  have ek : k.toNatClampNeg = k.toInt.toNat := rfl
  have ei : i.toNatClampNeg = i.toInt.toNat := rfl
  rw [nb_0] at h1
  by_cases q : m = k.toInt.toNat
  · refine Or.inr ⟨i.toInt.toNat, by omega, ?_⟩
    rw [h2, ei]; unfold upd; rw [if_pos rfl]; omega
  · rcases hh m s with z | ⟨j, z1, z2⟩
    · refine Or.inl ⟨z.1, ?_⟩
      rw [h1, ek]; unfold upd; rw [if_neg q]; exact z.2
    · refine Or.inr ⟨j, by omega, ?_⟩
      rw [h2, ei]; unfold upd; rw [if_neg (by omega)]; exact z2
theorem co_u {p : Nat → Int32} {i : Int32} {n1 : Int} (hz : z = p i.toNatClampNeg) (h1 : f2 = upd f z.toNatClampNeg c) (hc : 0 ≤ c.toInt) (hi : 0 ≤ i.toInt) (hn : n1 = i.toInt + 1) (hh : ∀ m : Nat, rSd g m → (∃ j : Nat, (j : Int) < n1 ∧ (p j).toInt = m) ∨ 0 ≤ (f m).toInt) (m : Nat) (s : rSd g m) : (∃ j : Nat, (j : Int) < i.toInt ∧ (p j).toInt = m) ∨ 0 ≤ (f2 m).toInt := by
  have ez : z.toNatClampNeg = z.toInt.toNat := rfl
  have ei : i.toNatClampNeg = i.toInt.toNat := rfl
  rw [ei] at hz
  by_cases q : m = z.toInt.toNat
  · refine Or.inr ?_
    rw [h1, ez]; unfold upd; rw [if_pos q]; exact hc
  · rcases hh m s with ⟨j, z1, z2⟩ | z2
    · by_cases e : j = i.toInt.toNat
      · rw [e, ← hz] at z2
        omega
      · exact Or.inl ⟨j, by omega, z2⟩
    · refine Or.inr ?_
      rw [h1, ez]; unfold upd; rw [if_neg q]; exact z2
end RCO
theorem sl_u {f f2 : Nat → Int32} {k c : Int32} (h1 : f2 = upd f k.toNatClampNeg c) (h0 : 0 ≤ k.toInt) (hc : 0 ≤ c.toInt) (hk : c.toInt ≤ k.toInt) (hh : ∀ q : Nat, (q : Int) < k.toInt → 0 ≤ (f q).toInt ∧ (f q).toInt ≤ q) (q : Nat) (hq : (q : Int) < k.toInt + 1) : 0 ≤ (f2 q).toInt ∧ (f2 q).toInt ≤ q := by
  have e : k.toNatClampNeg = k.toInt.toNat := rfl
  rw [h1, e]
  unfold upd
  by_cases t : q = k.toInt.toNat
  · rw [if_pos t]
    exact ⟨hc, by omega⟩
  · rw [if_neg t]
    exact hh q (by omega)
