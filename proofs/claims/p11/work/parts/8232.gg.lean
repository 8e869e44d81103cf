/-! the graph of the reference -/
theorem bit_sh {x u v : Int64} {i : Int32} (hu : u = (x.toUInt64 >>> (i.toInt64.toUInt64 &&& Int64.toUInt64 63)).toInt64) (hv : v = u &&& 1) (h0 : 0 ≤ i.toInt) : (v = 0 → x.toBitVec.getLsbD (i.toInt.toNat % 64) = false) ∧ (¬ v = 0 → x.toBitVec.getLsbD (i.toInt.toNat % 64) = true) := by
  have e1 : (i.toInt64.toUInt64 &&& Int64.toUInt64 63) = (i.toInt64 &&& 63).toUInt64 := rfl
  rw [e1, lb_Qcnt i h0] at hu
  have h4 : ((x.toUInt64 >>> (Int64.ofNat (i.toInt.toNat % 64)).toUInt64).toInt64).toBitVec.getLsbD 0 = x.toBitVec.getLsbD (i.toInt.toNat % 64) := by
    have h5 : ((Int64.ofNat (i.toInt.toNat % 64)).toBitVec % 64#64).toNat = i.toInt.toNat % 64 := by
      show ((i.toInt.toNat % 64) % 2 ^ 64) % 64 = i.toInt.toNat % 64
      omega
    show (x.toBitVec >>> ((Int64.ofNat (i.toInt.toNat % 64)).toBitVec % 64#64).toNat).getLsbD 0 = _
    rw [BitVec.getLsbD_ushiftRight, h5, Nat.add_zero]
  have h3 : (1 : Int64).toBitVec.getLsbD 0 = true := by decide
  have hv0 : v.toBitVec.getLsbD 0 = x.toBitVec.getLsbD (i.toInt.toNat % 64) := by
    rw [hv, Int64.toBitVec_and, BitVec.getLsbD_and, h3, Bool.and_true, hu, h4]
  refine ⟨fun h => ?_, fun h => ?_⟩
  · rw [← hv0, h]; rfl
  · rw [← hv0]
    refine Classical.byContradiction fun hn => h ?_
    rw [Bool.not_eq_true] at hn
    apply Int64.toBitVec_inj.mp
    apply BitVec.eq_of_getLsbD_eq
    intro j hj
    have hz : (0 : Int64).toBitVec.getLsbD j = false := by show (0#64).getLsbD j = false; exact BitVec.getLsbD_zero
    rw [hz]
    by_cases e : j = 0
    · rw [e]; exact hn
    · have h1 : ∀ j : Fin 64, j.val ≠ 0 → (1 : Int64).toBitVec.getLsbD j.val = false := by decide +kernel
      rw [hv, Int64.toBitVec_and, BitVec.getLsbD_and, h1 ⟨j, hj⟩ e, Bool.and_false]
theorem ha_tr {a1 r : Int32} {v : Nat → Int64} (h0 : 0 ≤ a1.toInt) (h : tr_RModel_has a1 v r) : (r.toInt = 0 ∧ rbt v a1.toInt.toNat = false) ∨ (r.toInt = 1 ∧ rbt v a1.toInt.toNat = true) := by
  have key : ∀ x1 : Int32, x1.toInt = a1.toInt / 64 → v x1.toNatClampNeg = v (a1.toInt.toNat / 64) := fun x1 h1 => by
    have : (x1.toNatClampNeg : Int) = x1.toInt := g_nn (by omega)
    rw [show x1.toNatClampNeg = a1.toInt.toNat / 64 by omega]
  refine h (fun r => (r.toInt = 0 ∧ rbt v a1.toInt.toNat = false) ∨ (r.toInt = 1 ∧ rbt v a1.toInt.toNat = true)) ?_ ?_
  · intro x1 x2 x3 x4 h1 h2 h3 h4 h5
    refine Or.inl ⟨by decide, ?_⟩
    unfold rbt
    rw [← key x1 h1, ← h2]
    exact (bit_sh h3 h4 h0).1 h5
  · intro x1 x2 x3 x4 h1 h2 h3 h4 h5
    refine Or.inr ⟨by decide, ?_⟩
    unfold rbt
    rw [← key x1 h1, ← h2]
    exact (bit_sh h3 h4 h0).2 h5
theorem rs0 {γ : Nat → Nat → Nat} {F F1 : Nat → va_E} {x k : Nat} (h : rStr γ [] F F1) (hx : γ 0 x = k) (hk : 0 < k ∧ k ≤ 9) : F1 x = F x := h x (by omega) (Or.inl (by omega)) (fun z => nomatch z)
/-- row j of block b joins n with k -/
def jd (Q : gPg) (b j n k : Nat) : Prop := seR false (Q.2.2.1 b j) n ∧ Lv Q false k b (j + 1) ∧ k ≠ n ∧ ¬ (Q.2.2.1 b j 0 = 14 ∧ Q.2.2.1 b j 2 = (k : Int))
section GGR
variable {D : va_G} {I : FieldType → ClassId} {P : List Nat} {F F1 : Nat → va_E} {γ el : Nat → Nat → Nat} {q0 q1 : Nat} {Q : gPg} {a2 : Int32}
theorem g210 {s1 e1 : Nat → va_E} {l3 l5 c1 s2 : Int32} {kx : Nat} (hT : RS D I P F γ el) (hm : γ 0 q0 = 10) (hc : 0 ≤ c1.toInt ∧ c1.toInt < 2000) (h : tl_RModel_graph_210 D I γ el P F a2 q1 l3 l5 q0 c1 s1 s2 kx e1) : 0 ≤ s2.toInt → (∀ b, b ≠ γ 11 c1.toInt.toNat → e1 b = s1 b) ∧ ∀ k : Nat, k < 2048 → (egS γ e1 c1.toInt.toNat k = true ↔ egS γ s1 c1.toInt.toNat k = true ∨ (64 * s2.toInt ≤ (k : Int) ∧ nwL γ s1 k = true)) := by
  obtain ⟨k0, k1, k2, k3⟩ := md_kd hT hm
  have ky := er_kd hT k1 (show c1.toInt.toNat < 2000 by omega)
  have nk : γ 9 2 ≠ γ 11 c1.toInt.toNat := fun e => by rw [← e, k2] at ky; exact absurd ky.1 (by decide)
  refine h (fun s1 s2 _ e1 => 0 ≤ s2.toInt → (∀ b, b ≠ γ 11 c1.toInt.toNat → e1 b = s1 b) ∧ ∀ k : Nat, k < 2048 → (egS γ e1 c1.toInt.toNat k = true ↔ egS γ s1 c1.toInt.toNat k = true ∨ (64 * s2.toInt ≤ (k : Int) ∧ nwL γ s1 k = true))) ?_ ?_
  · intro F_3 l10_3 h1 h2 h3 h4 h5 h6
    intro h0
    exact ⟨fun _ _ => rfl, fun k hk => ⟨Or.inl, fun z => z.elim id (fun w => absurd w.1 (by have := h6; omega))⟩⟩
  · intro F_3 l10_3 x1 x2 x3 x4 x5 x6 x7 x8 x9 k e1 h1 h2 h3 h4 h5 h6 h7 h8 h9 h10 h11 h12 h13 h14 h15 h16 h17 h18 ih
    intro h0
    obtain ⟨i1, i2⟩ := ih (by omega)
    have hfr := h16
    rw [h8] at hfr
    have hp1 := h9
    have hp2 := h17
    rw [h8] at hp1 hp2
    refine ⟨fun b hb => (i1 b hb).trans (hfr b hb), fun k hk => ?_⟩
    rw [i2 k hk]
    have elv : nwL γ x8 k = nwL γ F_3 k := by unfold nwL; rw [hfr _ nk]
    have enw : egS γ x8 c1.toInt.toNat k = if k / 64 = l10_3.toNatClampNeg then (egS γ F_3 c1.toInt.toNat k || nwL γ F_3 k) else egS γ F_3 c1.toInt.toNat k := by
      unfold egS nwL
      rw [cL_of hp2, cL_of hp1, cL_of h12, rbt_updL h15]
      split
      · next e => rw [h14, Int64.toBitVec_or, BitVec.getLsbD_or, h10, h13, ← e]; rfl
      · rfl
    have hz : (l10_3.toNatClampNeg : Int) = l10_3.toInt := g_nn h0
    rw [elv, enw]
    by_cases e : k / 64 = l10_3.toNatClampNeg
    · rw [if_pos e, Bool.or_eq_true]
      constructor
      · rintro ((z | z) | z)
        · exact Or.inl z
        · exact Or.inr ⟨by omega, z⟩
        · exact Or.inr ⟨by omega, z.2⟩
      · rintro (z | z)
        · exact Or.inl (Or.inl z)
        · exact Or.inl (Or.inr z.2)
    · rw [if_neg e]
      constructor
      · rintro (z | z)
        · exact Or.inl z
        · exact Or.inr ⟨by omega, z.2⟩
      · rintro (z | z)
        · exact Or.inl z
        · exact Or.inr ⟨by omega, z.2⟩
theorem g210_2 {s1 e1 : Nat → va_E} {l3 l5 c1 s2 : Int32} {kx : Nat} (hT : RS D I P F γ el) (hm : γ 0 q0 = 10) (hc : 0 ≤ c1.toInt ∧ c1.toInt < 2000) (h : tl_RModel_graph_210_2 D I γ el P F a2 q1 l3 l5 q0 c1 s1 s2 kx e1) : 0 ≤ s2.toInt → (∀ b, b ≠ γ 11 c1.toInt.toNat → e1 b = s1 b) ∧ ∀ k : Nat, k < 2048 → (egS γ e1 c1.toInt.toNat k = true ↔ egS γ s1 c1.toInt.toNat k = true ∨ (64 * s2.toInt ≤ (k : Int) ∧ nwL γ s1 k = true)) := by
  obtain ⟨k0, k1, k2, k3⟩ := md_kd hT hm
  have ky := er_kd hT k1 (show c1.toInt.toNat < 2000 by omega)
  have nk : γ 9 2 ≠ γ 11 c1.toInt.toNat := fun e => by rw [← e, k2] at ky; exact absurd ky.1 (by decide)
  refine h (fun s1 s2 _ e1 => 0 ≤ s2.toInt → (∀ b, b ≠ γ 11 c1.toInt.toNat → e1 b = s1 b) ∧ ∀ k : Nat, k < 2048 → (egS γ e1 c1.toInt.toNat k = true ↔ egS γ s1 c1.toInt.toNat k = true ∨ (64 * s2.toInt ≤ (k : Int) ∧ nwL γ s1 k = true))) ?_ ?_
  · intro F_3 l10_3 h1 h2 h3 h4 h5 h6
    intro h0
    exact ⟨fun _ _ => rfl, fun k hk => ⟨Or.inl, fun z => z.elim id (fun w => absurd w.1 (by have := h6; omega))⟩⟩
  · intro F_3 l10_3 x1 x2 x3 x4 x5 x6 x7 x8 x9 k e1 h1 h2 h3 h4 h5 h6 h7 h8 h9 h10 h11 h12 h13 h14 h15 h16 h17 h18 ih
    intro h0
    obtain ⟨i1, i2⟩ := ih (by omega)
    have hfr := h16
    rw [h8] at hfr
    have hp1 := h9
    have hp2 := h17
    rw [h8] at hp1 hp2
    refine ⟨fun b hb => (i1 b hb).trans (hfr b hb), fun k hk => ?_⟩
    rw [i2 k hk]
    have elv : nwL γ x8 k = nwL γ F_3 k := by unfold nwL; rw [hfr _ nk]
    have enw : egS γ x8 c1.toInt.toNat k = if k / 64 = l10_3.toNatClampNeg then (egS γ F_3 c1.toInt.toNat k || nwL γ F_3 k) else egS γ F_3 c1.toInt.toNat k := by
      unfold egS nwL
      rw [cL_of hp2, cL_of hp1, cL_of h12, rbt_updL h15]
      split
      · next e => rw [h14, Int64.toBitVec_or, BitVec.getLsbD_or, h10, h13, ← e]; rfl
      · rfl
    have hz : (l10_3.toNatClampNeg : Int) = l10_3.toInt := g_nn h0
    rw [elv, enw]
    by_cases e : k / 64 = l10_3.toNatClampNeg
    · rw [if_pos e, Bool.or_eq_true]
      constructor
      · rintro ((z | z) | z)
        · exact Or.inl z
        · exact Or.inr ⟨by omega, z⟩
        · exact Or.inr ⟨by omega, z.2⟩
      · rintro (z | z)
        · exact Or.inl (Or.inl z)
        · exact Or.inl (Or.inr z.2)
    · rw [if_neg e]
      constructor
      · rintro (z | z)
        · exact Or.inl z
        · exact Or.inr ⟨by omega, z.2⟩
      · rintro (z | z)
        · exact Or.inl z
        · exact Or.inr ⟨by omega, z.2⟩
theorem g210_3 {s1 e1 : Nat → va_E} {l3 l5 c1 s2 : Int32} {kx : Nat} (hT : RS D I P F γ el) (hm : γ 0 q0 = 10) (hc : 0 ≤ c1.toInt ∧ c1.toInt < 2000) (h : tl_RModel_graph_210_3 D I γ el P F a2 q1 l3 l5 q0 c1 s1 s2 kx e1) : 0 ≤ s2.toInt → (∀ b, b ≠ γ 11 c1.toInt.toNat → e1 b = s1 b) ∧ ∀ k : Nat, k < 2048 → (egS γ e1 c1.toInt.toNat k = true ↔ egS γ s1 c1.toInt.toNat k = true ∨ (64 * s2.toInt ≤ (k : Int) ∧ nwL γ s1 k = true)) := by
  obtain ⟨k0, k1, k2, k3⟩ := md_kd hT hm
  have ky := er_kd hT k1 (show c1.toInt.toNat < 2000 by omega)
  have nk : γ 9 2 ≠ γ 11 c1.toInt.toNat := fun e => by rw [← e, k2] at ky; exact absurd ky.1 (by decide)
  refine h (fun s1 s2 _ e1 => 0 ≤ s2.toInt → (∀ b, b ≠ γ 11 c1.toInt.toNat → e1 b = s1 b) ∧ ∀ k : Nat, k < 2048 → (egS γ e1 c1.toInt.toNat k = true ↔ egS γ s1 c1.toInt.toNat k = true ∨ (64 * s2.toInt ≤ (k : Int) ∧ nwL γ s1 k = true))) ?_ ?_
  · intro F_3 l10_3 h1 h2 h3 h4 h5 h6
    intro h0
    exact ⟨fun _ _ => rfl, fun k hk => ⟨Or.inl, fun z => z.elim id (fun w => absurd w.1 (by have := h6; omega))⟩⟩
  · intro F_3 l10_3 x1 x2 x3 x4 x5 x6 x7 x8 x9 k e1 h1 h2 h3 h4 h5 h6 h7 h8 h9 h10 h11 h12 h13 h14 h15 h16 h17 h18 ih
    intro h0
    obtain ⟨i1, i2⟩ := ih (by omega)
    have hfr := h16
    rw [h8] at hfr
    have hp1 := h9
    have hp2 := h17
    rw [h8] at hp1 hp2
    refine ⟨fun b hb => (i1 b hb).trans (hfr b hb), fun k hk => ?_⟩
    rw [i2 k hk]
    have elv : nwL γ x8 k = nwL γ F_3 k := by unfold nwL; rw [hfr _ nk]
    have enw : egS γ x8 c1.toInt.toNat k = if k / 64 = l10_3.toNatClampNeg then (egS γ F_3 c1.toInt.toNat k || nwL γ F_3 k) else egS γ F_3 c1.toInt.toNat k := by
      unfold egS nwL
      rw [cL_of hp2, cL_of hp1, cL_of h12, rbt_updL h15]
      split
      · next e => rw [h14, Int64.toBitVec_or, BitVec.getLsbD_or, h10, h13, ← e]; rfl
      · rfl
    have hz : (l10_3.toNatClampNeg : Int) = l10_3.toInt := g_nn h0
    rw [elv, enw]
    by_cases e : k / 64 = l10_3.toNatClampNeg
    · rw [if_pos e, Bool.or_eq_true]
      constructor
      · rintro ((z | z) | z)
        · exact Or.inl z
        · exact Or.inr ⟨by omega, z⟩
        · exact Or.inr ⟨by omega, z.2⟩
      · rintro (z | z)
        · exact Or.inl (Or.inl z)
        · exact Or.inl (Or.inr z.2)
    · rw [if_neg e]
      constructor
      · rintro (z | z)
        · exact Or.inl z
        · exact Or.inr ⟨by omega, z.2⟩
      · rintro (z | z)
        · exact Or.inl z
        · exact Or.inr ⟨by omega, z.2⟩
theorem g210_4 {s1 e1 : Nat → va_E} {l3 l5 c1 s2 : Int32} {kx : Nat} (hT : RS D I P F γ el) (hm : γ 0 q0 = 10) (hc : 0 ≤ c1.toInt ∧ c1.toInt < 2000) (h : tl_RModel_graph_210_4 D I γ el P F a2 q1 l3 l5 q0 c1 s1 s2 kx e1) : 0 ≤ s2.toInt → (∀ b, b ≠ γ 11 c1.toInt.toNat → e1 b = s1 b) ∧ ∀ k : Nat, k < 2048 → (egS γ e1 c1.toInt.toNat k = true ↔ egS γ s1 c1.toInt.toNat k = true ∨ (64 * s2.toInt ≤ (k : Int) ∧ nwL γ s1 k = true)) := by
  obtain ⟨k0, k1, k2, k3⟩ := md_kd hT hm
  have ky := er_kd hT k1 (show c1.toInt.toNat < 2000 by omega)
  have nk : γ 9 2 ≠ γ 11 c1.toInt.toNat := fun e => by rw [← e, k2] at ky; exact absurd ky.1 (by decide)
  refine h (fun s1 s2 _ e1 => 0 ≤ s2.toInt → (∀ b, b ≠ γ 11 c1.toInt.toNat → e1 b = s1 b) ∧ ∀ k : Nat, k < 2048 → (egS γ e1 c1.toInt.toNat k = true ↔ egS γ s1 c1.toInt.toNat k = true ∨ (64 * s2.toInt ≤ (k : Int) ∧ nwL γ s1 k = true))) ?_ ?_
  · intro F_3 l10_3 h1 h2 h3 h4 h5 h6
    intro h0
    exact ⟨fun _ _ => rfl, fun k hk => ⟨Or.inl, fun z => z.elim id (fun w => absurd w.1 (by have := h6; omega))⟩⟩
  · intro F_3 l10_3 x1 x2 x3 x4 x5 x6 x7 x8 x9 k e1 h1 h2 h3 h4 h5 h6 h7 h8 h9 h10 h11 h12 h13 h14 h15 h16 h17 h18 ih
    intro h0
    obtain ⟨i1, i2⟩ := ih (by omega)
    have hfr := h16
    rw [h8] at hfr
    have hp1 := h9
    have hp2 := h17
    rw [h8] at hp1 hp2
    refine ⟨fun b hb => (i1 b hb).trans (hfr b hb), fun k hk => ?_⟩
    rw [i2 k hk]
    have elv : nwL γ x8 k = nwL γ F_3 k := by unfold nwL; rw [hfr _ nk]
    have enw : egS γ x8 c1.toInt.toNat k = if k / 64 = l10_3.toNatClampNeg then (egS γ F_3 c1.toInt.toNat k || nwL γ F_3 k) else egS γ F_3 c1.toInt.toNat k := by
      unfold egS nwL
      rw [cL_of hp2, cL_of hp1, cL_of h12, rbt_updL h15]
      split
      · next e => rw [h14, Int64.toBitVec_or, BitVec.getLsbD_or, h10, h13, ← e]; rfl
      · rfl
    have hz : (l10_3.toNatClampNeg : Int) = l10_3.toInt := g_nn h0
    rw [elv, enw]
    by_cases e : k / 64 = l10_3.toNatClampNeg
    · rw [if_pos e, Bool.or_eq_true]
      constructor
      · rintro ((z | z) | z)
        · exact Or.inl z
        · exact Or.inr ⟨by omega, z⟩
        · exact Or.inr ⟨by omega, z.2⟩
      · rintro (z | z)
        · exact Or.inl (Or.inl z)
        · exact Or.inl (Or.inr z.2)
    · rw [if_neg e]
      constructor
      · rintro (z | z)
        · exact Or.inl z
        · exact Or.inr ⟨by omega, z.2⟩
      · rintro (z | z)
        · exact Or.inl z
        · exact Or.inr ⟨by omega, z.2⟩
theorem g210_5 {s1 e1 : Nat → va_E} {l3 l5 c1 s2 : Int32} {kx : Nat} (hT : RS D I P F γ el) (hm : γ 0 q0 = 10) (hc : 0 ≤ c1.toInt ∧ c1.toInt < 2000) (h : tl_RModel_graph_210_5 D I γ el P F a2 q1 l3 l5 q0 c1 s1 s2 kx e1) : 0 ≤ s2.toInt → (∀ b, b ≠ γ 11 c1.toInt.toNat → e1 b = s1 b) ∧ ∀ k : Nat, k < 2048 → (egS γ e1 c1.toInt.toNat k = true ↔ egS γ s1 c1.toInt.toNat k = true ∨ (64 * s2.toInt ≤ (k : Int) ∧ nwL γ s1 k = true)) := by
  obtain ⟨k0, k1, k2, k3⟩ := md_kd hT hm
  have ky := er_kd hT k1 (show c1.toInt.toNat < 2000 by omega)
  have nk : γ 9 2 ≠ γ 11 c1.toInt.toNat := fun e => by rw [← e, k2] at ky; exact absurd ky.1 (by decide)
  refine h (fun s1 s2 _ e1 => 0 ≤ s2.toInt → (∀ b, b ≠ γ 11 c1.toInt.toNat → e1 b = s1 b) ∧ ∀ k : Nat, k < 2048 → (egS γ e1 c1.toInt.toNat k = true ↔ egS γ s1 c1.toInt.toNat k = true ∨ (64 * s2.toInt ≤ (k : Int) ∧ nwL γ s1 k = true))) ?_ ?_
  · intro F_3 l10_3 h1 h2 h3 h4 h5 h6
    intro h0
    exact ⟨fun _ _ => rfl, fun k hk => ⟨Or.inl, fun z => z.elim id (fun w => absurd w.1 (by have := h6; omega))⟩⟩
  · intro F_3 l10_3 x1 x2 x3 x4 x5 x6 x7 x8 x9 k e1 h1 h2 h3 h4 h5 h6 h7 h8 h9 h10 h11 h12 h13 h14 h15 h16 h17 h18 ih
    intro h0
    obtain ⟨i1, i2⟩ := ih (by omega)
    have hfr := h16
    rw [h8] at hfr
    have hp1 := h9
    have hp2 := h17
    rw [h8] at hp1 hp2
    refine ⟨fun b hb => (i1 b hb).trans (hfr b hb), fun k hk => ?_⟩
    rw [i2 k hk]
    have elv : nwL γ x8 k = nwL γ F_3 k := by unfold nwL; rw [hfr _ nk]
    have enw : egS γ x8 c1.toInt.toNat k = if k / 64 = l10_3.toNatClampNeg then (egS γ F_3 c1.toInt.toNat k || nwL γ F_3 k) else egS γ F_3 c1.toInt.toNat k := by
      unfold egS nwL
      rw [cL_of hp2, cL_of hp1, cL_of h12, rbt_updL h15]
      split
      · next e => rw [h14, Int64.toBitVec_or, BitVec.getLsbD_or, h10, h13, ← e]; rfl
      · rfl
    have hz : (l10_3.toNatClampNeg : Int) = l10_3.toInt := g_nn h0
    rw [elv, enw]
    by_cases e : k / 64 = l10_3.toNatClampNeg
    · rw [if_pos e, Bool.or_eq_true]
      constructor
      · rintro ((z | z) | z)
        · exact Or.inl z
        · exact Or.inr ⟨by omega, z⟩
        · exact Or.inr ⟨by omega, z.2⟩
      · rintro (z | z)
        · exact Or.inl (Or.inl z)
        · exact Or.inl (Or.inr z.2)
    · rw [if_neg e]
      constructor
      · rintro (z | z)
        · exact Or.inl z
        · exact Or.inr ⟨by omega, z.2⟩
      · rintro (z | z)
        · exact Or.inl z
        · exact Or.inr ⟨by omega, z.2⟩
theorem g210_6 {s1 e1 : Nat → va_E} {l3 l5 c1 s2 : Int32} {kx : Nat} (hT : RS D I P F γ el) (hm : γ 0 q0 = 10) (hc : 0 ≤ c1.toInt ∧ c1.toInt < 2000) (h : tl_RModel_graph_210_6 D I γ el P F a2 q1 l3 l5 q0 c1 s1 s2 kx e1) : 0 ≤ s2.toInt → (∀ b, b ≠ γ 11 c1.toInt.toNat → e1 b = s1 b) ∧ ∀ k : Nat, k < 2048 → (egS γ e1 c1.toInt.toNat k = true ↔ egS γ s1 c1.toInt.toNat k = true ∨ (64 * s2.toInt ≤ (k : Int) ∧ nwL γ s1 k = true)) := by
  obtain ⟨k0, k1, k2, k3⟩ := md_kd hT hm
  have ky := er_kd hT k1 (show c1.toInt.toNat < 2000 by omega)
  have nk : γ 9 2 ≠ γ 11 c1.toInt.toNat := fun e => by rw [← e, k2] at ky; exact absurd ky.1 (by decide)
  refine h (fun s1 s2 _ e1 => 0 ≤ s2.toInt → (∀ b, b ≠ γ 11 c1.toInt.toNat → e1 b = s1 b) ∧ ∀ k : Nat, k < 2048 → (egS γ e1 c1.toInt.toNat k = true ↔ egS γ s1 c1.toInt.toNat k = true ∨ (64 * s2.toInt ≤ (k : Int) ∧ nwL γ s1 k = true))) ?_ ?_
  · intro F_3 l10_3 h1 h2 h3 h4 h5 h6
    intro h0
    exact ⟨fun _ _ => rfl, fun k hk => ⟨Or.inl, fun z => z.elim id (fun w => absurd w.1 (by have := h6; omega))⟩⟩
  · intro F_3 l10_3 x1 x2 x3 x4 x5 x6 x7 x8 x9 k e1 h1 h2 h3 h4 h5 h6 h7 h8 h9 h10 h11 h12 h13 h14 h15 h16 h17 h18 ih
    intro h0
    obtain ⟨i1, i2⟩ := ih (by omega)
    have hfr := h16
    rw [h8] at hfr
    have hp1 := h9
    have hp2 := h17
    rw [h8] at hp1 hp2
    refine ⟨fun b hb => (i1 b hb).trans (hfr b hb), fun k hk => ?_⟩
    rw [i2 k hk]
    have elv : nwL γ x8 k = nwL γ F_3 k := by unfold nwL; rw [hfr _ nk]
    have enw : egS γ x8 c1.toInt.toNat k = if k / 64 = l10_3.toNatClampNeg then (egS γ F_3 c1.toInt.toNat k || nwL γ F_3 k) else egS γ F_3 c1.toInt.toNat k := by
      unfold egS nwL
      rw [cL_of hp2, cL_of hp1, cL_of h12, rbt_updL h15]
      split
      · next e => rw [h14, Int64.toBitVec_or, BitVec.getLsbD_or, h10, h13, ← e]; rfl
      · rfl
    have hz : (l10_3.toNatClampNeg : Int) = l10_3.toInt := g_nn h0
    rw [elv, enw]
    by_cases e : k / 64 = l10_3.toNatClampNeg
    · rw [if_pos e, Bool.or_eq_true]
      constructor
      · rintro ((z | z) | z)
        · exact Or.inl z
        · exact Or.inr ⟨by omega, z⟩
        · exact Or.inr ⟨by omega, z.2⟩
      · rintro (z | z)
        · exact Or.inl (Or.inl z)
        · exact Or.inl (Or.inr z.2)
    · rw [if_neg e]
      constructor
      · rintro (z | z)
        · exact Or.inl z
        · exact Or.inr ⟨by omega, z.2⟩
      · rintro (z | z)
        · exact Or.inl z
        · exact Or.inr ⟨by omega, z.2⟩
theorem st_v {G1 G2 : Nat → va_E} (hT : RS D I P F γ el) (hm : γ 0 q0 = 10) (h : ∀ b, b ≠ γ 9 3 → G1 b = G2 b) : (∀ n k, n < 2000 → egS γ G1 n k = egS γ G2 n k) ∧ (∀ k, nwL γ G1 k = nwL γ G2 k) ∧ ∀ i k, i < 40 → lvS γ G1 i k = lvS γ G2 i k := by
  obtain ⟨k0, k1, k2, k3⟩ := md_kd hT hm
  refine ⟨fun n k hn => ?_, fun k => ?_, fun i k hi => ?_⟩
  · have kn := er_kd hT k1 hn
    unfold egS
    rw [h _ (fun e => by rw [e, k3] at kn; exact absurd kn.1 (by decide))]
  · unfold nwL
    rw [h _ (fun e => by rw [e, k3] at k2; exact absurd k2 (by decide))]
  · have kl := lr_kd hT k0 hi
    unfold lvS
    rw [h _ (fun e => by rw [e, k3] at kl; exact absurd kl.1 (by decide))]
theorem bk_v {G1 G2 : Nat → va_E} (hT : RS D I P F γ el) (hm : γ 0 q0 = 10) (h : ∀ b, b ∈ P → b ≠ γ 9 2 → G1 b = G2 b) : (∀ n k, n < 2000 → egS γ G1 n k = egS γ G2 n k) ∧ ∀ i k, i < 40 → lvS γ G1 i k = lvS γ G2 i k := by
  obtain ⟨k0, k1, k2, k3⟩ := md_kd hT hm
  refine ⟨fun n k hn => ?_, fun i k hi => ?_⟩
  · have kn := er_kd hT k1 hn
    unfold egS
    rw [h _ (hT.1 _ (by omega)) (fun e => by rw [e, k2] at kn; exact absurd kn.1 (by decide))]
  · have kl := lr_kd hT k0 hi
    unfold lvS
    rw [h _ (hT.1 _ (by omega)) (fun e => by rw [e, k2] at kl; exact absurd kl.1 (by decide))]
/-- what the rows of a block leave -/
def gMo (γ : Nat → Nat → Nat) (Q : gPg) (i : Nat) (s1 : Nat → va_E) (s2 : Int) (e1 : Nat → va_E) : Prop :=
  (∀ k, k < 2048 → (nwL γ s1 k = true ↔ Lv Q false k i (s2 + 1).toNat)) → (∀ n, n < 2000 → egS γ s1 n n = false) → (∀ j k, j < 40 → lvS γ e1 j k = lvS γ s1 j k) ∧ (∀ n k, n < 2000 → k < 2048 → (egS γ e1 n k = true ↔ egS γ s1 n k = true ∨ ∃ j : Nat, (j : Int) ≤ s2 ∧ jd Q i j n k))
theorem g109_s {F2 F4 Fe Fb e1 : Nat → va_E} {i x2 : Nat} {l5 x10 : Int32} (hT : RS D I P F γ el) (hm : γ 0 q0 = 10) (hq : rfW γ el F q1 Q) (hO : qOk Q) (hi : i < Q.1) (h0 : 0 ≤ l5.toInt) (hlt : l5.toInt < (γ 2 (γ 14 (el (γ 14 q1) i)) : Int)) (hx2 : x2 = el (γ 14 (el (γ 14 q1) i)) l5.toInt.toNat) (hr : Fe x2 = F x2)
    (hst : ∀ b, b ≠ γ 9 3 → F4 b = F2 b) (hed : (∀ n k, n < 2000 → egS γ F2 n n = false → k < 2048 → (egS γ Fe n k = true ↔ egS γ F4 n k = true ∨ (seR false (Q.2.2.1 i l5.toInt.toNat) n ∧ nwL γ F4 k = true ∧ k ≠ n ∧ ¬ (Q.2.2.1 i l5.toInt.toNat 0 = 14 ∧ Q.2.2.1 i l5.toInt.toNat 2 = (k : Int))))) ∧ (∀ k, nwL γ Fe k = nwL γ F4 k) ∧ ∀ i k, i < 40 → lvS γ Fe i k = lvS γ F4 i k)
    (hbk : (∀ k : Nat, nwL γ Fb k = bkS (Fe x2) false (nwL γ Fe) k) ∧ ∀ b, b ∈ P → b ≠ γ 9 2 → Fb b = Fe b) (hx10 : x10.toInt = l5.toInt + (-1)) (ih : gMo γ Q i Fb x10.toInt e1) : gMo γ Q i F2 l5.toInt e1 := by
  intro hN hS
  obtain ⟨s1, s2, s3⟩ := st_v hT hm hst
  obtain ⟨e1', e2, e3⟩ := hed
  obtain ⟨b1, b2⟩ := hbk
  obtain ⟨v1, v2⟩ := bk_v hT hm b2
  have m := qR_m hq hi
  have hj : l5.toInt.toNat < Q.2.1 i := by omega
  have eN : (l5.toInt + 1).toNat = l5.toInt.toNat + 1 := by omega
  rw [eN] at hN
  have hE : ∀ n k, n < 2000 → k < 2048 → (egS γ Fb n k = true ↔ egS γ F2 n k = true ∨ jd Q i l5.toInt.toNat n k) := fun n k hn hk => by
    rw [v1 n k hn, e1' n k hn (hS n hn) hk, s1 n k hn, s2 k, hN k hk]
    exact Iff.rfl
  obtain ⟨i1, i2⟩ := ih (fun k hk => by
    rw [b1 k, hr, hx2, qrow hq hO hi (by omega), e2 k, s2 k, hN k hk, show (x10.toInt + 1).toNat = l5.toInt.toNat by omega, Lv_row hi hj]
    exact or_congr_right ⟨fun z => ⟨z.2, z.1⟩, fun z => ⟨z.2, z.1⟩⟩) (fun n hn => by
    rw [← Bool.not_eq_true, hE n n hn (by omega)]
    rintro (z | z)
    · rw [hS n hn] at z; cases z
    · exact z.2.2.1 rfl)
  refine ⟨fun j k hj => by rw [i1 j k hj, v2 j k hj, e3 j k hj, s3 j k hj], fun n k hn hk => ?_⟩
  rw [i2 n k hn hk, hE n k hn hk]
  constructor
  · rintro ((z | z) | ⟨j, w1, w2⟩)
    · exact Or.inl z
    · exact Or.inr ⟨_, by omega, z⟩
    · exact Or.inr ⟨j, by omega, w2⟩
  · rintro (z | ⟨j, w1, w2⟩)
    · exact Or.inl (Or.inl z)
    · by_cases e : (j : Int) = l5.toInt
      · exact Or.inl (Or.inr (by rw [show l5.toInt.toNat = j by omega]; exact w2))
      · exact Or.inr ⟨j, by omega, w2⟩
theorem hed_ot {F4 Fe : Nat → va_E} {tN : Nat} (hT : RS D I P F γ el) (hm : γ 0 q0 = 10) (htN : tN < 2000) (hfr : ∀ b, b ∈ P → b ≠ γ 11 tN → Fe b = F4 b) :
    (∀ n k, n < 2000 → n ≠ tN → egS γ Fe n k = egS γ F4 n k) ∧ (∀ k, nwL γ Fe k = nwL γ F4 k) ∧ ∀ i k, i < 40 → lvS γ Fe i k = lvS γ F4 i k := by
  obtain ⟨k0, k1, k2, k3⟩ := md_kd hT hm
  have ky := er_kd hT k1 htN
  refine ⟨fun n k hn e => ?_, fun k => ?_, fun i k hi => ?_⟩
  · have kn := er_kd hT k1 hn
    have hne : γ 11 n ≠ γ 11 tN := fun q => e (by rw [← kn.2, ← ky.2, q])
    unfold egS
    rw [hfr _ (hT.1 _ (by omega)) hne]
  · unfold nwL
    rw [hfr _ (hT.1 _ (by omega)) (fun e => by rw [← e, k2] at ky; exact absurd ky.1 (by decide))]
  · have kl := lr_kd hT k0 hi
    unfold lvS
    rw [hfr _ (hT.1 _ (by omega)) (fun e => by rw [← e, kl.1] at ky; exact absurd ky.1 (by decide))]
theorem g109 {i c1 kx : Nat} {s1 e1 : Nat → va_E} {l3 s2 : Int32} (hT : RS D I P F γ el) (hm : γ 0 q0 = 10) (hq : rfW γ el F q1 Q) (hO : qOk Q) (hi : i < Q.1) (hB : γ 0 (el (γ 14 q1) i) = 2) (hc1 : c1 = el (γ 14 q1) i) (ha : a2.toInt = 0) (h : tl_RModel_graph_109 D I γ el P F c1 a2 q1 l3 q0 s1 s2 kx e1) : gMo γ Q i s1 s2.toInt e1 := by
  obtain ⟨k0, k1, k2, k3⟩ := md_kd hT hm
  obtain ⟨l, nn, p, s, v1, ⟨g1, g2, g3⟩, v3, v4, v5, -⟩ := show rk_2 γ (el (γ 14 q1) i) (F (el (γ 14 q1) i)) from RS_o hT hB
  have kl := (show rk_3 D I γ el F l from RS_o hT v3).2
  have m := qR_m hq hi
  obtain ⟨-, ⟨rl1, rl2⟩, -⟩ := qR hq hi
  subst hc1
  refine h (fun s1 s2 _ e1 => gMo γ Q i s1 s2.toInt e1) ?_ ?_ ?_ ?_ ?_ ?_ ?_ ?_ ?_ ?_ ?_
  · intro F_2 l5_2 h1 h2 h3 h4 h5 h6 h7
    intro hN hS
    exact ⟨fun _ _ _ => rfl, fun n k hn hk => ⟨Or.inl, fun z => z.elim id (fun ⟨j, w1, w2⟩ => absurd w1 (by have := h7; omega))⟩⟩
  · intro F_2 l5_2 x1 x2 x3 x4 x5 x6 x7 x8 x9 x10 k e1 h1 h2 h3 h4 h5 h6 h7 h8 h9 h10 h11 h12 h13 h14 h15 h16 h17 h18 h19 h20 h21 h22 h23 h24 h25 h26 h27 h28 h29 ih
    exact absurd ha h22
  · intro F_2 l5_2 x1 x2 x3 x4 x5 x6 x7 x8 x9 x10 x11 x12 x13 x14 x15 k e1 h1 h2 h3 h4 h5 h6 h7 h8 h9 h10 h11 h12 h13 h14 h15 h16 h17 h18 h19 h20 h21 h22 h23 h24 h25 h26 h27 h28 h29 h30 h31 h32 h33 h34 h35 h36 h37 ih
    exact absurd ha h22
  · intro F_2 l5_2 x1 x2 x3 x4 x5 x6 x7 x8 x9 x10 k e1 h1 h2 h3 h4 h5 h6 h7 h8 h9 h10 h11 h12 h13 h14 h15 h16 h17 h18 h19 h20 h21 h22 h23 h24 h25 h26 h27 h28 h29 h30 ih
    have hF2 := h3
    have ex1 : x1 = l := by rw [← h8, rs0 hF2 hB (by decide), v1]; rfl
    have eL : γ 14 (el (γ 14 q1) i) = l := g1
    have h50 := h7
    have hlt := h4
    have ex2 : x2 = el (γ 14 (el (γ 14 q1) i)) l5_2.toInt.toNat := by rw [h9, ex1, eL]
    have kx2 : γ 0 x2 = 1 := by rw [ex2, eL]; exact (kl _ (by rw [eL] at hlt; omega)).1
    have er2 : F_2 x2 = F x2 := rs0 hF2 kx2 (by decide)
    have hst := st2 h16
    have er4 : x4 x2 = F x2 := (hst _ (fun e => by rw [e, k3] at kx2; cases kx2)).trans er2
    have rw4 := rl2 l5_2.toInt.toNat (by omega)
    rw [← ex2] at rw4
    obtain ⟨w1, w2, w3, w4, w5, w6⟩ := rw4
    have wO := (qB hO hi).1 l5_2.toInt.toNat (by omega)
    obtain ⟨o1, o2, o3, o4, o5, o6, o7⟩ := wO
    have qs := sO_tr ha h21
    rw [← h17, ← h18, er4] at qs
    have ox : (fI (F x2) 0).toInt = x5.toInt := by rw [← er4, h17]
    unfold opdE at w1 w2 w4 w6
    refine g109_s hT hm hq hO hi h50 (by omega) ex2 er4 hst ⟨fun n k hn hnn hk => ⟨Or.inl, fun z => z.elim id (fun w => ?_)⟩, fun _ => rfl, fun _ _ _ => rfl⟩ (bk3 h12 hm kx2 ha h29) h30 ih
    have z1 := w.1
    unfold seR at z1
    rw [if_neg (by decide)] at z1
    exact absurd z1 (by omega)
  · intro F_2 l5_2 x1 x2 x3 x4 x5 x6 x7 x8 x9 x10 x11 x12 x13 x14 x15 k e1 h1 h2 h3 h4 h5 h6 h7 h8 h9 h10 h11 h12 h13 h14 h15 h16 h17 h18 h19 h20 h21 h22 h23 h24 h25 h26 h27 h28 h29 h30 h31 h32 h33 h34 h35 h36 h37 h38 ih
    have hF2 := h3
    have ex1 : x1 = l := by rw [← h8, rs0 hF2 hB (by decide), v1]; rfl
    have eL : γ 14 (el (γ 14 q1) i) = l := g1
    have h50 := h7
    have hlt := h4
    have ex2 : x2 = el (γ 14 (el (γ 14 q1) i)) l5_2.toInt.toNat := by rw [h9, ex1, eL]
    have kx2 : γ 0 x2 = 1 := by rw [ex2, eL]; exact (kl _ (by rw [eL] at hlt; omega)).1
    have er2 : F_2 x2 = F x2 := rs0 hF2 kx2 (by decide)
    have hst := st2 h16
    have er4 : x4 x2 = F x2 := (hst _ (fun e => by rw [e, k3] at kx2; cases kx2)).trans er2
    have rw4 := rl2 l5_2.toInt.toNat (by omega)
    rw [← ex2] at rw4
    obtain ⟨w1, w2, w3, w4, w5, w6⟩ := rw4
    have wO := (qB hO hi).1 l5_2.toInt.toNat (by omega)
    obtain ⟨o1, o2, o3, o4, o5, o6, o7⟩ := wO
    have qs := sO_tr ha h21
    rw [← h17, ← h18, er4] at qs
    have ox : (fI (F x2) 0).toInt = x5.toInt := by rw [← er4, h17]
    unfold opdE at w1 w2 w4 w6
    have hx8 : x8.toInt = (fI (F x2) 1).toInt ∧ (fI (F x2) 0).toInt ≤ 21 := by rcases qs with z | z; exact ⟨z.2, z.1⟩; exact absurd z.2 (by omega)
    have b8 : 0 ≤ x8.toInt ∧ x8.toInt < 2000 := by have z := h20; have z1 := z.2; omega
    obtain ⟨y1, y2⟩ := g210_2 hT hm b8 h25 (by decide)
    rw [show Int32.toInt 0 = 0 from by decide] at y2
    have ht1 : Q.2.2.1 i l5_2.toInt.toNat 1 = ((x8.toInt.toNat : Nat) : Int) := by omega
    have fr0 : ∀ b, b ∈ P → b ≠ γ 11 x8.toInt.toNat → x9 b = x4 b := fun b _ hb => y1 b hb
    have c0 : ∀ k : Nat, k < 2048 → (egS γ x9 x8.toInt.toNat k = true ↔ egS γ x4 x8.toInt.toNat k = true ∨ nwL γ x4 k = true) := fun k hk => by rw [y2 k hk]; exact or_congr_right ⟨fun z => z.2, fun z => ⟨by omega, z⟩⟩
    have fa1 := h30
    rw [h27] at fa1
    have pa1 := h28
    rw [h27] at pa1
    have pb1 := h31
    rw [h27] at pb1
    have fr1 : ∀ b, b ∈ P → b ≠ γ 11 x8.toInt.toNat → x13 b = x4 b := fun b hb hne => (fa1 b hb (nm_c hne nm_n)).trans (fr0 b hb hne)
    have c1 : ∀ k : Nat, k < 2048 → (egS γ x13 x8.toInt.toNat k = true ↔ egS γ x9 x8.toInt.toNat k = true ∧ (k : Int) ≠ x8.toInt) := fun k hk => by
      unfold egS
      rw [cL_of pb1, cL_of pa1, cl_tr h29 (by omega) k, Bool.and_eq_true, Bool.not_eq_true', decide_eq_false_iff_not]
    have hre : x13 x2 = F x2 := (fr1 _ (hT.1 _ (by omega)) (fun e => by have z := er_kd hT k1 (show x8.toInt.toNat < 2000 by omega); rw [← e, kx2] at z; exact absurd z.1 (by decide))).trans er4
    refine g109_s (Fe := x13) hT hm hq hO hi h50 (by omega) ex2 hre hst ?_ (bk3 h32 hm kx2 ha h37) h38 ih
    have hst1 := st_v hT hm hst
    have hin : ∀ n, n < 2000 → egS γ F_2 n n = false → ∀ k : Nat, k < 2048 → n = x8.toInt.toNat → (egS γ x13 n k = true ↔ egS γ x4 n k = true ∨ (nwL γ x4 k = true ∧ k ≠ n ∧ ¬ (Q.2.2.1 i l5_2.toInt.toNat 0 = 14 ∧ Q.2.2.1 i l5_2.toInt.toNat 2 = (k : Int)))) := fun n hn hnn k hk en => by
      have e00 : egS γ x4 x8.toInt.toNat x8.toInt.toNat = false := by rw [hst1.1 _ _ (by omega), ← en]; exact hnn
      rw [en, c1 k hk, c0 k hk]
      by_cases q1 : (k : Int) = x8.toInt
      · have q2 : k = x8.toInt.toNat := by omega
        rw [q2, e00]
        constructor
        · intro z
          exfalso
          omega
        · rintro (z | z)
          · cases z
          · exact absurd rfl z.2.1
      · constructor
        · rintro ⟨z | z, _⟩
          · exact Or.inl z
          · exact Or.inr ⟨z, by omega, fun w => by omega⟩
        · rintro (z | z)
          · exact ⟨Or.inl z, q1⟩
          · exact ⟨Or.inr z.1, q1⟩
    have hot := hed_ot hT hm (show x8.toInt.toNat < 2000 by omega) fr1
    refine ⟨fun n k hn hnn hk => ?_, hot.2.1, hot.2.2⟩
    by_cases en : n = x8.toInt.toNat
    · rw [hin n hn hnn k hk en]
      refine or_congr_right ⟨fun z => ⟨?_, z⟩, fun z => z.2⟩
      unfold seR
      rw [if_neg (by decide), en]
      exact ht1
    · rw [hot.1 n k hn en]
      refine ⟨Or.inl, fun z => z.elim id (fun w => ?_)⟩
      have w1 := w.1
      unfold seR at w1
      rw [if_neg (by decide)] at w1
      exact absurd (by omega) en
  · intro F_2 l5_2 x1 x2 x3 x4 x5 x6 x7 x8 x9 x10 x11 k e1 h1 h2 h3 h4 h5 h6 h7 h8 h9 h10 h11 h12 h13 h14 h15 h16 h17 h18 h19 h20 h21 h22 h23 h24 h25 h26 h27 h28 h29 h30 h31 h32 ih
    have hF2 := h3
    have ex1 : x1 = l := by rw [← h8, rs0 hF2 hB (by decide), v1]; rfl
    have eL : γ 14 (el (γ 14 q1) i) = l := g1
    have h50 := h7
    have hlt := h4
    have ex2 : x2 = el (γ 14 (el (γ 14 q1) i)) l5_2.toInt.toNat := by rw [h9, ex1, eL]
    have kx2 : γ 0 x2 = 1 := by rw [ex2, eL]; exact (kl _ (by rw [eL] at hlt; omega)).1
    have er2 : F_2 x2 = F x2 := rs0 hF2 kx2 (by decide)
    have hst := st2 h16
    have er4 : x4 x2 = F x2 := (hst _ (fun e => by rw [e, k3] at kx2; cases kx2)).trans er2
    have rw4 := rl2 l5_2.toInt.toNat (by omega)
    rw [← ex2] at rw4
    obtain ⟨w1, w2, w3, w4, w5, w6⟩ := rw4
    have wO := (qB hO hi).1 l5_2.toInt.toNat (by omega)
    obtain ⟨o1, o2, o3, o4, o5, o6, o7⟩ := wO
    have qs := sO_tr ha h21
    rw [← h17, ← h18, er4] at qs
    have ox : (fI (F x2) 0).toInt = x5.toInt := by rw [← er4, h17]
    unfold opdE at w1 w2 w4 w6
    have ox5 : (fI (F x2) 5).toInt = x9.toInt := by rw [← er4, h24]
    exfalso
    omega
  · intro F_2 l5_2 x1 x2 x3 x4 x5 x6 x7 x8 x9 x10 x11 x12 x13 x14 x15 x16 k e1 h1 h2 h3 h4 h5 h6 h7 h8 h9 h10 h11 h12 h13 h14 h15 h16 h17 h18 h19 h20 h21 h22 h23 h24 h25 h26 h27 h28 h29 h30 h31 h32 h33 h34 h35 h36 h37 h38 h39 h40 ih
    have hF2 := h3
    have ex1 : x1 = l := by rw [← h8, rs0 hF2 hB (by decide), v1]; rfl
    have eL : γ 14 (el (γ 14 q1) i) = l := g1
    have h50 := h7
    have hlt := h4
    have ex2 : x2 = el (γ 14 (el (γ 14 q1) i)) l5_2.toInt.toNat := by rw [h9, ex1, eL]
    have kx2 : γ 0 x2 = 1 := by rw [ex2, eL]; exact (kl _ (by rw [eL] at hlt; omega)).1
    have er2 : F_2 x2 = F x2 := rs0 hF2 kx2 (by decide)
    have hst := st2 h16
    have er4 : x4 x2 = F x2 := (hst _ (fun e => by rw [e, k3] at kx2; cases kx2)).trans er2
    have rw4 := rl2 l5_2.toInt.toNat (by omega)
    rw [← ex2] at rw4
    obtain ⟨w1, w2, w3, w4, w5, w6⟩ := rw4
    have wO := (qB hO hi).1 l5_2.toInt.toNat (by omega)
    obtain ⟨o1, o2, o3, o4, o5, o6, o7⟩ := wO
    have qs := sO_tr ha h21
    rw [← h17, ← h18, er4] at qs
    have ox : (fI (F x2) 0).toInt = x5.toInt := by rw [← er4, h17]
    unfold opdE at w1 w2 w4 w6
    have ox5 : (fI (F x2) 5).toInt = x9.toInt := by rw [← er4, h24]
    have hx8 : x8.toInt = (fI (F x2) 1).toInt ∧ (fI (F x2) 0).toInt ≤ 21 := by rcases qs with z | z; exact ⟨z.2, z.1⟩; exact absurd z.2 (by omega)
    have b8 : 0 ≤ x8.toInt ∧ x8.toInt < 2000 := by have z := h20; have z1 := z.2; omega
    obtain ⟨y1, y2⟩ := g210_3 hT hm b8 h27 (by decide)
    rw [show Int32.toInt 0 = 0 from by decide] at y2
    have ht1 : Q.2.2.1 i l5_2.toInt.toNat 1 = ((x8.toInt.toNat : Nat) : Int) := by omega
    have fr0 : ∀ b, b ∈ P → b ≠ γ 11 x8.toInt.toNat → x10 b = x4 b := fun b _ hb => y1 b hb
    have c0 : ∀ k : Nat, k < 2048 → (egS γ x10 x8.toInt.toNat k = true ↔ egS γ x4 x8.toInt.toNat k = true ∨ nwL γ x4 k = true) := fun k hk => by rw [y2 k hk]; exact or_congr_right ⟨fun z => z.2, fun z => ⟨by omega, z⟩⟩
    have fa1 := h32
    rw [h29] at fa1
    have pa1 := h30
    rw [h29] at pa1
    have pb1 := h33
    rw [h29] at pb1
    have fr1 : ∀ b, b ∈ P → b ≠ γ 11 x8.toInt.toNat → x14 b = x4 b := fun b hb hne => (fa1 b hb (nm_c hne nm_n)).trans (fr0 b hb hne)
    have c1 : ∀ k : Nat, k < 2048 → (egS γ x14 x8.toInt.toNat k = true ↔ egS γ x10 x8.toInt.toNat k = true ∧ (k : Int) ≠ x8.toInt) := fun k hk => by
      unfold egS
      rw [cL_of pb1, cL_of pa1, cl_tr h31 (by omega) k, Bool.and_eq_true, Bool.not_eq_true', decide_eq_false_iff_not]
    have hre : x14 x2 = F x2 := (fr1 _ (hT.1 _ (by omega)) (fun e => by have z := er_kd hT k1 (show x8.toInt.toNat < 2000 by omega); rw [← e, kx2] at z; exact absurd z.1 (by decide))).trans er4
    refine g109_s (Fe := x14) hT hm hq hO hi h50 (by omega) ex2 hre hst ?_ (bk3 h34 hm kx2 ha h39) h40 ih
    have hst1 := st_v hT hm hst
    have hin : ∀ n, n < 2000 → egS γ F_2 n n = false → ∀ k : Nat, k < 2048 → n = x8.toInt.toNat → (egS γ x14 n k = true ↔ egS γ x4 n k = true ∨ (nwL γ x4 k = true ∧ k ≠ n ∧ ¬ (Q.2.2.1 i l5_2.toInt.toNat 0 = 14 ∧ Q.2.2.1 i l5_2.toInt.toNat 2 = (k : Int)))) := fun n hn hnn k hk en => by
      have e00 : egS γ x4 x8.toInt.toNat x8.toInt.toNat = false := by rw [hst1.1 _ _ (by omega), ← en]; exact hnn
      rw [en, c1 k hk, c0 k hk]
      by_cases q1 : (k : Int) = x8.toInt
      · have q2 : k = x8.toInt.toNat := by omega
        rw [q2, e00]
        constructor
        · intro z
          exfalso
          omega
        · rintro (z | z)
          · cases z
          · exact absurd rfl z.2.1
      · constructor
        · rintro ⟨z | z, _⟩
          · exact Or.inl z
          · exact Or.inr ⟨z, by omega, fun w => by omega⟩
        · rintro (z | z)
          · exact ⟨Or.inl z, q1⟩
          · exact ⟨Or.inr z.1, q1⟩
    have hot := hed_ot hT hm (show x8.toInt.toNat < 2000 by omega) fr1
    refine ⟨fun n k hn hnn hk => ?_, hot.2.1, hot.2.2⟩
    by_cases en : n = x8.toInt.toNat
    · rw [hin n hn hnn k hk en]
      refine or_congr_right ⟨fun z => ⟨?_, z⟩, fun z => z.2⟩
      unfold seR
      rw [if_neg (by decide), en]
      exact ht1
    · rw [hot.1 n k hn en]
      refine ⟨Or.inl, fun z => z.elim id (fun w => ?_)⟩
      have w1 := w.1
      unfold seR at w1
      rw [if_neg (by decide)] at w1
      exact absurd (by omega) en
  · intro F_2 l5_2 x1 x2 x3 x4 x5 x6 x7 x8 x9 x10 x11 k e1 h1 h2 h3 h4 h5 h6 h7 h8 h9 h10 h11 h12 h13 h14 h15 h16 h17 h18 h19 h20 h21 h22 h23 h24 h25 h26 h27 h28 h29 h30 h31 h32 ih
    have hF2 := h3
    have ex1 : x1 = l := by rw [← h8, rs0 hF2 hB (by decide), v1]; rfl
    have eL : γ 14 (el (γ 14 q1) i) = l := g1
    have h50 := h7
    have hlt := h4
    have ex2 : x2 = el (γ 14 (el (γ 14 q1) i)) l5_2.toInt.toNat := by rw [h9, ex1, eL]
    have kx2 : γ 0 x2 = 1 := by rw [ex2, eL]; exact (kl _ (by rw [eL] at hlt; omega)).1
    have er2 : F_2 x2 = F x2 := rs0 hF2 kx2 (by decide)
    have hst := st2 h16
    have er4 : x4 x2 = F x2 := (hst _ (fun e => by rw [e, k3] at kx2; cases kx2)).trans er2
    have rw4 := rl2 l5_2.toInt.toNat (by omega)
    rw [← ex2] at rw4
    obtain ⟨w1, w2, w3, w4, w5, w6⟩ := rw4
    have wO := (qB hO hi).1 l5_2.toInt.toNat (by omega)
    obtain ⟨o1, o2, o3, o4, o5, o6, o7⟩ := wO
    have qs := sO_tr ha h21
    rw [← h17, ← h18, er4] at qs
    have ox : (fI (F x2) 0).toInt = x5.toInt := by rw [← er4, h17]
    unfold opdE at w1 w2 w4 w6
    have ox5 : (fI (F x2) 5).toInt = x9.toInt := by rw [← er4, h24]
    exfalso
    omega
  · intro F_2 l5_2 x1 x2 x3 x4 x5 x6 x7 x8 x9 x10 x11 x12 x13 x14 x15 x16 x17 k e1 h1 h2 h3 h4 h5 h6 h7 h8 h9 h10 h11 h12 h13 h14 h15 h16 h17 h18 h19 h20 h21 h22 h23 h24 h25 h26 h27 h28 h29 h30 h31 h32 h33 h34 h35 h36 h37 h38 h39 h40 h41 h42 ih
    have hF2 := h3
    have ex1 : x1 = l := by rw [← h8, rs0 hF2 hB (by decide), v1]; rfl
    have eL : γ 14 (el (γ 14 q1) i) = l := g1
    have h50 := h7
    have hlt := h4
    have ex2 : x2 = el (γ 14 (el (γ 14 q1) i)) l5_2.toInt.toNat := by rw [h9, ex1, eL]
    have kx2 : γ 0 x2 = 1 := by rw [ex2, eL]; exact (kl _ (by rw [eL] at hlt; omega)).1
    have er2 : F_2 x2 = F x2 := rs0 hF2 kx2 (by decide)
    have hst := st2 h16
    have er4 : x4 x2 = F x2 := (hst _ (fun e => by rw [e, k3] at kx2; cases kx2)).trans er2
    have rw4 := rl2 l5_2.toInt.toNat (by omega)
    rw [← ex2] at rw4
    obtain ⟨w1, w2, w3, w4, w5, w6⟩ := rw4
    have wO := (qB hO hi).1 l5_2.toInt.toNat (by omega)
    obtain ⟨o1, o2, o3, o4, o5, o6, o7⟩ := wO
    have qs := sO_tr ha h21
    rw [← h17, ← h18, er4] at qs
    have ox : (fI (F x2) 0).toInt = x5.toInt := by rw [← er4, h17]
    unfold opdE at w1 w2 w4 w6
    have ox5 : (fI (F x2) 5).toInt = x9.toInt := by rw [← er4, h24]
    have ox2 : (fI (F x2) 2).toInt = x10.toInt := by rw [← er4, h26]
    obtain ⟨op, t, a, b, s, ra, rb, he, r1, r2, r3, r4, r5, r6, r7, r8, r9, r10⟩ := show rk_1 γ x2 (F x2) from RS_o hT kx2
    rw [he] at ox2 ox5
    have y1 : a.toInt = x10.toInt := ox2
    have y2 : ra.toInt = x9.toInt := ox5
    exfalso
    omega
  · intro F_2 l5_2 x1 x2 x3 x4 x5 x6 x7 x8 x9 x10 x11 x12 x13 x14 x15 x16 x17 x18 x19 x20 x21 x22 x23 k e1 h1 h2 h3 h4 h5 h6 h7 h8 h9 h10 h11 h12 h13 h14 h15 h16 h17 h18 h19 h20 h21 h22 h23 h24 h25 h26 h27 h28 h29 h30 h31 h32 h33 h34 h35 h36 h37 h38 h39 h40 h41 h42 h43 h44 h45 h46 h47 h48 h49 h50 h51 h52 h53 ih
    have hF2 := h3
    have ex1 : x1 = l := by rw [← h8, rs0 hF2 hB (by decide), v1]; rfl
    have eL : γ 14 (el (γ 14 q1) i) = l := g1
    have h50 := h7
    have hlt := h4
    have ex2 : x2 = el (γ 14 (el (γ 14 q1) i)) l5_2.toInt.toNat := by rw [h9, ex1, eL]
    have kx2 : γ 0 x2 = 1 := by rw [ex2, eL]; exact (kl _ (by rw [eL] at hlt; omega)).1
    have er2 : F_2 x2 = F x2 := rs0 hF2 kx2 (by decide)
    have hst := st2 h16
    have er4 : x4 x2 = F x2 := (hst _ (fun e => by rw [e, k3] at kx2; cases kx2)).trans er2
    have rw4 := rl2 l5_2.toInt.toNat (by omega)
    rw [← ex2] at rw4
    obtain ⟨w1, w2, w3, w4, w5, w6⟩ := rw4
    have wO := (qB hO hi).1 l5_2.toInt.toNat (by omega)
    obtain ⟨o1, o2, o3, o4, o5, o6, o7⟩ := wO
    have qs := sO_tr ha h21
    rw [← h17, ← h18, er4] at qs
    have ox : (fI (F x2) 0).toInt = x5.toInt := by rw [← er4, h17]
    unfold opdE at w1 w2 w4 w6
    have ox5 : (fI (F x2) 5).toInt = x9.toInt := by rw [← er4, h24]
    have ox2 : (fI (F x2) 2).toInt = x10.toInt := by rw [← er4, h26]
    have hx8 : x8.toInt = (fI (F x2) 1).toInt ∧ (fI (F x2) 0).toInt ≤ 21 := by rcases qs with z | z; exact ⟨z.2, z.1⟩; exact absurd z.2 (by omega)
    have b8 : 0 ≤ x8.toInt ∧ x8.toInt < 2000 := by have z := h20; have z1 := z.2; omega
    obtain ⟨y1, y2⟩ := g210_5 hT hm b8 h33 (by decide)
    rw [show Int32.toInt 0 = 0 from by decide] at y2
    have ht1 : Q.2.2.1 i l5_2.toInt.toNat 1 = ((x8.toInt.toNat : Nat) : Int) := by omega
    have fr0 : ∀ b, b ∈ P → b ≠ γ 11 x8.toInt.toNat → x13 b = x4 b := fun b _ hb => y1 b hb
    have c0 : ∀ k : Nat, k < 2048 → (egS γ x13 x8.toInt.toNat k = true ↔ egS γ x4 x8.toInt.toNat k = true ∨ nwL γ x4 k = true) := fun k hk => by rw [y2 k hk]; exact or_congr_right ⟨fun z => z.2, fun z => ⟨by omega, z⟩⟩
    have fa1 := h38
    rw [h35] at fa1
    have pa1 := h36
    rw [h35] at pa1
    have pb1 := h39
    rw [h35] at pb1
    have fr1 : ∀ b, b ∈ P → b ≠ γ 11 x8.toInt.toNat → x17 b = x4 b := fun b hb hne => (fa1 b hb (nm_c hne nm_n)).trans (fr0 b hb hne)
    have c1 : ∀ k : Nat, k < 2048 → (egS γ x17 x8.toInt.toNat k = true ↔ egS γ x13 x8.toInt.toNat k = true ∧ (k : Int) ≠ x10.toInt) := fun k hk => by
      unfold egS
      rw [cL_of pb1, cL_of pa1, cl_tr h37 (by omega) k, Bool.and_eq_true, Bool.not_eq_true', decide_eq_false_iff_not]
    have fa2 := h45
    rw [h42] at fa2
    have pa2 := h43
    rw [h42] at pa2
    have pb2 := h46
    rw [h42] at pb2
    have fr2 : ∀ b, b ∈ P → b ≠ γ 11 x8.toInt.toNat → x21 b = x4 b := fun b hb hne => (fa2 b hb (nm_c hne nm_n)).trans (fr1 b hb hne)
    have c2 : ∀ k : Nat, k < 2048 → (egS γ x21 x8.toInt.toNat k = true ↔ egS γ x17 x8.toInt.toNat k = true ∧ (k : Int) ≠ x8.toInt) := fun k hk => by
      unfold egS
      rw [cL_of pb2, cL_of pa2, cl_tr h44 (by omega) k, Bool.and_eq_true, Bool.not_eq_true', decide_eq_false_iff_not]
    have hh1 := ha_tr (by omega) h32
    have hpb := h31
    rw [h30] at hpb
    have hh2 : (egS γ x4 x8.toInt.toNat x10.toInt.toNat = true ↔ False) := by
      unfold egS
      rw [cL_of hpb]
      rcases hh1 with z | z
      · rw [z.2]; exact ⟨fun w => (nomatch w), fun w => w.elim⟩
      · exact absurd z.1 (by decide)
    have hre : x21 x2 = F x2 := (fr2 _ (hT.1 _ (by omega)) (fun e => by have z := er_kd hT k1 (show x8.toInt.toNat < 2000 by omega); rw [← e, kx2] at z; exact absurd z.1 (by decide))).trans er4
    refine g109_s (Fe := x21) hT hm hq hO hi h50 (by omega) ex2 hre hst ?_ (bk3 h47 hm kx2 ha h52) h53 ih
    have hst1 := st_v hT hm hst
    have hin : ∀ n, n < 2000 → egS γ F_2 n n = false → ∀ k : Nat, k < 2048 → n = x8.toInt.toNat → (egS γ x21 n k = true ↔ egS γ x4 n k = true ∨ (nwL γ x4 k = true ∧ k ≠ n ∧ ¬ (Q.2.2.1 i l5_2.toInt.toNat 0 = 14 ∧ Q.2.2.1 i l5_2.toInt.toNat 2 = (k : Int)))) := fun n hn hnn k hk en => by
      have e00 : egS γ x4 x8.toInt.toNat x8.toInt.toNat = false := by rw [hst1.1 _ _ (by omega), ← en]; exact hnn
      rw [en, c2 k hk, c1 k hk, c0 k hk]
      by_cases q1 : (k : Int) = x8.toInt
      · have q2 : k = x8.toInt.toNat := by omega
        rw [q2, e00]
        constructor
        · intro z
          exfalso
          omega
        · rintro (z | z)
          · cases z
          · exact absurd rfl z.2.1
      · by_cases q3 : (k : Int) = x10.toInt
        · have q4 : k = x10.toInt.toNat := by omega
          rw [q4]
          constructor
          · intro z
            exfalso
            omega
          · rintro (z | z)
            · exact (hh2.mp z).elim
            · exact absurd ⟨by omega, by omega⟩ z.2.2
        · constructor
          · rintro ⟨⟨z | z, _⟩, _⟩
            · exact Or.inl z
            · exact Or.inr ⟨z, by omega, fun w => by omega⟩
          · rintro (z | z)
            · exact ⟨⟨Or.inl z, q3⟩, q1⟩
            · exact ⟨⟨Or.inr z.1, q3⟩, q1⟩
    have hot := hed_ot hT hm (show x8.toInt.toNat < 2000 by omega) fr2
    refine ⟨fun n k hn hnn hk => ?_, hot.2.1, hot.2.2⟩
    by_cases en : n = x8.toInt.toNat
    · rw [hin n hn hnn k hk en]
      refine or_congr_right ⟨fun z => ⟨?_, z⟩, fun z => z.2⟩
      unfold seR
      rw [if_neg (by decide), en]
      exact ht1
    · rw [hot.1 n k hn en]
      refine ⟨Or.inl, fun z => z.elim id (fun w => ?_)⟩
      have w1 := w.1
      unfold seR at w1
      rw [if_neg (by decide)] at w1
      exact absurd (by omega) en
  · intro F_2 l5_2 x1 x2 x3 x4 x5 x6 x7 x8 x9 x10 x11 x12 x13 x14 x15 x16 x17 x18 x19 k e1 h1 h2 h3 h4 h5 h6 h7 h8 h9 h10 h11 h12 h13 h14 h15 h16 h17 h18 h19 h20 h21 h22 h23 h24 h25 h26 h27 h28 h29 h30 h31 h32 h33 h34 h35 h36 h37 h38 h39 h40 h41 h42 h43 h44 h45 h46 ih
    have hF2 := h3
    have ex1 : x1 = l := by rw [← h8, rs0 hF2 hB (by decide), v1]; rfl
    have eL : γ 14 (el (γ 14 q1) i) = l := g1
    have h50 := h7
    have hlt := h4
    have ex2 : x2 = el (γ 14 (el (γ 14 q1) i)) l5_2.toInt.toNat := by rw [h9, ex1, eL]
    have kx2 : γ 0 x2 = 1 := by rw [ex2, eL]; exact (kl _ (by rw [eL] at hlt; omega)).1
    have er2 : F_2 x2 = F x2 := rs0 hF2 kx2 (by decide)
    have hst := st2 h16
    have er4 : x4 x2 = F x2 := (hst _ (fun e => by rw [e, k3] at kx2; cases kx2)).trans er2
    have rw4 := rl2 l5_2.toInt.toNat (by omega)
    rw [← ex2] at rw4
    obtain ⟨w1, w2, w3, w4, w5, w6⟩ := rw4
    have wO := (qB hO hi).1 l5_2.toInt.toNat (by omega)
    obtain ⟨o1, o2, o3, o4, o5, o6, o7⟩ := wO
    have qs := sO_tr ha h21
    rw [← h17, ← h18, er4] at qs
    have ox : (fI (F x2) 0).toInt = x5.toInt := by rw [← er4, h17]
    unfold opdE at w1 w2 w4 w6
    have ox5 : (fI (F x2) 5).toInt = x9.toInt := by rw [← er4, h24]
    have ox2 : (fI (F x2) 2).toInt = x10.toInt := by rw [← er4, h26]
    have hx8 : x8.toInt = (fI (F x2) 1).toInt ∧ (fI (F x2) 0).toInt ≤ 21 := by rcases qs with z | z; exact ⟨z.2, z.1⟩; exact absurd z.2 (by omega)
    have b8 : 0 ≤ x8.toInt ∧ x8.toInt < 2000 := by have z := h20; have z1 := z.2; omega
    obtain ⟨y1, y2⟩ := g210_6 hT hm b8 h33 (by decide)
    rw [show Int32.toInt 0 = 0 from by decide] at y2
    have ht1 : Q.2.2.1 i l5_2.toInt.toNat 1 = ((x8.toInt.toNat : Nat) : Int) := by omega
    have fr0 : ∀ b, b ∈ P → b ≠ γ 11 x8.toInt.toNat → x13 b = x4 b := fun b _ hb => y1 b hb
    have c0 : ∀ k : Nat, k < 2048 → (egS γ x13 x8.toInt.toNat k = true ↔ egS γ x4 x8.toInt.toNat k = true ∨ nwL γ x4 k = true) := fun k hk => by rw [y2 k hk]; exact or_congr_right ⟨fun z => z.2, fun z => ⟨by omega, z⟩⟩
    have fa1 := h38
    rw [h35] at fa1
    have pa1 := h36
    rw [h35] at pa1
    have pb1 := h39
    rw [h35] at pb1
    have fr1 : ∀ b, b ∈ P → b ≠ γ 11 x8.toInt.toNat → x17 b = x4 b := fun b hb hne => (fa1 b hb (nm_c hne nm_n)).trans (fr0 b hb hne)
    have c1 : ∀ k : Nat, k < 2048 → (egS γ x17 x8.toInt.toNat k = true ↔ egS γ x13 x8.toInt.toNat k = true ∧ (k : Int) ≠ x8.toInt) := fun k hk => by
      unfold egS
      rw [cL_of pb1, cL_of pa1, cl_tr h37 (by omega) k, Bool.and_eq_true, Bool.not_eq_true', decide_eq_false_iff_not]
    have hh1 := ha_tr (by omega) h32
    have hpb := h31
    rw [h30] at hpb
    have hh2 : (egS γ x4 x8.toInt.toNat x10.toInt.toNat = true ↔ True) := by
      unfold egS
      rw [cL_of hpb]
      rcases hh1 with z | z
      · exact absurd z.1 (by decide)
      · rw [z.2]; exact ⟨fun _ => trivial, fun _ => rfl⟩
    have hre : x17 x2 = F x2 := (fr1 _ (hT.1 _ (by omega)) (fun e => by have z := er_kd hT k1 (show x8.toInt.toNat < 2000 by omega); rw [← e, kx2] at z; exact absurd z.1 (by decide))).trans er4
    refine g109_s (Fe := x17) hT hm hq hO hi h50 (by omega) ex2 hre hst ?_ (bk3 h40 hm kx2 ha h45) h46 ih
    have hst1 := st_v hT hm hst
    have hin : ∀ n, n < 2000 → egS γ F_2 n n = false → ∀ k : Nat, k < 2048 → n = x8.toInt.toNat → (egS γ x17 n k = true ↔ egS γ x4 n k = true ∨ (nwL γ x4 k = true ∧ k ≠ n ∧ ¬ (Q.2.2.1 i l5_2.toInt.toNat 0 = 14 ∧ Q.2.2.1 i l5_2.toInt.toNat 2 = (k : Int)))) := fun n hn hnn k hk en => by
      have e00 : egS γ x4 x8.toInt.toNat x8.toInt.toNat = false := by rw [hst1.1 _ _ (by omega), ← en]; exact hnn
      rw [en, c1 k hk, c0 k hk]
      by_cases q1 : (k : Int) = x8.toInt
      · have q2 : k = x8.toInt.toNat := by omega
        rw [q2, e00]
        constructor
        · intro z
          exfalso
          omega
        · rintro (z | z)
          · cases z
          · exact absurd rfl z.2.1
      · by_cases q3 : (k : Int) = x10.toInt
        · have q4 : k = x10.toInt.toNat := by omega
          have q5 := hh2.mpr trivial
          rw [← q4] at q5
          exact ⟨fun _ => Or.inl q5, fun _ => ⟨Or.inl q5, q1⟩⟩
        · constructor
          · rintro ⟨z | z, _⟩
            · exact Or.inl z
            · exact Or.inr ⟨z, by omega, fun w => by omega⟩
          · rintro (z | z)
            · exact ⟨Or.inl z, q1⟩
            · exact ⟨Or.inr z.1, q1⟩
    have hot := hed_ot hT hm (show x8.toInt.toNat < 2000 by omega) fr1
    refine ⟨fun n k hn hnn hk => ?_, hot.2.1, hot.2.2⟩
    by_cases en : n = x8.toInt.toNat
    · rw [hin n hn hnn k hk en]
      refine or_congr_right ⟨fun z => ⟨?_, z⟩, fun z => z.2⟩
      unfold seR
      rw [if_neg (by decide), en]
      exact ht1
    · rw [hot.1 n k hn en]
      refine ⟨Or.inl, fun z => z.elim id (fun w => ?_)⟩
      have w1 := w.1
      unfold seR at w1
      rw [if_neg (by decide)] at w1
      exact absurd (by omega) en
end GGR
