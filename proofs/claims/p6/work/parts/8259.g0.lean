/-! give: what the model answers without a program -/
theorem T100 {Q : gPg} (hb : ∀ b, b < Q.1 → blC (Q.2.1 b) (Q.2.2.1 b) (Q.2.2.2 b)) : ∀ v, 100 ≤ v → ¬ lz Q v := fun v hv z => by
  obtain ⟨c, i, q1, q2, q3⟩ := Lv_us6 z
  have d := us_lt (nmO_P hb) q1 q2 q3
  omega
def gv0 (a err : Int32) : Prop := ((a.toInt < 1 ∨ 32 < a.toInt) ∧ err.toInt = 1) ∨ (1 ≤ a.toInt ∧ a.toInt ≤ 32 ∧ err.toInt = 2)
theorem gi_0 {D : va_G} {I : FieldType → ClassId} {P P2 : List Nat} {F F2 : Nat → va_E} {γ0 el0 γ2 el2 : Nat → Nat → Nat} {f fo q0 p p2 : Nat} {a1 r : Int32} (hT : RS D I P F γ0 el0) (hm : γ0 0 q0 = 10) (h : tr_RModel_give D I γ0 el0 f fo P F q0 a1 p p2 r P2 F2 γ2 el2) : (fI (F q0) 9).toInt = 0 → gv0 a1 (fI (F2 q0) 30) := by
  refine h (fun _ _ F2 _ _ => (fI (F q0) 9).toInt = 0 → gv0 a1 (fI (F2 q0) 30)) ?_ ?_ ?_ ?_ ?_
  · intro x1 x2 x3 x4 h1 h2 h3 h4 h5 h6 h7 h8 h9 h10
    intro _
    have eg := h1
    have ee := h2
    subst eg
    subst ee
    have hT3 : RS D I P x3 x1 x2 := rs_30 hT hm h3 h4
    have hk3 : rk_10 x1 (x3 q0) := RS_o hT3 hm
    have er : fI (x4 q0) 30 = 1 := by rw [no_tr h10]; exact (cF30 hk3).1
    exact Or.inl ⟨Or.inl h5, by rw [er]; decide⟩
  · intro x1 x2 x3 x4 x5 x6 x7 x8 x9 x10 x11 x12 x13 x14 h1 h2 h3 h4 h5 h6 h7 h8 h9 h10 h11 h12 h13 h14 h15 h16 h17 h18 h19 h20 h21 h22 h23 h24
    intro e9
    rw [h4, (cF30 (RS_o hT hm)).2 9 (by decide)] at h7
    rw [← h7] at h8
    exact absurd e9 h8
  · intro x1 x2 x3 x4 x5 x6 x7 x8 x9 x10 x11 x12 x13 x14 h1 h2 h3 h4 h5 h6 h7 h8 h9 h10 h11 h12 h13 h14 h15 h16 h17 h18 h19 h20 h21 h22 h23 h24
    intro e9
    rw [h4, (cF30 (RS_o hT hm)).2 9 (by decide)] at h7
    rw [← h7] at h8
    exact absurd e9 h8
  · intro x1 x2 x3 x4 x5 h1 h2 h3 h4 h5 h6 h7 h8 h9 h10 h11 h12 h13
    intro _
    have eg := h1
    have ee := h2
    subst eg
    subst ee
    have hT3 : RS D I P x3 x1 x2 := rs_30 hT hm h3 h4
    have hk3 : rk_10 x1 (x3 q0) := RS_o hT3 hm
    have er : fI (x5 q0) 30 = 2 := by rw [no_tr h13]; exact (cF30 hk3).1
    exact Or.inr ⟨h5, h6, by rw [er]; decide⟩
  · intro x1 x2 x3 x4 h1 h2 h3 h4 h5 h6 h7 h8 h9 h10 h11
    intro _
    have eg := h1
    have ee := h2
    subst eg
    subst ee
    have hT3 : RS D I P x3 x1 x2 := rs_30 hT hm h3 h4
    have hk3 : rk_10 x1 (x3 q0) := RS_o hT3 hm
    have er : fI (x4 q0) 30 = 1 := by rw [no_tr h11]; exact (cF30 hk3).1
    exact Or.inl ⟨Or.inr h6, by rw [er]; decide⟩
theorem gvx_0 {a1 : Int32} (h : tx_SpillForge_give_0 a1) : a1.toInt < 1 ∨ 32 < a1.toInt := by
  refine h (a1.toInt < 1 ∨ 32 < a1.toInt) ?_ ?_
  · intro h1
    omega
  · intro h1 h2
    omega
theorem gvx_1 {a1 hp : Int32} (h : tx_SpillForge_give_1 a1 hp) : 1 ≤ a1.toInt ∧ a1.toInt ≤ 32 ∧ hp.toInt = 0 := by
  refine h (1 ≤ a1.toInt ∧ a1.toInt ≤ 32 ∧ hp.toInt = 0) ?_
  · intro h1 h2 h3
    exact ⟨h1, h2, h3⟩
