/-! give: what the model leaves where it refuses -/
theorem T100 {Q : gPg} (hb : ∀ b, b < Q.1 → blC (Q.2.1 b) (Q.2.2.1 b) (Q.2.2.2 b)) : ∀ v, 100 ≤ v → ¬ lz Q v := fun v hv z => by
  obtain ⟨c, i, q1, q2, q3⟩ := Lv_us6 z
  have d := us_lt (nmO_P hb) q1 q2 q3
  omega
theorem no2_fr {D : va_G} {I : FieldType → ClassId} {γ el : Nat → Nat → Nat} {F o1 : Nat → va_E} {q0 : Nat} {a1 : Int32} (h : tr_RModel_no2 D I γ el F q0 a1 o1) : ∀ b, b ≠ q0 → o1 b = F b := by
  refine h (fun o1 => ∀ b, b ≠ q0 → o1 b = F b) ?_
  · intro x1 h1 h2
    exact h1
theorem gi_k {D : va_G} {I : FieldType → ClassId} {P P2 : List Nat} {F F2 : Nat → va_E} {γ0 el0 γ2 el2 : Nat → Nat → Nat} {f fo q0 p p2 : Nat} {a1 r : Int32} (hT : RS D I P F γ0 el0) (hm : γ0 0 q0 = 10) (h : tr_RModel_give D I γ0 el0 f fo P F q0 a1 p p2 r P2 F2 γ2 el2) : (a1.toInt < 1 ∨ 32 < a1.toInt) ∨ (fI (F q0) 9).toInt = 0 → γ2 = γ0 ∧ el2 = el0 ∧ (∀ b, b ≠ q0 → F2 b = F b) ∧ fI (F2 q0) 10 = fI (F q0) 10 := by
  refine h (fun _ _ F2 γ2 el2 => (a1.toInt < 1 ∨ 32 < a1.toInt) ∨ (fI (F q0) 9).toInt = 0 → γ2 = γ0 ∧ el2 = el0 ∧ (∀ b, b ≠ q0 → F2 b = F b) ∧ fI (F2 q0) 10 = fI (F q0) 10) ?_ ?_ ?_ ?_ ?_
  · intro x1 x2 x3 x4 h1 h2 h3 h4 h5 h6 h7 h8 h9 h10
    intro _
    have eg := h1
    have ee := h2
    subst eg
    subst ee
    have hT3 : RS D I P x3 x1 x2 := rs_30 hT hm h3 h4
    have hk3 : rk_10 x1 (x3 q0) := RS_o hT3 hm
    refine ⟨rfl, rfl, fun b hb => (no2_fr h10 b hb).trans (h3 b hb), ?_⟩
    rw [no_tr h10, (cF30 hk3).2 10 (by decide), h4, (cF30 (RS_o hT hm)).2 10 (by decide)]
  · intro x1 x2 x3 x4 x5 x6 x7 x8 x9 x10 x11 x12 x13 x14 h1 h2 h3 h4 h5 h6 h7 h8 h9 h10 h11 h12 h13 h14 h15 h16 h17 h18 h19 h20 h21 h22 h23 h24
    intro e9
    rw [h4, (cF30 (RS_o hT hm)).2 9 (by decide)] at h7
    rw [← h7] at h8
    have w1 := h5
    have w2 := h6
    exact absurd e9 (fun z => by omega)
  · intro x1 x2 x3 x4 x5 x6 x7 x8 x9 x10 x11 x12 x13 x14 h1 h2 h3 h4 h5 h6 h7 h8 h9 h10 h11 h12 h13 h14 h15 h16 h17 h18 h19 h20 h21 h22 h23 h24
    intro e9
    rw [h4, (cF30 (RS_o hT hm)).2 9 (by decide)] at h7
    rw [← h7] at h8
    have w1 := h5
    have w2 := h6
    exact absurd e9 (fun z => by omega)
  · intro x1 x2 x3 x4 x5 h1 h2 h3 h4 h5 h6 h7 h8 h9 h10 h11 h12 h13
    intro _
    have eg := h1
    have ee := h2
    subst eg
    subst ee
    have hT3 : RS D I P x3 x1 x2 := rs_30 hT hm h3 h4
    have hk3 : rk_10 x1 (x3 q0) := RS_o hT3 hm
    refine ⟨rfl, rfl, fun b hb => (no2_fr h13 b hb).trans (h3 b hb), ?_⟩
    rw [no_tr h13, (cF30 hk3).2 10 (by decide), h4, (cF30 (RS_o hT hm)).2 10 (by decide)]
  · intro x1 x2 x3 x4 h1 h2 h3 h4 h5 h6 h7 h8 h9 h10 h11
    intro _
    have eg := h1
    have ee := h2
    subst eg
    subst ee
    have hT3 : RS D I P x3 x1 x2 := rs_30 hT hm h3 h4
    have hk3 : rk_10 x1 (x3 q0) := RS_o hT3 hm
    refine ⟨rfl, rfl, fun b hb => (no2_fr h11 b hb).trans (h3 b hb), ?_⟩
    rw [no_tr h11, (cF30 hk3).2 10 (by decide), h4, (cF30 (RS_o hT hm)).2 10 (by decide)]
theorem gvx_0 {a1 : Int32} (h : tx_SpillForge_give_0 a1) : a1.toInt < 1 ∨ 32 < a1.toInt := by
  refine h (a1.toInt < 1 ∨ 32 < a1.toInt) ?_ ?_
  · intro h1
    omega
  · intro h1 h2
    omega
theorem gvx_1 {a1 hp : Int32} (h : tx_SpillForge_give_1 a1 hp) : 1 ≤ a1.toInt ∧ a1.toInt ≤ 32 ∧ hp.toInt = 0 := by
  refine h (1 ≤ a1.toInt ∧ a1.toInt ≤ 32 ∧ hp.toInt = 0) ?_
  · intro h1 h2 h3
    exact ⟨h1, h2, h3⟩
theorem rnx_0 {a2 : Int32} (h : tx_SpillForge_run_0 a2) : a2.toInt < 1 ∨ 100000 < a2.toInt := by
  refine h (a2.toInt < 1 ∨ 100000 < a2.toInt) ?_ ?_
  · intro h1
    omega
  · intro h1 h2
    omega
theorem exs_x {a1 hp gd o1 : Int32} (h : tr_SpillForge_exists a1 hp gd o1) : (a1.toInt = 0 ∧ o1 = hp) ∨ (a1.toInt ≠ 0 ∧ o1 = gd) := by
  refine h (fun o1 => (a1.toInt = 0 ∧ o1 = hp) ∨ (a1.toInt ≠ 0 ∧ o1 = gd)) ?_ ?_
  · intro h1
    exact Or.inl ⟨h1, rfl⟩
  · intro h1
    exact Or.inr ⟨h1, rfl⟩
theorem tdc_x {a1 ra rs rn rk re o1 : Int32} (h : tr_SpillForge_told a1 ra rs rn rk re o1) : (a1.toInt = 0 ∧ o1 = ra) ∨ (a1.toInt = 1 ∧ o1 = rs) ∨ (a1.toInt = 2 ∧ o1 = rn) ∨ (a1.toInt = 3 ∧ o1 = rk) ∨ (a1.toInt = 4 ∧ o1 = re) := by
  refine h (fun o1 => (a1.toInt = 0 ∧ o1 = ra) ∨ (a1.toInt = 1 ∧ o1 = rs) ∨ (a1.toInt = 2 ∧ o1 = rn) ∨ (a1.toInt = 3 ∧ o1 = rk) ∨ (a1.toInt = 4 ∧ o1 = re)) ?_ ?_ ?_ ?_ ?_
  · intro h1
    exact Or.inl ⟨h1, rfl⟩
  · intro h1
    exact Or.inr (Or.inl ⟨h1, rfl⟩)
  · intro h1
    exact Or.inr (Or.inr (Or.inl ⟨h1, rfl⟩))
  · intro h1
    exact Or.inr (Or.inr (Or.inr (Or.inl ⟨h1, rfl⟩)))
  · intro h1
    exact Or.inr (Or.inr (Or.inr (Or.inr ⟨h1, rfl⟩)))
theorem tdx_0 {a1 : Int32} (h : tx_SpillForge_told_0 a1) : a1.toInt < 0 ∨ 4 < a1.toInt := by
  refine h (a1.toInt < 0 ∨ 4 < a1.toInt) ?_
  · intro h1 h2 h3 h4 h5
    omega
theorem rnx_1 {a1 a2 hp gd : Int32} (h : tx_SpillForge_run_1 a1 a2 hp gd) : (1 ≤ a2.toInt ∧ a2.toInt ≤ 100000) ∧ ((a1.toInt = 0 ∧ hp.toInt = 0) ∨ (a1.toInt ≠ 0 ∧ gd.toInt = 0)) := by
  refine h ((1 ≤ a2.toInt ∧ a2.toInt ≤ 100000) ∧ ((a1.toInt = 0 ∧ hp.toInt = 0) ∨ (a1.toInt ≠ 0 ∧ gd.toInt = 0))) ?_ ?_
  · intro h1 h2 h3 h4
    rcases exs_x h3 with ⟨y1, y2⟩ | ⟨y1, y2⟩
    · exact ⟨⟨h1, h2⟩, Or.inl ⟨y1, by rw [← y2]; exact h4⟩⟩
    · exact ⟨⟨h1, h2⟩, Or.inr ⟨y1, by rw [← y2]; exact h4⟩⟩
  · intro h1 h2 h3 h4
    rcases exs_x h3 with ⟨y1, y2⟩ | ⟨y1, y2⟩
    · exact ⟨⟨h1, h2⟩, Or.inl ⟨y1, by rw [← y2]; exact h4⟩⟩
    · exact ⟨⟨h1, h2⟩, Or.inr ⟨y1, by rw [← y2]; exact h4⟩⟩
theorem shA_x {a1 o1 : Int32} {rw9 : Nat → Int32} (h0 : 0 ≤ a1.toInt) (h5 : a1.toInt < 512) (h : tr_Machine_showAt a1 rw9 o1) : o1 = rw9 a1.toInt.toNat := by
  refine h (fun o1 => o1 = rw9 a1.toInt.toNat) ?_ ?_ ?_
  · intro h1
    omega
  · intro h1 h2
    omega
  · intro x1 h1 h2 h3
    rw [h3]
    exact congrArg rw9 (nnE (by omega))
theorem shc_x {a1 rs o1 : Int32} {rw9 : Nat → Int32} (h : tr_SpillForge_shown a1 rs rw9 o1) : (0 ≤ a1.toInt ∧ a1.toInt < rs.toInt) ∧ (a1.toInt < 512 → o1 = rw9 a1.toInt.toNat) := by
  refine h (fun o1 => (0 ≤ a1.toInt ∧ a1.toInt < rs.toInt) ∧ (a1.toInt < 512 → o1 = rw9 a1.toInt.toNat)) ?_
  · intro x1 h1 h2 h3
    exact ⟨⟨h1, h2⟩, fun h5 => shA_x h1 h5 h3⟩
theorem shx_0 {a1 rs : Int32} (h : tx_SpillForge_shown_0 a1 rs) : a1.toInt < 0 ∨ rs.toInt ≤ a1.toInt := by
  refine h (a1.toInt < 0 ∨ rs.toInt ≤ a1.toInt) ?_ ?_
  · intro h1
    omega
  · intro h1 h2
    omega
theorem wdc_x {a1 sz : Int32} {bt : Nat → Int32} {o1 : Int64} (h : tr_SpillForge_word a1 sz bt o1) : (0 ≤ a1.toInt ∧ a1.toInt < sz.toInt) ∧ tr_Listing_eightFrom a1 sz bt o1 := by
  refine h (fun o1 => (0 ≤ a1.toInt ∧ a1.toInt < sz.toInt) ∧ tr_Listing_eightFrom a1 sz bt o1) ?_
  · intro x1 h1 h2 h3
    exact ⟨⟨h1, h2⟩, h3⟩
theorem wdx_0 {a1 sz : Int32} (h : tx_SpillForge_word_0 a1 sz) : a1.toInt < 0 ∨ sz.toInt ≤ a1.toInt := by
  refine h (a1.toInt < 0 ∨ sz.toInt ≤ a1.toInt) ?_ ?_
  · intro h1
    omega
  · intro h1 h2
    omega
theorem lsx_0 {a1 hp gd : Int32} (h : tx_SpillForge_list_0 a1 hp gd) : (a1.toInt = 0 ∧ hp.toInt = 0) ∨ (a1.toInt ≠ 0 ∧ gd.toInt = 0) := by
  refine h ((a1.toInt = 0 ∧ hp.toInt = 0) ∨ (a1.toInt ≠ 0 ∧ gd.toInt = 0)) ?_ ?_
  · intro h1 h2
    rcases exs_x h1 with ⟨y1, y2⟩ | ⟨y1, y2⟩
    · exact Or.inl ⟨y1, by rw [← y2]; exact h2⟩
    · exact Or.inr ⟨y1, by rw [← y2]; exact h2⟩
  · intro h1 h2
    rcases exs_x h1 with ⟨y1, y2⟩ | ⟨y1, y2⟩
    · exact Or.inl ⟨y1, by rw [← y2]; exact h2⟩
    · exact Or.inr ⟨y1, by rw [← y2]; exact h2⟩
