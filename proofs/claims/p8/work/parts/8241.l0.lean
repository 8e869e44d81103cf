/-! look: class and model answer the same -/
theorem bc_0 {x : Int64} : 0 ≤ (lb_bc x).toInt := by
  unfold lb_bc
  exact (gB_and (z := (lb_b6 (lb_b5 (lb_b4 (lb_b3 (lb_b2 (lb_b1 x)))))).toInt32 &&& 127) rfl (gBl (show Int32.toInt 127 = 127 by decide)) (by decide)).1
theorem bsm_0 {f : Nat → Int64} {a : Nat} : ∀ {W : Nat}, 0 ≤ bsm f a W := by
  intro W
  induction W with
  | zero => exact Int.le_refl 0
  | succ w ih =>
    have h := bc_0 (x := f (a + w))
    unfold bsm
    omega
theorem lkJ {P : gPg} {v u : Nat} (h : Jn P false 100 v u) (hu : 64 * 2 ≤ u) : False := by
  obtain ⟨b, j, -, -, h⟩ := h
  rcases h with h | h
  · have := h.2.1
    omega
  · have := h.1
    omega
theorem stf_0 {a : Int32} {f : Nat → Int32} (h : tr_Giver_stoodFirst a f 0) : ∀ m : Nat, a.toInt = (m : Int) → m < 100 → (f m).toInt = -1 := by
  have q : (0 : Int32).toInt = 0 → ∀ m : Nat, a.toInt = (m : Int) → m < 100 → (f m).toInt = -1 := by
    refine h (fun r => r.toInt = 0 → ∀ m : Nat, a.toInt = (m : Int) → m < 100 → (f m).toInt = -1) ?_ ?_ ?_ ?_
    · intro h1
      exact fun _ m em hm => by omega
    · intro h1 h2
      exact fun _ m em hm => by omega
    · intro x1 h1 h2 h3 h4
      intro _ m em hm
      rw [nnE em] at h3
      rw [← h3]
      exact h4
    · intro x1 h1 h2 h3 h4
      exact fun z => absurd z (by decide)
  exact q (by decide)
theorem lkx_2 {hp : Int32} (h : tx_SpillForge_look_2 hp) : hp.toInt = 0 := by
  refine h (hp.toInt = 0) ?_
  · intro h1
    exact h1
theorem lkx_0 {a2 hp : Int32} (h : tx_SpillForge_look_0 a2 hp) : hp.toInt ≠ 0 ∧ (a2.toInt < 0 ∨ 3 < a2.toInt) := by
  refine h (hp.toInt ≠ 0 ∧ (a2.toInt < 0 ∨ 3 < a2.toInt)) ?_ ?_
  · intro h1 h2
    exact ⟨h1, by omega⟩
  · intro h1 h2 h3
    exact ⟨h1, by omega⟩
theorem lkx_1 {a1 a2 hp bl : Int32} {fd : Nat → Int32} (h : tx_SpillForge_look_1 a1 a2 hp bl fd) : hp.toInt ≠ 0 ∧ ((0 ≤ a2.toInt ∧ a2.toInt ≤ 1 ∧ ∀ m : Nat, a1.toInt = (m : Int) → m < 100 → (fd m).toInt = -1) ∨ (2 ≤ a2.toInt ∧ a2.toInt ≤ 3 ∧ (a1.toInt < 0 ∨ bl.toInt ≤ a1.toInt))) := by
  refine h (hp.toInt ≠ 0 ∧ ((0 ≤ a2.toInt ∧ a2.toInt ≤ 1 ∧ ∀ m : Nat, a1.toInt = (m : Int) → m < 100 → (fd m).toInt = -1) ∨ (2 ≤ a2.toInt ∧ a2.toInt ≤ 3 ∧ (a1.toInt < 0 ∨ bl.toInt ≤ a1.toInt)))) ?_ ?_ ?_
  · intro h1 h2 h3 h4 h5
    exact ⟨h1, Or.inr ⟨by omega, by omega, by omega⟩⟩
  · intro h1 h2 h3 h4 h5 h6
    exact ⟨h1, Or.inr ⟨by omega, by omega, by omega⟩⟩
  · intro h1 h2 h3 h4 h5
    exact ⟨h1, Or.inl ⟨by omega, by omega, stf_0 h5⟩⟩
theorem lk_h {a1 a2 hp bl r : Int32} {dp fw fd lb : Nat → Int32} (h : tr_SpillForge_look a1 a2 hp bl dp fw fd lb r) : hp.toInt ≠ 0 := by
  refine h (fun _ => hp.toInt ≠ 0) ?_ ?_ ?_ ?_ ?_ ?_ ?_ ?_ ?_ ?_
  · intro x1 h1 h2 h3 h4 h5 h6 h7 h8
    exact h1
  · intro x1 h1 h2 h3 h4 h5 h6 h7 h8
    exact h1
  · intro x1 h1 h2 h3 h4 h5 h6 h7 h8
    exact h1
  · intro x1 h1 h2 h3 h4 h5 h6 h7 h8 h9 h10
    exact h1
  · intro x1 h1 h2 h3 h4 h5 h6 h7
    exact h1
  · intro x1 h1 h2 h3 h4 h5 h6 h7
    exact h1
  · intro h1 h2 h3 h4 h5 h6 h7
    exact h1
  · intro x1 h1 h2 h3 h4 h5 h6 h7
    exact h1
  · intro h1 h2 h3 h4 h5 h6 h7 h8 h9
    exact h1
  · intro x1 h1 h2 h3 h4 h5 h6 h7 h8 h9
    exact h1
theorem lk_0 {D : va_G} {I : FieldType → ClassId} {P P2 : List Nat} {F F2 : Nat → va_E} {γ0 el0 γ2 el2 : Nat → Nat → Nat} {f fo q0 p p2 : Nat} {a1 a2 r : Int32} (hT : RS D I P F γ0 el0) (hm : γ0 0 q0 = 10) (h : tr_RModel_look D I γ0 el0 f fo P F q0 a1 a2 p p2 r P2 F2 γ2 el2) : (fI (F q0) 9).toInt = 0 → (fI (F2 q0) 30).toInt = 1 := by
  refine h (fun _ _ F2 _ _ => (fI (F q0) 9).toInt = 0 → (fI (F2 q0) 30).toInt = 1) ?_ ?_ ?_ ?_ ?_ ?_ ?_ ?_ ?_ ?_ ?_ ?_
  · intro x1 x2 x3 x4 x5 h1 h2 h3 h4 h5 h6 h7 h8 h9 h10 h11 h12
    intro e9
    rw [h4, (cF30 (RS_o hT hm)).2 9 (by decide)] at h5
    rw [← h5] at h6
    exact absurd e9 h6
  · intro x1 x2 x3 x4 x5 x6 h1 h2 h3 h4 h5 h6 h7 h8 h9 h10 h11 h12 h13 h14 h15 h16 h17 h18 h19 h20 h21
    intro e9
    rw [h4, (cF30 (RS_o hT hm)).2 9 (by decide)] at h5
    rw [← h5] at h6
    exact absurd e9 h6
  · intro x1 x2 x3 x4 x5 x6 h1 h2 h3 h4 h5 h6 h7 h8 h9 h10 h11 h12 h13 h14 h15 h16 h17 h18 h19 h20 h21 h22
    intro e9
    rw [h4, (cF30 (RS_o hT hm)).2 9 (by decide)] at h5
    rw [← h5] at h6
    exact absurd e9 h6
  · intro x1 x2 x3 x4 x5 x6 x7 x8 x9 x10 x11 x12 x13 x14 x15 x16 x17 x18 x19 x20 h1 h2 h3 h4 h5 h6 h7 h8 h9 h10 h11 h12 h13 h14 h15 h16 h17 h18 h19 h20 h21 h22 h23 h24 h25 h26 h27 h28 h29 h30 h31 h32 h33 h34 h35 h36 h37 h38 h39 h40 h41 h42 h43 h44 h45 h46 h47 h48 h49 h50 h51 h52 h53 h54 h55
    intro e9
    rw [h4, (cF30 (RS_o hT hm)).2 9 (by decide)] at h5
    rw [← h5] at h6
    exact absurd e9 h6
  · intro x1 x2 x3 x4 x5 x6 x7 x8 x9 x10 x11 x12 x13 x14 x15 x16 x17 x18 x19 h1 h2 h3 h4 h5 h6 h7 h8 h9 h10 h11 h12 h13 h14 h15 h16 h17 h18 h19 h20 h21 h22 h23 h24 h25 h26 h27 h28 h29 h30 h31 h32 h33 h34 h35 h36 h37 h38 h39 h40 h41 h42 h43 h44 h45 h46 h47 h48 h49 h50 h51 h52 h53 h54
    intro e9
    rw [h4, (cF30 (RS_o hT hm)).2 9 (by decide)] at h5
    rw [← h5] at h6
    exact absurd e9 h6
  · intro x1 x2 x3 x4 x5 x6 x7 x8 h1 h2 h3 h4 h5 h6 h7 h8 h9 h10 h11 h12 h13 h14 h15 h16 h17 h18 h19 h20 h21 h22 h23 h24 h25 h26 h27
    intro e9
    rw [h4, (cF30 (RS_o hT hm)).2 9 (by decide)] at h5
    rw [← h5] at h6
    exact absurd e9 h6
  · intro x1 x2 x3 x4 x5 h1 h2 h3 h4 h5 h6 h7 h8 h9 h10 h11 h12 h13 h14 h15
    intro e9
    rw [h4, (cF30 (RS_o hT hm)).2 9 (by decide)] at h5
    rw [← h5] at h6
    exact absurd e9 h6
  · intro x1 x2 x3 x4 x5 x6 x7 x8 x9 h1 h2 h3 h4 h5 h6 h7 h8 h9 h10 h11 h12 h13 h14 h15 h16 h17 h18 h19 h20 h21 h22 h23 h24 h25 h26 h27
    intro e9
    rw [h4, (cF30 (RS_o hT hm)).2 9 (by decide)] at h5
    rw [← h5] at h6
    exact absurd e9 h6
  · intro x1 x2 x3 x4 x5 x6 x7 x8 x9 x10 h1 h2 h3 h4 h5 h6 h7 h8 h9 h10 h11 h12 h13 h14 h15 h16 h17 h18 h19 h20 h21 h22 h23 h24 h25 h26 h27 h28
    intro e9
    rw [h4, (cF30 (RS_o hT hm)).2 9 (by decide)] at h5
    rw [← h5] at h6
    exact absurd e9 h6
  · intro x1 x2 x3 x4 x5 x6 h1 h2 h3 h4 h5 h6 h7 h8 h9 h10 h11 h12 h13 h14 h15 h16 h17 h18
    intro e9
    rw [h4, (cF30 (RS_o hT hm)).2 9 (by decide)] at h5
    rw [← h5] at h6
    exact absurd e9 h6
  · intro x1 x2 x3 x4 x5 h1 h2 h3 h4 h5 h6 h7 h8 h9 h10 h11 h12 h13
    intro e9
    rw [h4, (cF30 (RS_o hT hm)).2 9 (by decide)] at h5
    rw [← h5] at h6
    exact absurd e9 h6
  · intro x1 x2 x3 x4 x5 h1 h2 h3 h4 h5 h6 h7 h8 h9 h10 h11
    intro _
    have eg := h1
    have ee := h2
    subst eg
    subst ee
    have hT3 : RS D I P x3 x1 x2 := rs_30 hT hm h3 h4
    have hk3 : rk_10 x1 (x3 q0) := RS_o hT3 hm
    have er : fI (x5 q0) 30 = 1 := by rw [no_tr h11]; exact (cF30 hk3).1
    rw [er]
    decide
theorem lk_q {Q : gPg} {a1 a2 hp bl k r err : Int32} {dp fw fd lb : Nat → Int32} {f1 : Nat → Int64} {fl : Int} (hO : fl ≠ 0 → qOk Q ∧ 0 < Q.1 ∧ Q.1 ≤ 40)
    (hc : (fl = 0 ∧ hp.toInt = 0) ∨ (fl ≠ 0 ∧ hp.toInt = 1 ∧ bl.toInt = (Q.1 : Int) ∧ lkS Q dp fw fd lb)) (hm0 : fl = 0 → err.toInt = 1) (hm1 : fl ≠ 0 → lkA Q a1 a2 r err)
    (hk : (k = 0 ∧ ∃ z : Int32, f1 0 = z.toInt64 ∧ tr_SpillForge_look a1 a2 hp bl dp fw fd lb z) ∨ (k = 1 ∧ tx_SpillForge_look_2 hp) ∨ (k = 2 ∧ tx_SpillForge_look_0 a2 hp) ∨ (k = 3 ∧ tx_SpillForge_look_1 a1 a2 hp bl fd)) : err = k ∧ (k = 0 → f1 0 = r.toInt64) := by
  have z1 : Int32.toInt 1 = 1 := by decide
  have z2 : Int32.toInt 2 = 2 := by decide
  have z3 : Int32.toInt 3 = 3 := by decide
  have z0 : Int32.toInt 0 = 0 := by decide
  rcases hc with ⟨e0, eh⟩ | ⟨e0, eh, eb, hS⟩
  · have e1 := hm0 e0
    rcases hk with ⟨q1, z, q2, q3⟩ | ⟨q1, q2⟩ | ⟨q1, q2⟩ | ⟨q1, q2⟩
    · exact absurd eh (lk_h q3)
    · exact ⟨Int32.toInt_inj.mp (by rw [e1, q1]; exact z1.symm), fun y => absurd (q1.symm.trans y) (by decide)⟩
    · exact absurd eh (lkx_0 q2).1
    · exact absurd eh (lkx_1 q2).1
  · have hA := hm1 e0
    obtain ⟨hO, hP0, h40⟩ := hO e0
    have sd : ∀ v, Sd (pgZ Q) false 100 v ↔ Sd Q false 100 v := fun v => sdZ hO hP0
    have s1 : ∀ v, v < 100 → (fd v).toInt = -1 → ¬ Sd Q false 100 v := fun v hv e hs => by
      obtain ⟨f, a, i1, i2⟩ := (hS.2.2 v hv).2.1 ((sd v).mpr hs)
      have b := bsm_0 (f := f) (a := a) (W := 2)
      omega
    rcases hk with ⟨q1, z, q2, q3⟩ | ⟨q1, q2⟩ | ⟨q1, q2⟩ | ⟨q1, q2⟩
    · have hz := lk_c eb h40 hS q3
      rcases hA with ⟨r1, r2⟩ | ⟨r1, r2, r3⟩ | ⟨r1, r2, r3⟩ | ⟨r1, r2⟩
      · rcases hz with ⟨y1, -⟩ | ⟨y1, -⟩ | ⟨y1, -⟩ | ⟨y1, -⟩ <;> omega
      · rcases hz with ⟨y1, v, y2, y3, y4, -⟩ | ⟨y1, v, y2, y3, y4, -⟩ | ⟨y1, -⟩ | ⟨y1, -⟩
        · exact absurd ⟨v, y2, (sd v).mp y4⟩ r3
        · exact absurd ⟨v, y2, (sd v).mp y4⟩ r3
        · omega
        · omega
      · rcases hz with ⟨y1, -⟩ | ⟨y1, -⟩ | ⟨y1, b, y2, y3, -⟩ | ⟨y1, b, y2, y3, -⟩
        · omega
        · omega
        · exact absurd ⟨by omega, by omega⟩ r3
        · exact absurd ⟨by omega, by omega⟩ r3
      · refine ⟨Int32.toInt_inj.mp (by rw [r1, q1]; exact z0.symm), fun _ => ?_⟩
        rw [q2]
        refine congrArg Int32.toInt64 ?_
        rcases hz with ⟨y1, v, y2, y3, y4, y5⟩ | ⟨y1, v, y2, y3, y4, y5⟩ | ⟨y1, b, y2, y3, y5⟩ | ⟨y1, b, y2, y3, y5⟩
        · rcases r2 with ⟨x1, w, x2, x3, x4⟩ | ⟨x1, -⟩ | ⟨x1, -⟩ | ⟨x1, -⟩
          · have e : w = v := by omega
            rw [y5, x4, e]
          all_goals omega
        · rcases r2 with ⟨x1, -⟩ | ⟨x1, w, x2, x3, x4⟩ | ⟨x1, -⟩ | ⟨x1, -⟩
          · omega
          · have e : w = v := by omega
            rw [e] at x4
            exact Int32.toInt_inj.mp (isD_u y5 x4 (by decide) (fun u hu hj => lkJ hj hu))
          all_goals omega
        · rcases r2 with ⟨x1, -⟩ | ⟨x1, -⟩ | ⟨x1, w, x2, x3, x4⟩ | ⟨x1, -⟩
          · omega
          · omega
          · have e : w = b := by omega
            rw [e] at x4
            exact Int32.toInt_inj.mp (isD_u y5 x4 (by decide) (fun u hu hj => by have := hj.1; omega))
          · omega
        · rcases r2 with ⟨x1, -⟩ | ⟨x1, -⟩ | ⟨x1, -⟩ | ⟨x1, w, x2, x3, x4⟩
          · omega
          · omega
          · omega
          · have e : w = b := by omega
            rw [e] at x4
            exact Int32.toInt_inj.mp (y5.trans x4.symm)
    · have := lkx_2 q2
      omega
    · have q := (lkx_0 q2).2
      rcases hA with ⟨r1, r2⟩ | ⟨r1, r2, r3⟩ | ⟨r1, r2, r3⟩ | ⟨r1, r2⟩
      · exact ⟨Int32.toInt_inj.mp (by rw [r1, q1]; exact z2.symm), fun y => absurd (q1.symm.trans y) (by decide)⟩
      · omega
      · omega
      · rcases r2 with ⟨x1, -⟩ | ⟨x1, -⟩ | ⟨x1, -⟩ | ⟨x1, -⟩ <;> omega
    · have q := (lkx_1 q2).2
      have fin : err.toInt = 3 → err = k ∧ (k = 0 → f1 0 = r.toInt64) := fun r1 => ⟨Int32.toInt_inj.mp (by rw [r1, q1]; exact z3.symm), fun y => absurd (q1.symm.trans y) (by decide)⟩
      rcases hA with ⟨r1, r2⟩ | ⟨r1, r2, r3⟩ | ⟨r1, r2, r3⟩ | ⟨r1, r2⟩
      · omega
      · exact fin r1
      · exact fin r1
      · rcases r2 with ⟨x1, w, x2, x3, -⟩ | ⟨x1, w, x2, x3, -⟩ | ⟨x1, w, x2, x3, -⟩ | ⟨x1, w, x2, x3, -⟩
        · rcases q with ⟨q3, q4, q5⟩ | ⟨q3, -⟩
          · exact absurd x3 (s1 w x3.1 (q5 w x2 x3.1))
          · omega
        · rcases q with ⟨q3, q4, q5⟩ | ⟨q3, -⟩
          · exact absurd x3 (s1 w x3.1 (q5 w x2 x3.1))
          · omega
        · rcases q with ⟨q3, q4, q5⟩ | ⟨q3, q4, q5⟩ <;> omega
        · rcases q with ⟨q3, q4, q5⟩ | ⟨q3, q4, q5⟩ <;> omega
