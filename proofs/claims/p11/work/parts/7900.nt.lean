theorem nz_x {x z : Int64} (hz : z = x ^^^ (-1)) (q : lb_Q x 32) : ¬ z = 0 := fun e => by
  have h : (x ^^^ (-1)).toBitVec.getLsbD 40 = false := by rw [← hz, e]; rfl
  rw [Int64.toBitVec_xor, BitVec.getLsbD_xor, show (-1 : Int64).toBitVec.getLsbD 40 = true by decide] at h
  have h2 : x.toBitVec.getLsbD 40 = true := by
    cases k : x.toBitVec.getLsbD 40
    · rw [k] at h
      exact absurd h (by decide)
    · rfl
  have := q 40 (by decide) h2
  omega
theorem gB_nb {z : Int32} (b : gB z 0 1) : gB (vp_nar .boolean z) 0 1 := by rw [nb_z b]; exact b
theorem gB_t1 {z : Int32} (b : gB z 0 1) (h : z.toInt ≠ 0) : gB z 1 1 := by obtain ⟨b1, b2⟩ := b; exact ⟨by omega, b2⟩
theorem gB_t0 {z : Int32} (h : z.toInt = 0) : gB z 0 0 := ⟨by omega, by omega⟩
theorem mz_up {z g C : Int} {n : Nat} (e : z = g + 1) (b : g ≤ C - 1) (h : (C - g).toNat < n + 1) : (C - z).toNat < n := by omega
theorem mz_dn {z g C : Int} {n : Nat} (e : z = g + -1) (b : C + 1 ≤ g) (h : (g - C).toNat < n + 1) : (z - C).toNat < n := by omega
theorem rk10_e {γ : Nat → Nat → Nat} {e : va_E} {C : Prop} (h : rk_10 γ e) (k : ∀ (r28 r35 : Nat) (v9 v10 v11 v12 v13 v14 v23 v24 v25 v26 v27 v30 v32 v33 v34 : Int32), e = .inr (22, [.ref (γ 9 0), .ref (γ 9 1), .ref (γ 9 2), .ref (γ 9 3), .ref (γ 9 4), .ref (γ 9 5), .ref (γ 9 6), .ref (γ 9 7), .ref (γ 9 8), .int v9, .int v10, .int v11, .int v12, .int v13, .int v14, .ref (γ 9 15), .ref (γ 9 16), .ref (γ 9 17), .ref (γ 9 18), .ref (γ 9 19), .ref (γ 9 20), .ref (γ 9 21), .ref (γ 9 22), .int v23, .int v24, .int v25, .int v26, .int v27, .ref r28, .ref (γ 9 29), .int v30, .ref (γ 9 31), .int v32, .int v33, .int v34, .ref r35]) → rM1 v9 v10 v11 v14 v25 v26 v27 v32 v34 → rKd γ r28 98 → rKd γ r35 96 → rKd γ (γ 9 0) 12 → rKd γ (γ 9 1) 13 → rKd γ (γ 9 2) 35 → rKd γ (γ 9 3) 14 → rKd γ (γ 9 4) 16 → rKd γ (γ 9 5) 17 → rKd γ (γ 9 6) 9 → rKd γ (γ 9 7) 9 → rKd γ (γ 9 8) 9 → rKd γ (γ 9 15) 18 → rKd γ (γ 9 16) 19 → rKd γ (γ 9 17) 20 → rKd γ (γ 9 18) 15 → rKd γ (γ 9 19) 21 → rKd γ (γ 9 20) 22 → rKd γ (γ 9 21) 23 → rKd γ (γ 9 22) 97 → rKd γ (γ 9 29) 28 → rKd γ (γ 9 31) 99 → rF1 γ (γ 9 6) 0 → rF1 γ (γ 9 7) 1 → rF1 γ (γ 9 8) 2 → rM2 γ v9 v10 v34 r35 → C) : C := by
  obtain ⟨r28, r35, v9, v10, v11, v12, v13, v14, v23, v24, v25, v26, v27, v30, v32, v33, v34, h0, h1, h2, h3, h4, h5, h6, h7, h8, h9, h10, h11, h12, h13, h14, h15, h16, h17, h18, h19, h20, h21, h22, h23, h24, h25, h26⟩ := h
  exact k r28 r35 v9 v10 v11 v12 v13 v14 v23 v24 v25 v26 v27 v30 v32 v33 v34 h0 h1 h2 h3 h4 h5 h6 h7 h8 h9 h10 h11 h12 h13 h14 h15 h16 h17 h18 h19 h20 h21 h22 h23 h24 h25 h26
/-- the model's fields 9, 32 and its result are as before -/
def mO (e : va_E) : (Nat × Int32) × Int32 × Int32 × Int32 × Int32 × Int32 := ((fR e 28, fI e 34), fI e 23, fI e 24, fI e 25, fI e 26, fI e 27)
def mKq (e e1 : va_E) : Prop := (fI e1 9).toInt = (fI e 9).toInt ∧ ((fI e1 32).toInt, fR e1 35, mO e1) = ((fI e 32).toInt, fR e 35, mO e)
theorem mKq_rf {e : va_E} : mKq e e := ⟨rfl, rfl⟩
theorem mKq_tr {e e1 e2 : va_E} (h : mKq e e1) (g : mKq e1 e2) : mKq e e2 := ⟨g.1.trans h.1, g.2.trans h.2⟩
theorem mKq_eq {e e1 : va_E} (h : e1 = e) : mKq e e1 := by rw [h]; exact mKq_rf
def mKp (e e1 : va_E) : Prop := (fI e1 9).toInt = (fI e 9).toInt ∧ ((fI e1 32).toInt, fR e1 35, mO e1, fI e1 30) = ((fI e 32).toInt, fR e 35, mO e, fI e 30)
theorem mKp_rf {e : va_E} : mKp e e := ⟨rfl, rfl⟩
theorem mKp_tr {e e1 e2 : va_E} (h : mKp e e1) (g : mKp e1 e2) : mKp e e2 := ⟨g.1.trans h.1, g.2.trans h.2⟩
theorem mKp_eq {e e1 : va_E} (h : e1 = e) : mKp e e1 := by rw [h]; exact mKp_rf
theorem mKp_q {e e1 : va_E} (h : mKp e e1) : mKq e e1 := ⟨h.1, Prod.ext (congrArg (fun z => z.1) h.2) (Prod.ext (congrArg (fun z => z.2.1) h.2) (congrArg (fun z => z.2.2.1) h.2))⟩
theorem mKp_30 {e e1 : va_E} (h : mKp e e1) : fI e1 30 = fI e 30 := congrArg (fun z => z.2.2.2) h.2
