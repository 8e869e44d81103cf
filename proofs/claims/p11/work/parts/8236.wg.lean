/-! weights of the reference -/
def lnU (l : Nat → Int) (op t a b rA rB : Int32) : Prop := ((op.toInt ≤ 21 ∧ t.toInt = l 1 ∧ 0 ≤ l 1) ∨ (21 < op.toInt ∧ l 1 = -1)) ∧ ((op.toInt ≠ 20 ∧ op.toInt ≠ 21 ∧ op.toInt ≠ 30 ∧ rA.toInt ≠ 0 ∧ a.toInt = l 2 ∧ 0 ≤ l 2) ∨ ((op.toInt = 20 ∨ op.toInt = 21 ∨ op.toInt = 30 ∨ rA.toInt = 0) ∧ l 2 = -1)) ∧ ((0 < op.toInt ∧ op.toInt < 20 ∧ rB.toInt ≠ 0 ∧ b.toInt = l 4 ∧ 0 ≤ l 4) ∨ ((op.toInt ≤ 0 ∨ 20 ≤ op.toInt ∨ rB.toInt = 0) ∧ l 4 = -1))
theorem lnU_r {l : Nat → Int} {op t a b rA rB s : Int32} (hO : rwO2 l) (hE : rwF l op t a b rA rB s) : lnU l op t a b rA rB := by
  obtain ⟨e1, e2, e3, e4, e5, e6⟩ := hE
  obtain ⟨o1, o2, o3, o4, o5, o6, o7⟩ := hO
  unfold opdE at e1 e2 e4 e6
  have h0 : l 0 ≤ 13 ∨ l 0 = 14 ∨ l 0 = 15 ∨ l 0 = 16 ∨ l 0 = 17 ∨ l 0 = 18 := by omega
  rcases h0 with h0 | h0 | h0 | h0 | h0 | h0
  · obtain ⟨p1, p2, p3, p4⟩ := e1 h0
    clear e1 e2 e3 e4 e5 e6
    refine ⟨by omega, by omega, by omega⟩
  · obtain ⟨p1, p2, p3⟩ := e2 h0
    have o8 := o7 (by omega)
    clear e1 e2 e3 e4 e5 e6
    refine ⟨by omega, by omega, by omega⟩
  · obtain ⟨p1, p2⟩ := e3 h0
    have o8 := o7 (by omega)
    have o9 := o6 (by omega)
    clear e1 e2 e3 e4 e5 e6
    refine ⟨by omega, by omega, by omega⟩
  · obtain ⟨p1, p2⟩ := e4 h0
    have o8 := o7 (by omega)
    have o9 := o5 (by omega)
    clear e1 e2 e3 e4 e5 e6
    refine ⟨by omega, by omega, by omega⟩
  · obtain ⟨p1, p2, p3⟩ := e5 h0
    have o8 := o7 (by omega)
    have o9 := o6 (by omega)
    clear e1 e2 e3 e4 e5 e6
    refine ⟨by omega, by omega, by omega⟩
  · obtain ⟨p1, p2, p3⟩ := e6 h0
    have o8 := o7 (by omega)
    have o9 := o5 (by omega)
    clear e1 e2 e3 e4 e5 e6
    refine ⟨by omega, by omega, by omega⟩
theorem lnU_e {l g : Nat → Int} {op t a b rA rB f s : Int32} (hO : edO2 l) (hG : edG (l 0) (g 0) (g 1)) (hE : edE l g op a rA f s) : lnU l op t a b rA rB := by
  obtain ⟨e1, e2, e3⟩ := hE
  obtain ⟨o1, o2, o3, o4⟩ := hO
  unfold opdE at e2 e3
  rcases hG with ⟨h0, h1⟩ | ⟨h0, h1⟩ | ⟨h0, h1⟩
  · obtain ⟨p1, p2⟩ := e1 h0
    have o9 := o4 h0
    clear e1 e2 e3
    refine ⟨by omega, by omega, by omega⟩
  · obtain ⟨p1, p2, p3⟩ := e2 h0
    clear e1 e2 e3
    refine ⟨by omega, by omega, by omega⟩
  · obtain ⟨p1, p2⟩ := e3 h0
    clear e1 e2 e3
    refine ⟨by omega, by omega, by omega⟩
def wt (γ : Nat → Nat → Nat) (F : Nat → va_E) (v : Nat) : Int32 := cB (F (γ 9 5)) v
theorem up_w {f f2 : Nat → Int32} {i u w k : Int32} (h : f2 = upd f i.toNatClampNeg w) (hw : w = u + k) (hu : u = f i.toNatClampNeg) (h0 : 0 ≤ i.toInt) : ∀ v : Nat, f2 v = if i.toInt = (v : Int) then f v + k else f v := fun v => by
  have hz : (i.toNatClampNeg : Int) = i.toInt := g_nn h0
  rw [h]
  unfold upd
  by_cases e : v = i.toNatClampNeg
  · rw [if_pos e, if_pos (by omega), hw, hu, e]
  · rw [if_neg e, if_neg (by omega)]
section WGR
variable {D : va_G} {I : FieldType → ClassId} {P : List Nat} {F F1 : Nat → va_E} {γ el : Nat → Nat → Nat} {q0 c i : Nat} {Q : gPg}
theorem md_kd5 (hT : RS D I P F γ el) (hm : γ 0 q0 = 10) : γ 0 (γ 9 4) = 16 ∧ γ 0 (γ 9 5) = 17 := by
  obtain ⟨r28, r35, v9, v10, v11, v12, v13, v14, v23, v24, v25, v26, v27, v30, v32, v33, v34, he, hM1, hK, hM2⟩ := rk10_m (show rk_10 γ (F q0) from RS_o hT hm)
  exact ⟨hK.2.2.2.2.2.2.1, hK.2.2.2.2.2.2.2.1⟩
theorem w74 {kf s2 : Int32} {s1 e1 : Nat → va_E} {kx : Nat} (hT : RS D I P F γ el) (hm : γ 0 q0 = 10) (hB : γ 0 (el (γ 14 c) i) = 2) (hq : rfW γ el F c Q) (hO : qOk Q) (hi : i < Q.1) (h : tl_RModel_weigh_74 D I γ el P F q0 (el (γ 14 c) i) kf s1 s2 kx e1) : ∀ j : Nat, s2.toInt = (j : Int) → j ≤ Q.2.1 i → (∀ v : Nat, ∀ x : Int32, wt γ s1 v = wBl (Q.2.2.1 i) v kf x j → wt γ e1 v = wBl (Q.2.2.1 i) v kf x (Q.2.1 i)) ∧ ∀ b, b ≠ γ 9 5 → e1 b = s1 b := by
  obtain ⟨k94, k95⟩ := md_kd5 hT hm
  obtain ⟨l, nn, p, s, v1, ⟨g1, g2, g3⟩, v3, v4, v5, -⟩ := show rk_2 γ (el (γ 14 c) i) (F (el (γ 14 c) i)) from RS_o hT hB
  have kl := (show rk_3 D I γ el F l from RS_o hT v3).2
  have m := qR_m hq hi
  obtain ⟨-, ⟨rl1, rl2⟩, re3⟩ := qR hq hi
  have hrow : ∀ j, j < γ 2 (γ 14 (el (γ 14 c) i)) → lnU (Q.2.2.1 i j) (fI (F (el (γ 14 (el (γ 14 c) i)) j)) 0) (fI (F (el (γ 14 (el (γ 14 c) i)) j)) 1) (fI (F (el (γ 14 (el (γ 14 c) i)) j)) 2) (fI (F (el (γ 14 (el (γ 14 c) i)) j)) 3) (fI (F (el (γ 14 (el (γ 14 c) i)) j)) 5) (fI (F (el (γ 14 (el (γ 14 c) i)) j)) 6) := fun j hj => lnU_r ((qB hO hi).1 j (by omega)) (rl2 j (by omega))
  have hend : lnU (Q.2.2.1 i (Q.2.1 i - 1)) (fI (F (γ 15 (el (γ 14 c) i))) 0) (fI (F (γ 15 (el (γ 14 c) i))) 1) (fI (F (γ 15 (el (γ 14 c) i))) 2) (fI (F (γ 15 (el (γ 14 c) i))) 3) (fI (F (γ 15 (el (γ 14 c) i))) 5) (fI (F (γ 15 (el (γ 14 c) i))) 6) := lnU_e (g := Q.2.2.2 i) (qB hO hi).2.1 (qB hO hi).2.2 re3
  refine h (fun s1 s2 _ e1 => ∀ j : Nat, s2.toInt = (j : Int) → j ≤ Q.2.1 i → (∀ v : Nat, ∀ x : Int32, wt γ s1 v = wBl (Q.2.2.1 i) v kf x j → wt γ e1 v = wBl (Q.2.2.1 i) v kf x (Q.2.1 i)) ∧ ∀ b, b ≠ γ 9 5 → e1 b = s1 b) ?_ ?_ ?_ ?_ ?_ ?_ ?_ ?_ ?_ ?_ ?_ ?_ ?_ ?_ ?_ ?_ ?_
  · intro F_2 l5_2 x1 x2 h1 h2 h3 h4 h5 h6 h7 h8 h9
    intro j ej hj
    have hs := h3
    have eB : F_2 (el (γ 14 c) i) = F (el (γ 14 c) i) := rs0 hs hB (by decide)
    have ex1 : x1 = γ 14 (el (γ 14 c) i) := by rw [← h6, eB, v1, g1]; rfl
    have em : x2.toInt = (γ 2 (γ 14 (el (γ 14 c) i)) : Int) := by rw [h7, ex1]
    have e : j = Q.2.1 i := by have := h9; omega
    rw [e]
    exact ⟨fun v x z => z, fun _ _ => rfl⟩
  · intro F_2 l5_2 x1 x2 x3 x4 x5 x6 x7 x8 x9 x10 k e1 h1 h2 h3 h4 h5 h6 h7 h8 h9 h10 h11 h12 h13 h14 h15 h16 h17 h18 h19 h20 h21 h22 h23 h24 h25 ih
    intro j ej hj
    have hs := h3
    have eB : F_2 (el (γ 14 c) i) = F (el (γ 14 c) i) := rs0 hs hB (by decide)
    have ex1 : x1 = γ 14 (el (γ 14 c) i) := by rw [← h6, eB, v1, g1]; rfl
    have em : x2.toInt = (γ 2 (γ 14 (el (γ 14 c) i)) : Int) := by rw [h7, ex1]
    have eX : x3 = γ 15 (el (γ 14 c) i) := by rw [← h12, eB, v1, g2]; rfl
    have kX : γ 0 x3 = 1 := by rw [eX, g2]; exact v5
    have ejn : j = Q.2.1 i - 1 := by have := h11; have := h9; omega
    have hU := hend
    rw [← eX, ← ejn] at hU
    have eR : F_2 x3 = F x3 := rs0 hs kX (by decide)
    have nX : x3 ≠ γ 9 5 := fun e => by rw [e, k95] at kX; cases kX
    have u13 : x4 = fI (F x3) 0 := by rw [← h13, eR]
    have u17 : x6 = fI (F x3) 5 := by rw [← h17, eR]
    have u21 : x8 = fI (F x3) 6 := by rw [← h21, eR]
    have qs := ss_tr h15
    have qa := uA_tr h19
    have qb := uB_tr h23
    rw [u13] at qs
    rw [u13] at qa
    rw [u17] at qa
    rw [u13] at qb
    rw [u21] at qb
    obtain ⟨U1, U2, U3⟩ := hU
    have n1 : Q.2.2.1 i j 1 = -1 := by omega
    have n2 : Q.2.2.1 i j 2 = -1 := by omega
    have n4 : Q.2.2.1 i j 4 = -1 := by omega
    have hL : ∀ v : Nat, wt γ F_2 v = wLn (Q.2.2.1 i j) v kf (wt γ F_2 v) := fun v => by
      unfold wLn
      have q1 : ¬ Q.2.2.1 i j 1 = (v : Int) := by omega
      have q2 : ¬ Q.2.2.1 i j 2 = (v : Int) := by omega
      have q4 : ¬ Q.2.2.1 i j 4 = (v : Int) := by omega
      simp only [if_neg q1, if_neg q2, if_neg q4]
    obtain ⟨i1, i2⟩ := ih (j + 1) (by omega) (by omega)
    refine ⟨fun v x z => i1 v x ?_, fun b hb => (i2 b hb).trans (rfl)⟩
    rw [hL v, z]
    rfl
  · intro F_2 l5_2 x1 x2 x3 x4 x5 x6 x7 x8 x9 x10 x11 x12 x13 x14 x15 x16 k e1 h1 h2 h3 h4 h5 h6 h7 h8 h9 h10 h11 h12 h13 h14 h15 h16 h17 h18 h19 h20 h21 h22 h23 h24 h25 h26 h27 h28 h29 h30 h31 h32 h33 ih
    intro j ej hj
    have hs := h3
    have eB : F_2 (el (γ 14 c) i) = F (el (γ 14 c) i) := rs0 hs hB (by decide)
    have ex1 : x1 = γ 14 (el (γ 14 c) i) := by rw [← h6, eB, v1, g1]; rfl
    have em : x2.toInt = (γ 2 (γ 14 (el (γ 14 c) i)) : Int) := by rw [h7, ex1]
    have eX : x3 = γ 15 (el (γ 14 c) i) := by rw [← h12, eB, v1, g2]; rfl
    have kX : γ 0 x3 = 1 := by rw [eX, g2]; exact v5
    have ejn : j = Q.2.1 i - 1 := by have := h11; have := h9; omega
    have hU := hend
    rw [← eX, ← ejn] at hU
    have eR : F_2 x3 = F x3 := rs0 hs kX (by decide)
    have nX : x3 ≠ γ 9 5 := fun e => by rw [e, k95] at kX; cases kX
    have fx15 : x15 x3 = F x3 := (h31 _ nX).trans eR
    have u13 : x4 = fI (F x3) 0 := by rw [← h13, eR]
    have u17 : x6 = fI (F x3) 5 := by rw [← h17, eR]
    have u21 : x8 = fI (F x3) 6 := by rw [← h21, eR]
    have u26 : x10 = fI (F x3) 3 := by rw [← h26, eR]
    have qs := ss_tr h15
    have qa := uA_tr h19
    have qb := uB_tr h23
    rw [u13] at qs
    rw [u13] at qa
    rw [u17] at qa
    rw [u13] at qb
    rw [u21] at qb
    obtain ⟨U1, U2, U3⟩ := hU
    have n1 : Q.2.2.1 i j 1 = -1 := by omega
    have n2 : Q.2.2.1 i j 2 = -1 := by omega
    have s4 : ∀ v : Nat, wt γ x15 v = if Q.2.2.1 i j 4 = (v : Int) then wt γ F_2 v + kf else wt γ F_2 v := fun v => by
      have z := up_w h30 h29 h28 (by rw [u26]; omega) v
      unfold wt
      rw [cB_of h32, cB_of h27, z, u26, show (fI (F x3) 3).toInt = Q.2.2.1 i j 4 by omega]
    have hL : ∀ v : Nat, wt γ x15 v = wLn (Q.2.2.1 i j) v kf (wt γ F_2 v) := fun v => by
      unfold wLn
      rw [s4 v]
      have q1 : ¬ Q.2.2.1 i j 1 = (v : Int) := by omega
      have q2 : ¬ Q.2.2.1 i j 2 = (v : Int) := by omega
      simp only [if_neg q1, if_neg q2]
    obtain ⟨i1, i2⟩ := ih (j + 1) (by omega) (by omega)
    refine ⟨fun v x z => i1 v x ?_, fun b hb => (i2 b hb).trans ((h31 b hb).trans (rfl))⟩
    rw [hL v, z]
    rfl
  · intro F_2 l5_2 x1 x2 x3 x4 x5 x6 x7 x8 x9 x10 x11 x12 x13 x14 x15 x16 k e1 h1 h2 h3 h4 h5 h6 h7 h8 h9 h10 h11 h12 h13 h14 h15 h16 h17 h18 h19 h20 h21 h22 h23 h24 h25 h26 h27 h28 h29 h30 h31 h32 h33 h34 ih
    intro j ej hj
    have hs := h3
    have eB : F_2 (el (γ 14 c) i) = F (el (γ 14 c) i) := rs0 hs hB (by decide)
    have ex1 : x1 = γ 14 (el (γ 14 c) i) := by rw [← h6, eB, v1, g1]; rfl
    have em : x2.toInt = (γ 2 (γ 14 (el (γ 14 c) i)) : Int) := by rw [h7, ex1]
    have eX : x3 = γ 15 (el (γ 14 c) i) := by rw [← h12, eB, v1, g2]; rfl
    have kX : γ 0 x3 = 1 := by rw [eX, g2]; exact v5
    have ejn : j = Q.2.1 i - 1 := by have := h11; have := h9; omega
    have hU := hend
    rw [← eX, ← ejn] at hU
    have eR : F_2 x3 = F x3 := rs0 hs kX (by decide)
    have nX : x3 ≠ γ 9 5 := fun e => by rw [e, k95] at kX; cases kX
    have fx13 : x13 x3 = F x3 := (h27 _ nX).trans eR
    have u13 : x4 = fI (F x3) 0 := by rw [← h13, eR]
    have u17 : x6 = fI (F x3) 5 := by rw [← h17, eR]
    have u22 : x8 = fI (F x3) 2 := by rw [← h22, eR]
    have u30 : x14 = fI (F x3) 6 := by rw [← h30, fx13]
    have qs := ss_tr h15
    have qa := uA_tr h19
    have qb := uB_tr h32
    rw [u13] at qs
    rw [u13] at qa
    rw [u17] at qa
    rw [u13] at qb
    rw [u30] at qb
    obtain ⟨U1, U2, U3⟩ := hU
    have n1 : Q.2.2.1 i j 1 = -1 := by omega
    have s2 : ∀ v : Nat, wt γ x13 v = if Q.2.2.1 i j 2 = (v : Int) then wt γ F_2 v + kf else wt γ F_2 v := fun v => by
      have z := up_w h26 h25 h24 (by rw [u22]; omega) v
      unfold wt
      rw [cB_of h28, cB_of h23, z, u22, show (fI (F x3) 2).toInt = Q.2.2.1 i j 2 by omega]
    have n4 : Q.2.2.1 i j 4 = -1 := by omega
    have hL : ∀ v : Nat, wt γ x13 v = wLn (Q.2.2.1 i j) v kf (wt γ F_2 v) := fun v => by
      unfold wLn
      rw [s2 v]
      have q1 : ¬ Q.2.2.1 i j 1 = (v : Int) := by omega
      have q4 : ¬ Q.2.2.1 i j 4 = (v : Int) := by omega
      simp only [if_neg q1, if_neg q4]
    obtain ⟨i1, i2⟩ := ih (j + 1) (by omega) (by omega)
    refine ⟨fun v x z => i1 v x ?_, fun b hb => (i2 b hb).trans ((h27 b hb).trans (rfl))⟩
    rw [hL v, z]
    rfl
  · intro F_2 l5_2 x1 x2 x3 x4 x5 x6 x7 x8 x9 x10 x11 x12 x13 x14 x15 x16 x17 x18 x19 x20 x21 k e1 h1 h2 h3 h4 h5 h6 h7 h8 h9 h10 h11 h12 h13 h14 h15 h16 h17 h18 h19 h20 h21 h22 h23 h24 h25 h26 h27 h28 h29 h30 h31 h32 h33 h34 h35 h36 h37 h38 h39 h40 h41 h42 ih
    intro j ej hj
    have hs := h3
    have eB : F_2 (el (γ 14 c) i) = F (el (γ 14 c) i) := rs0 hs hB (by decide)
    have ex1 : x1 = γ 14 (el (γ 14 c) i) := by rw [← h6, eB, v1, g1]; rfl
    have em : x2.toInt = (γ 2 (γ 14 (el (γ 14 c) i)) : Int) := by rw [h7, ex1]
    have eX : x3 = γ 15 (el (γ 14 c) i) := by rw [← h12, eB, v1, g2]; rfl
    have kX : γ 0 x3 = 1 := by rw [eX, g2]; exact v5
    have ejn : j = Q.2.1 i - 1 := by have := h11; have := h9; omega
    have hU := hend
    rw [← eX, ← ejn] at hU
    have eR : F_2 x3 = F x3 := rs0 hs kX (by decide)
    have nX : x3 ≠ γ 9 5 := fun e => by rw [e, k95] at kX; cases kX
    have fx13 : x13 x3 = F x3 := (h27 _ nX).trans eR
    have fx20 : x20 x3 = F x3 := (h40 _ nX).trans fx13
    have u13 : x4 = fI (F x3) 0 := by rw [← h13, eR]
    have u17 : x6 = fI (F x3) 5 := by rw [← h17, eR]
    have u22 : x8 = fI (F x3) 2 := by rw [← h22, eR]
    have u30 : x14 = fI (F x3) 6 := by rw [← h30, fx13]
    have u35 : x16 = fI (F x3) 3 := by rw [← h35, fx13]
    have qs := ss_tr h15
    have qa := uA_tr h19
    have qb := uB_tr h32
    rw [u13] at qs
    rw [u13] at qa
    rw [u17] at qa
    rw [u13] at qb
    rw [u30] at qb
    obtain ⟨U1, U2, U3⟩ := hU
    have n1 : Q.2.2.1 i j 1 = -1 := by omega
    have s2 : ∀ v : Nat, wt γ x13 v = if Q.2.2.1 i j 2 = (v : Int) then wt γ F_2 v + kf else wt γ F_2 v := fun v => by
      have z := up_w h26 h25 h24 (by rw [u22]; omega) v
      unfold wt
      rw [cB_of h28, cB_of h23, z, u22, show (fI (F x3) 2).toInt = Q.2.2.1 i j 2 by omega]
    have s4 : ∀ v : Nat, wt γ x20 v = if Q.2.2.1 i j 4 = (v : Int) then wt γ x13 v + kf else wt γ x13 v := fun v => by
      have z := up_w h39 h38 h37 (by rw [u35]; omega) v
      unfold wt
      rw [cB_of h41, cB_of h28, z, u35, show (fI (F x3) 3).toInt = Q.2.2.1 i j 4 by omega]
    have hL : ∀ v : Nat, wt γ x20 v = wLn (Q.2.2.1 i j) v kf (wt γ F_2 v) := fun v => by
      unfold wLn
      rw [s4 v, s2 v]
      have q1 : ¬ Q.2.2.1 i j 1 = (v : Int) := by omega
      simp only [if_neg q1]
    obtain ⟨i1, i2⟩ := ih (j + 1) (by omega) (by omega)
    refine ⟨fun v x z => i1 v x ?_, fun b hb => (i2 b hb).trans ((h40 b hb).trans ((h27 b hb).trans (rfl)))⟩
    rw [hL v, z]
    rfl
  · intro F_2 l5_2 x1 x2 x3 x4 x5 x6 x7 x8 x9 x10 x11 x12 x13 x14 x15 x16 k e1 h1 h2 h3 h4 h5 h6 h7 h8 h9 h10 h11 h12 h13 h14 h15 h16 h17 h18 h19 h20 h21 h22 h23 h24 h25 h26 h27 h28 h29 h30 h31 h32 h33 h34 ih
    intro j ej hj
    have hs := h3
    have eB : F_2 (el (γ 14 c) i) = F (el (γ 14 c) i) := rs0 hs hB (by decide)
    have ex1 : x1 = γ 14 (el (γ 14 c) i) := by rw [← h6, eB, v1, g1]; rfl
    have em : x2.toInt = (γ 2 (γ 14 (el (γ 14 c) i)) : Int) := by rw [h7, ex1]
    have eX : x3 = γ 15 (el (γ 14 c) i) := by rw [← h12, eB, v1, g2]; rfl
    have kX : γ 0 x3 = 1 := by rw [eX, g2]; exact v5
    have ejn : j = Q.2.1 i - 1 := by have := h11; have := h9; omega
    have hU := hend
    rw [← eX, ← ejn] at hU
    have eR : F_2 x3 = F x3 := rs0 hs kX (by decide)
    have nX : x3 ≠ γ 9 5 := fun e => by rw [e, k95] at kX; cases kX
    have fx11 : x11 x3 = F x3 := (h23 _ nX).trans eR
    have u13 : x4 = fI (F x3) 0 := by rw [← h13, eR]
    have u18 : x6 = fI (F x3) 1 := by rw [← h18, eR]
    have u26 : x12 = fI (F x3) 5 := by rw [← h26, fx11]
    have u30 : x14 = fI (F x3) 6 := by rw [← h30, fx11]
    have qs := ss_tr h15
    have qa := uA_tr h28
    have qb := uB_tr h32
    rw [u13] at qs
    rw [u13] at qa
    rw [u26] at qa
    rw [u13] at qb
    rw [u30] at qb
    obtain ⟨U1, U2, U3⟩ := hU
    have s1 : ∀ v : Nat, wt γ x11 v = if Q.2.2.1 i j 1 = (v : Int) then wt γ F_2 v + kf else wt γ F_2 v := fun v => by
      have z := up_w h22 h21 h20 (by rw [u18]; omega) v
      unfold wt
      rw [cB_of h24, cB_of h19, z, u18, show (fI (F x3) 1).toInt = Q.2.2.1 i j 1 by omega]
    have n2 : Q.2.2.1 i j 2 = -1 := by omega
    have n4 : Q.2.2.1 i j 4 = -1 := by omega
    have hL : ∀ v : Nat, wt γ x11 v = wLn (Q.2.2.1 i j) v kf (wt γ F_2 v) := fun v => by
      unfold wLn
      rw [s1 v]
      have q2 : ¬ Q.2.2.1 i j 2 = (v : Int) := by omega
      have q4 : ¬ Q.2.2.1 i j 4 = (v : Int) := by omega
      simp only [if_neg q2, if_neg q4]
    obtain ⟨i1, i2⟩ := ih (j + 1) (by omega) (by omega)
    refine ⟨fun v x z => i1 v x ?_, fun b hb => (i2 b hb).trans ((h23 b hb).trans (rfl))⟩
    rw [hL v, z]
    rfl
  · intro F_2 l5_2 x1 x2 x3 x4 x5 x6 x7 x8 x9 x10 x11 x12 x13 x14 x15 x16 x17 x18 x19 x20 x21 k e1 h1 h2 h3 h4 h5 h6 h7 h8 h9 h10 h11 h12 h13 h14 h15 h16 h17 h18 h19 h20 h21 h22 h23 h24 h25 h26 h27 h28 h29 h30 h31 h32 h33 h34 h35 h36 h37 h38 h39 h40 h41 h42 ih
    intro j ej hj
    have hs := h3
    have eB : F_2 (el (γ 14 c) i) = F (el (γ 14 c) i) := rs0 hs hB (by decide)
    have ex1 : x1 = γ 14 (el (γ 14 c) i) := by rw [← h6, eB, v1, g1]; rfl
    have em : x2.toInt = (γ 2 (γ 14 (el (γ 14 c) i)) : Int) := by rw [h7, ex1]
    have eX : x3 = γ 15 (el (γ 14 c) i) := by rw [← h12, eB, v1, g2]; rfl
    have kX : γ 0 x3 = 1 := by rw [eX, g2]; exact v5
    have ejn : j = Q.2.1 i - 1 := by have := h11; have := h9; omega
    have hU := hend
    rw [← eX, ← ejn] at hU
    have eR : F_2 x3 = F x3 := rs0 hs kX (by decide)
    have nX : x3 ≠ γ 9 5 := fun e => by rw [e, k95] at kX; cases kX
    have fx11 : x11 x3 = F x3 := (h23 _ nX).trans eR
    have fx20 : x20 x3 = F x3 := (h40 _ nX).trans fx11
    have u13 : x4 = fI (F x3) 0 := by rw [← h13, eR]
    have u18 : x6 = fI (F x3) 1 := by rw [← h18, eR]
    have u26 : x12 = fI (F x3) 5 := by rw [← h26, fx11]
    have u30 : x14 = fI (F x3) 6 := by rw [← h30, fx11]
    have u35 : x16 = fI (F x3) 3 := by rw [← h35, fx11]
    have qs := ss_tr h15
    have qa := uA_tr h28
    have qb := uB_tr h32
    rw [u13] at qs
    rw [u13] at qa
    rw [u26] at qa
    rw [u13] at qb
    rw [u30] at qb
    obtain ⟨U1, U2, U3⟩ := hU
    have s1 : ∀ v : Nat, wt γ x11 v = if Q.2.2.1 i j 1 = (v : Int) then wt γ F_2 v + kf else wt γ F_2 v := fun v => by
      have z := up_w h22 h21 h20 (by rw [u18]; omega) v
      unfold wt
      rw [cB_of h24, cB_of h19, z, u18, show (fI (F x3) 1).toInt = Q.2.2.1 i j 1 by omega]
    have n2 : Q.2.2.1 i j 2 = -1 := by omega
    have s4 : ∀ v : Nat, wt γ x20 v = if Q.2.2.1 i j 4 = (v : Int) then wt γ x11 v + kf else wt γ x11 v := fun v => by
      have z := up_w h39 h38 h37 (by rw [u35]; omega) v
      unfold wt
      rw [cB_of h41, cB_of h24, z, u35, show (fI (F x3) 3).toInt = Q.2.2.1 i j 4 by omega]
    have hL : ∀ v : Nat, wt γ x20 v = wLn (Q.2.2.1 i j) v kf (wt γ F_2 v) := fun v => by
      unfold wLn
      rw [s4 v, s1 v]
      have q2 : ¬ Q.2.2.1 i j 2 = (v : Int) := by omega
      simp only [if_neg q2]
    obtain ⟨i1, i2⟩ := ih (j + 1) (by omega) (by omega)
    refine ⟨fun v x z => i1 v x ?_, fun b hb => (i2 b hb).trans ((h40 b hb).trans ((h23 b hb).trans (rfl)))⟩
    rw [hL v, z]
    rfl
  · intro F_2 l5_2 x1 x2 x3 x4 x5 x6 x7 x8 x9 x10 x11 x12 x13 x14 x15 x16 x17 x18 x19 x20 x21 k e1 h1 h2 h3 h4 h5 h6 h7 h8 h9 h10 h11 h12 h13 h14 h15 h16 h17 h18 h19 h20 h21 h22 h23 h24 h25 h26 h27 h28 h29 h30 h31 h32 h33 h34 h35 h36 h37 h38 h39 h40 h41 h42 h43 ih
    intro j ej hj
    have hs := h3
    have eB : F_2 (el (γ 14 c) i) = F (el (γ 14 c) i) := rs0 hs hB (by decide)
    have ex1 : x1 = γ 14 (el (γ 14 c) i) := by rw [← h6, eB, v1, g1]; rfl
    have em : x2.toInt = (γ 2 (γ 14 (el (γ 14 c) i)) : Int) := by rw [h7, ex1]
    have eX : x3 = γ 15 (el (γ 14 c) i) := by rw [← h12, eB, v1, g2]; rfl
    have kX : γ 0 x3 = 1 := by rw [eX, g2]; exact v5
    have ejn : j = Q.2.1 i - 1 := by have := h11; have := h9; omega
    have hU := hend
    rw [← eX, ← ejn] at hU
    have eR : F_2 x3 = F x3 := rs0 hs kX (by decide)
    have nX : x3 ≠ γ 9 5 := fun e => by rw [e, k95] at kX; cases kX
    have fx11 : x11 x3 = F x3 := (h23 _ nX).trans eR
    have fx18 : x18 x3 = F x3 := (h36 _ nX).trans fx11
    have u13 : x4 = fI (F x3) 0 := by rw [← h13, eR]
    have u18 : x6 = fI (F x3) 1 := by rw [← h18, eR]
    have u26 : x12 = fI (F x3) 5 := by rw [← h26, fx11]
    have u31 : x14 = fI (F x3) 2 := by rw [← h31, fx11]
    have u39 : x19 = fI (F x3) 6 := by rw [← h39, fx18]
    have qs := ss_tr h15
    have qa := uA_tr h28
    have qb := uB_tr h41
    rw [u13] at qs
    rw [u13] at qa
    rw [u26] at qa
    rw [u13] at qb
    rw [u39] at qb
    obtain ⟨U1, U2, U3⟩ := hU
    have s1 : ∀ v : Nat, wt γ x11 v = if Q.2.2.1 i j 1 = (v : Int) then wt γ F_2 v + kf else wt γ F_2 v := fun v => by
      have z := up_w h22 h21 h20 (by rw [u18]; omega) v
      unfold wt
      rw [cB_of h24, cB_of h19, z, u18, show (fI (F x3) 1).toInt = Q.2.2.1 i j 1 by omega]
    have s2 : ∀ v : Nat, wt γ x18 v = if Q.2.2.1 i j 2 = (v : Int) then wt γ x11 v + kf else wt γ x11 v := fun v => by
      have z := up_w h35 h34 h33 (by rw [u31]; omega) v
      unfold wt
      rw [cB_of h37, cB_of h24, z, u31, show (fI (F x3) 2).toInt = Q.2.2.1 i j 2 by omega]
    have n4 : Q.2.2.1 i j 4 = -1 := by omega
    have hL : ∀ v : Nat, wt γ x18 v = wLn (Q.2.2.1 i j) v kf (wt γ F_2 v) := fun v => by
      unfold wLn
      rw [s2 v, s1 v]
      have q4 : ¬ Q.2.2.1 i j 4 = (v : Int) := by omega
      simp only [if_neg q4]
    obtain ⟨i1, i2⟩ := ih (j + 1) (by omega) (by omega)
    refine ⟨fun v x z => i1 v x ?_, fun b hb => (i2 b hb).trans ((h36 b hb).trans ((h23 b hb).trans (rfl)))⟩
    rw [hL v, z]
    rfl
  · intro F_2 l5_2 x1 x2 x3 x4 x5 x6 x7 x8 x9 x10 x11 x12 x13 x14 x15 x16 x17 x18 x19 x20 x21 x22 x23 x24 x25 x26 k e1 h1 h2 h3 h4 h5 h6 h7 h8 h9 h10 h11 h12 h13 h14 h15 h16 h17 h18 h19 h20 h21 h22 h23 h24 h25 h26 h27 h28 h29 h30 h31 h32 h33 h34 h35 h36 h37 h38 h39 h40 h41 h42 h43 h44 h45 h46 h47 h48 h49 h50 h51 ih
    intro j ej hj
    have hs := h3
    have eB : F_2 (el (γ 14 c) i) = F (el (γ 14 c) i) := rs0 hs hB (by decide)
    have ex1 : x1 = γ 14 (el (γ 14 c) i) := by rw [← h6, eB, v1, g1]; rfl
    have em : x2.toInt = (γ 2 (γ 14 (el (γ 14 c) i)) : Int) := by rw [h7, ex1]
    have eX : x3 = γ 15 (el (γ 14 c) i) := by rw [← h12, eB, v1, g2]; rfl
    have kX : γ 0 x3 = 1 := by rw [eX, g2]; exact v5
    have ejn : j = Q.2.1 i - 1 := by have := h11; have := h9; omega
    have hU := hend
    rw [← eX, ← ejn] at hU
    have eR : F_2 x3 = F x3 := rs0 hs kX (by decide)
    have nX : x3 ≠ γ 9 5 := fun e => by rw [e, k95] at kX; cases kX
    have fx11 : x11 x3 = F x3 := (h23 _ nX).trans eR
    have fx18 : x18 x3 = F x3 := (h36 _ nX).trans fx11
    have fx25 : x25 x3 = F x3 := (h49 _ nX).trans fx18
    have u13 : x4 = fI (F x3) 0 := by rw [← h13, eR]
    have u18 : x6 = fI (F x3) 1 := by rw [← h18, eR]
    have u26 : x12 = fI (F x3) 5 := by rw [← h26, fx11]
    have u31 : x14 = fI (F x3) 2 := by rw [← h31, fx11]
    have u39 : x19 = fI (F x3) 6 := by rw [← h39, fx18]
    have u44 : x21 = fI (F x3) 3 := by rw [← h44, fx18]
    have qs := ss_tr h15
    have qa := uA_tr h28
    have qb := uB_tr h41
    rw [u13] at qs
    rw [u13] at qa
    rw [u26] at qa
    rw [u13] at qb
    rw [u39] at qb
    obtain ⟨U1, U2, U3⟩ := hU
    have s1 : ∀ v : Nat, wt γ x11 v = if Q.2.2.1 i j 1 = (v : Int) then wt γ F_2 v + kf else wt γ F_2 v := fun v => by
      have z := up_w h22 h21 h20 (by rw [u18]; omega) v
      unfold wt
      rw [cB_of h24, cB_of h19, z, u18, show (fI (F x3) 1).toInt = Q.2.2.1 i j 1 by omega]
    have s2 : ∀ v : Nat, wt γ x18 v = if Q.2.2.1 i j 2 = (v : Int) then wt γ x11 v + kf else wt γ x11 v := fun v => by
      have z := up_w h35 h34 h33 (by rw [u31]; omega) v
      unfold wt
      rw [cB_of h37, cB_of h24, z, u31, show (fI (F x3) 2).toInt = Q.2.2.1 i j 2 by omega]
    have s4 : ∀ v : Nat, wt γ x25 v = if Q.2.2.1 i j 4 = (v : Int) then wt γ x18 v + kf else wt γ x18 v := fun v => by
      have z := up_w h48 h47 h46 (by rw [u44]; omega) v
      unfold wt
      rw [cB_of h50, cB_of h37, z, u44, show (fI (F x3) 3).toInt = Q.2.2.1 i j 4 by omega]
    have hL : ∀ v : Nat, wt γ x25 v = wLn (Q.2.2.1 i j) v kf (wt γ F_2 v) := fun v => by
      unfold wLn
      rw [s4 v, s2 v, s1 v]
    obtain ⟨i1, i2⟩ := ih (j + 1) (by omega) (by omega)
    refine ⟨fun v x z => i1 v x ?_, fun b hb => (i2 b hb).trans ((h49 b hb).trans ((h36 b hb).trans ((h23 b hb).trans (rfl))))⟩
    rw [hL v, z]
    rfl
  · intro F_2 l5_2 x1 x2 x3 x4 x5 x6 x7 x8 x9 x10 k e1 h1 h2 h3 h4 h5 h6 h7 h8 h9 h10 h11 h12 h13 h14 h15 h16 h17 h18 h19 h20 h21 h22 h23 h24 h25 h26 ih
    intro j ej hj
    have hs := h3
    have eB : F_2 (el (γ 14 c) i) = F (el (γ 14 c) i) := rs0 hs hB (by decide)
    have ex1 : x1 = γ 14 (el (γ 14 c) i) := by rw [← h6, eB, v1, g1]; rfl
    have em : x2.toInt = (γ 2 (γ 14 (el (γ 14 c) i)) : Int) := by rw [h7, ex1]
    have hlt := h11
    have eX : x3 = el (γ 14 (el (γ 14 c) i)) j := by rw [h12, ex1, show l5_2.toInt.toNat = j by omega]
    have kX : γ 0 x3 = 1 := by rw [eX, g1]; exact (kl j (by rw [← g1]; omega)).1
    have hU := hrow j (by omega)
    rw [← eX] at hU
    have eR : F_2 x3 = F x3 := rs0 hs kX (by decide)
    have nX : x3 ≠ γ 9 5 := fun e => by rw [e, k95] at kX; cases kX
    have u14 : x4 = fI (F x3) 0 := by rw [← h14, eR]
    have u18 : x6 = fI (F x3) 5 := by rw [← h18, eR]
    have u22 : x8 = fI (F x3) 6 := by rw [← h22, eR]
    have qs := ss_tr h16
    have qa := uA_tr h20
    have qb := uB_tr h24
    rw [u14] at qs
    rw [u14] at qa
    rw [u18] at qa
    rw [u14] at qb
    rw [u22] at qb
    obtain ⟨U1, U2, U3⟩ := hU
    have n1 : Q.2.2.1 i j 1 = -1 := by omega
    have n2 : Q.2.2.1 i j 2 = -1 := by omega
    have n4 : Q.2.2.1 i j 4 = -1 := by omega
    have hL : ∀ v : Nat, wt γ F_2 v = wLn (Q.2.2.1 i j) v kf (wt γ F_2 v) := fun v => by
      unfold wLn
      have q1 : ¬ Q.2.2.1 i j 1 = (v : Int) := by omega
      have q2 : ¬ Q.2.2.1 i j 2 = (v : Int) := by omega
      have q4 : ¬ Q.2.2.1 i j 4 = (v : Int) := by omega
      simp only [if_neg q1, if_neg q2, if_neg q4]
    obtain ⟨i1, i2⟩ := ih (j + 1) (by omega) (by omega)
    refine ⟨fun v x z => i1 v x ?_, fun b hb => (i2 b hb).trans (rfl)⟩
    rw [hL v, z]
    rfl
  · intro F_2 l5_2 x1 x2 x3 x4 x5 x6 x7 x8 x9 x10 x11 x12 x13 x14 x15 x16 k e1 h1 h2 h3 h4 h5 h6 h7 h8 h9 h10 h11 h12 h13 h14 h15 h16 h17 h18 h19 h20 h21 h22 h23 h24 h25 h26 h27 h28 h29 h30 h31 h32 h33 h34 ih
    intro j ej hj
    have hs := h3
    have eB : F_2 (el (γ 14 c) i) = F (el (γ 14 c) i) := rs0 hs hB (by decide)
    have ex1 : x1 = γ 14 (el (γ 14 c) i) := by rw [← h6, eB, v1, g1]; rfl
    have em : x2.toInt = (γ 2 (γ 14 (el (γ 14 c) i)) : Int) := by rw [h7, ex1]
    have hlt := h11
    have eX : x3 = el (γ 14 (el (γ 14 c) i)) j := by rw [h12, ex1, show l5_2.toInt.toNat = j by omega]
    have kX : γ 0 x3 = 1 := by rw [eX, g1]; exact (kl j (by rw [← g1]; omega)).1
    have hU := hrow j (by omega)
    rw [← eX] at hU
    have eR : F_2 x3 = F x3 := rs0 hs kX (by decide)
    have nX : x3 ≠ γ 9 5 := fun e => by rw [e, k95] at kX; cases kX
    have fx15 : x15 x3 = F x3 := (h32 _ nX).trans eR
    have u14 : x4 = fI (F x3) 0 := by rw [← h14, eR]
    have u18 : x6 = fI (F x3) 5 := by rw [← h18, eR]
    have u22 : x8 = fI (F x3) 6 := by rw [← h22, eR]
    have u27 : x10 = fI (F x3) 3 := by rw [← h27, eR]
    have qs := ss_tr h16
    have qa := uA_tr h20
    have qb := uB_tr h24
    rw [u14] at qs
    rw [u14] at qa
    rw [u18] at qa
    rw [u14] at qb
    rw [u22] at qb
    obtain ⟨U1, U2, U3⟩ := hU
    have n1 : Q.2.2.1 i j 1 = -1 := by omega
    have n2 : Q.2.2.1 i j 2 = -1 := by omega
    have s4 : ∀ v : Nat, wt γ x15 v = if Q.2.2.1 i j 4 = (v : Int) then wt γ F_2 v + kf else wt γ F_2 v := fun v => by
      have z := up_w h31 h30 h29 (by rw [u27]; omega) v
      unfold wt
      rw [cB_of h33, cB_of h28, z, u27, show (fI (F x3) 3).toInt = Q.2.2.1 i j 4 by omega]
    have hL : ∀ v : Nat, wt γ x15 v = wLn (Q.2.2.1 i j) v kf (wt γ F_2 v) := fun v => by
      unfold wLn
      rw [s4 v]
      have q1 : ¬ Q.2.2.1 i j 1 = (v : Int) := by omega
      have q2 : ¬ Q.2.2.1 i j 2 = (v : Int) := by omega
      simp only [if_neg q1, if_neg q2]
    obtain ⟨i1, i2⟩ := ih (j + 1) (by omega) (by omega)
    refine ⟨fun v x z => i1 v x ?_, fun b hb => (i2 b hb).trans ((h32 b hb).trans (rfl))⟩
    rw [hL v, z]
    rfl
  · intro F_2 l5_2 x1 x2 x3 x4 x5 x6 x7 x8 x9 x10 x11 x12 x13 x14 x15 x16 k e1 h1 h2 h3 h4 h5 h6 h7 h8 h9 h10 h11 h12 h13 h14 h15 h16 h17 h18 h19 h20 h21 h22 h23 h24 h25 h26 h27 h28 h29 h30 h31 h32 h33 h34 h35 ih
    intro j ej hj
    have hs := h3
    have eB : F_2 (el (γ 14 c) i) = F (el (γ 14 c) i) := rs0 hs hB (by decide)
    have ex1 : x1 = γ 14 (el (γ 14 c) i) := by rw [← h6, eB, v1, g1]; rfl
    have em : x2.toInt = (γ 2 (γ 14 (el (γ 14 c) i)) : Int) := by rw [h7, ex1]
    have hlt := h11
    have eX : x3 = el (γ 14 (el (γ 14 c) i)) j := by rw [h12, ex1, show l5_2.toInt.toNat = j by omega]
    have kX : γ 0 x3 = 1 := by rw [eX, g1]; exact (kl j (by rw [← g1]; omega)).1
    have hU := hrow j (by omega)
    rw [← eX] at hU
    have eR : F_2 x3 = F x3 := rs0 hs kX (by decide)
    have nX : x3 ≠ γ 9 5 := fun e => by rw [e, k95] at kX; cases kX
    have fx13 : x13 x3 = F x3 := (h28 _ nX).trans eR
    have u14 : x4 = fI (F x3) 0 := by rw [← h14, eR]
    have u18 : x6 = fI (F x3) 5 := by rw [← h18, eR]
    have u23 : x8 = fI (F x3) 2 := by rw [← h23, eR]
    have u31 : x14 = fI (F x3) 6 := by rw [← h31, fx13]
    have qs := ss_tr h16
    have qa := uA_tr h20
    have qb := uB_tr h33
    rw [u14] at qs
    rw [u14] at qa
    rw [u18] at qa
    rw [u14] at qb
    rw [u31] at qb
    obtain ⟨U1, U2, U3⟩ := hU
    have n1 : Q.2.2.1 i j 1 = -1 := by omega
    have s2 : ∀ v : Nat, wt γ x13 v = if Q.2.2.1 i j 2 = (v : Int) then wt γ F_2 v + kf else wt γ F_2 v := fun v => by
      have z := up_w h27 h26 h25 (by rw [u23]; omega) v
      unfold wt
      rw [cB_of h29, cB_of h24, z, u23, show (fI (F x3) 2).toInt = Q.2.2.1 i j 2 by omega]
    have n4 : Q.2.2.1 i j 4 = -1 := by omega
    have hL : ∀ v : Nat, wt γ x13 v = wLn (Q.2.2.1 i j) v kf (wt γ F_2 v) := fun v => by
      unfold wLn
      rw [s2 v]
      have q1 : ¬ Q.2.2.1 i j 1 = (v : Int) := by omega
      have q4 : ¬ Q.2.2.1 i j 4 = (v : Int) := by omega
      simp only [if_neg q1, if_neg q4]
    obtain ⟨i1, i2⟩ := ih (j + 1) (by omega) (by omega)
    refine ⟨fun v x z => i1 v x ?_, fun b hb => (i2 b hb).trans ((h28 b hb).trans (rfl))⟩
    rw [hL v, z]
    rfl
  · intro F_2 l5_2 x1 x2 x3 x4 x5 x6 x7 x8 x9 x10 x11 x12 x13 x14 x15 x16 x17 x18 x19 x20 x21 k e1 h1 h2 h3 h4 h5 h6 h7 h8 h9 h10 h11 h12 h13 h14 h15 h16 h17 h18 h19 h20 h21 h22 h23 h24 h25 h26 h27 h28 h29 h30 h31 h32 h33 h34 h35 h36 h37 h38 h39 h40 h41 h42 h43 ih
    intro j ej hj
    have hs := h3
    have eB : F_2 (el (γ 14 c) i) = F (el (γ 14 c) i) := rs0 hs hB (by decide)
    have ex1 : x1 = γ 14 (el (γ 14 c) i) := by rw [← h6, eB, v1, g1]; rfl
    have em : x2.toInt = (γ 2 (γ 14 (el (γ 14 c) i)) : Int) := by rw [h7, ex1]
    have hlt := h11
    have eX : x3 = el (γ 14 (el (γ 14 c) i)) j := by rw [h12, ex1, show l5_2.toInt.toNat = j by omega]
    have kX : γ 0 x3 = 1 := by rw [eX, g1]; exact (kl j (by rw [← g1]; omega)).1
    have hU := hrow j (by omega)
    rw [← eX] at hU
    have eR : F_2 x3 = F x3 := rs0 hs kX (by decide)
    have nX : x3 ≠ γ 9 5 := fun e => by rw [e, k95] at kX; cases kX
    have fx13 : x13 x3 = F x3 := (h28 _ nX).trans eR
    have fx20 : x20 x3 = F x3 := (h41 _ nX).trans fx13
    have u14 : x4 = fI (F x3) 0 := by rw [← h14, eR]
    have u18 : x6 = fI (F x3) 5 := by rw [← h18, eR]
    have u23 : x8 = fI (F x3) 2 := by rw [← h23, eR]
    have u31 : x14 = fI (F x3) 6 := by rw [← h31, fx13]
    have u36 : x16 = fI (F x3) 3 := by rw [← h36, fx13]
    have qs := ss_tr h16
    have qa := uA_tr h20
    have qb := uB_tr h33
    rw [u14] at qs
    rw [u14] at qa
    rw [u18] at qa
    rw [u14] at qb
    rw [u31] at qb
    obtain ⟨U1, U2, U3⟩ := hU
    have n1 : Q.2.2.1 i j 1 = -1 := by omega
    have s2 : ∀ v : Nat, wt γ x13 v = if Q.2.2.1 i j 2 = (v : Int) then wt γ F_2 v + kf else wt γ F_2 v := fun v => by
      have z := up_w h27 h26 h25 (by rw [u23]; omega) v
      unfold wt
      rw [cB_of h29, cB_of h24, z, u23, show (fI (F x3) 2).toInt = Q.2.2.1 i j 2 by omega]
    have s4 : ∀ v : Nat, wt γ x20 v = if Q.2.2.1 i j 4 = (v : Int) then wt γ x13 v + kf else wt γ x13 v := fun v => by
      have z := up_w h40 h39 h38 (by rw [u36]; omega) v
      unfold wt
      rw [cB_of h42, cB_of h29, z, u36, show (fI (F x3) 3).toInt = Q.2.2.1 i j 4 by omega]
    have hL : ∀ v : Nat, wt γ x20 v = wLn (Q.2.2.1 i j) v kf (wt γ F_2 v) := fun v => by
      unfold wLn
      rw [s4 v, s2 v]
      have q1 : ¬ Q.2.2.1 i j 1 = (v : Int) := by omega
      simp only [if_neg q1]
    obtain ⟨i1, i2⟩ := ih (j + 1) (by omega) (by omega)
    refine ⟨fun v x z => i1 v x ?_, fun b hb => (i2 b hb).trans ((h41 b hb).trans ((h28 b hb).trans (rfl)))⟩
    rw [hL v, z]
    rfl
  · intro F_2 l5_2 x1 x2 x3 x4 x5 x6 x7 x8 x9 x10 x11 x12 x13 x14 x15 x16 k e1 h1 h2 h3 h4 h5 h6 h7 h8 h9 h10 h11 h12 h13 h14 h15 h16 h17 h18 h19 h20 h21 h22 h23 h24 h25 h26 h27 h28 h29 h30 h31 h32 h33 h34 h35 ih
    intro j ej hj
    have hs := h3
    have eB : F_2 (el (γ 14 c) i) = F (el (γ 14 c) i) := rs0 hs hB (by decide)
    have ex1 : x1 = γ 14 (el (γ 14 c) i) := by rw [← h6, eB, v1, g1]; rfl
    have em : x2.toInt = (γ 2 (γ 14 (el (γ 14 c) i)) : Int) := by rw [h7, ex1]
    have hlt := h11
    have eX : x3 = el (γ 14 (el (γ 14 c) i)) j := by rw [h12, ex1, show l5_2.toInt.toNat = j by omega]
    have kX : γ 0 x3 = 1 := by rw [eX, g1]; exact (kl j (by rw [← g1]; omega)).1
    have hU := hrow j (by omega)
    rw [← eX] at hU
    have eR : F_2 x3 = F x3 := rs0 hs kX (by decide)
    have nX : x3 ≠ γ 9 5 := fun e => by rw [e, k95] at kX; cases kX
    have fx11 : x11 x3 = F x3 := (h24 _ nX).trans eR
    have u14 : x4 = fI (F x3) 0 := by rw [← h14, eR]
    have u19 : x6 = fI (F x3) 1 := by rw [← h19, eR]
    have u27 : x12 = fI (F x3) 5 := by rw [← h27, fx11]
    have u31 : x14 = fI (F x3) 6 := by rw [← h31, fx11]
    have qs := ss_tr h16
    have qa := uA_tr h29
    have qb := uB_tr h33
    rw [u14] at qs
    rw [u14] at qa
    rw [u27] at qa
    rw [u14] at qb
    rw [u31] at qb
    obtain ⟨U1, U2, U3⟩ := hU
    have s1 : ∀ v : Nat, wt γ x11 v = if Q.2.2.1 i j 1 = (v : Int) then wt γ F_2 v + kf else wt γ F_2 v := fun v => by
      have z := up_w h23 h22 h21 (by rw [u19]; omega) v
      unfold wt
      rw [cB_of h25, cB_of h20, z, u19, show (fI (F x3) 1).toInt = Q.2.2.1 i j 1 by omega]
    have n2 : Q.2.2.1 i j 2 = -1 := by omega
    have n4 : Q.2.2.1 i j 4 = -1 := by omega
    have hL : ∀ v : Nat, wt γ x11 v = wLn (Q.2.2.1 i j) v kf (wt γ F_2 v) := fun v => by
      unfold wLn
      rw [s1 v]
      have q2 : ¬ Q.2.2.1 i j 2 = (v : Int) := by omega
      have q4 : ¬ Q.2.2.1 i j 4 = (v : Int) := by omega
      simp only [if_neg q2, if_neg q4]
    obtain ⟨i1, i2⟩ := ih (j + 1) (by omega) (by omega)
    refine ⟨fun v x z => i1 v x ?_, fun b hb => (i2 b hb).trans ((h24 b hb).trans (rfl))⟩
    rw [hL v, z]
    rfl
  · intro F_2 l5_2 x1 x2 x3 x4 x5 x6 x7 x8 x9 x10 x11 x12 x13 x14 x15 x16 x17 x18 x19 x20 x21 k e1 h1 h2 h3 h4 h5 h6 h7 h8 h9 h10 h11 h12 h13 h14 h15 h16 h17 h18 h19 h20 h21 h22 h23 h24 h25 h26 h27 h28 h29 h30 h31 h32 h33 h34 h35 h36 h37 h38 h39 h40 h41 h42 h43 ih
    intro j ej hj
    have hs := h3
    have eB : F_2 (el (γ 14 c) i) = F (el (γ 14 c) i) := rs0 hs hB (by decide)
    have ex1 : x1 = γ 14 (el (γ 14 c) i) := by rw [← h6, eB, v1, g1]; rfl
    have em : x2.toInt = (γ 2 (γ 14 (el (γ 14 c) i)) : Int) := by rw [h7, ex1]
    have hlt := h11
    have eX : x3 = el (γ 14 (el (γ 14 c) i)) j := by rw [h12, ex1, show l5_2.toInt.toNat = j by omega]
    have kX : γ 0 x3 = 1 := by rw [eX, g1]; exact (kl j (by rw [← g1]; omega)).1
    have hU := hrow j (by omega)
    rw [← eX] at hU
    have eR : F_2 x3 = F x3 := rs0 hs kX (by decide)
    have nX : x3 ≠ γ 9 5 := fun e => by rw [e, k95] at kX; cases kX
    have fx11 : x11 x3 = F x3 := (h24 _ nX).trans eR
    have fx20 : x20 x3 = F x3 := (h41 _ nX).trans fx11
    have u14 : x4 = fI (F x3) 0 := by rw [← h14, eR]
    have u19 : x6 = fI (F x3) 1 := by rw [← h19, eR]
    have u27 : x12 = fI (F x3) 5 := by rw [← h27, fx11]
    have u31 : x14 = fI (F x3) 6 := by rw [← h31, fx11]
    have u36 : x16 = fI (F x3) 3 := by rw [← h36, fx11]
    have qs := ss_tr h16
    have qa := uA_tr h29
    have qb := uB_tr h33
    rw [u14] at qs
    rw [u14] at qa
    rw [u27] at qa
    rw [u14] at qb
    rw [u31] at qb
    obtain ⟨U1, U2, U3⟩ := hU
    have s1 : ∀ v : Nat, wt γ x11 v = if Q.2.2.1 i j 1 = (v : Int) then wt γ F_2 v + kf else wt γ F_2 v := fun v => by
      have z := up_w h23 h22 h21 (by rw [u19]; omega) v
      unfold wt
      rw [cB_of h25, cB_of h20, z, u19, show (fI (F x3) 1).toInt = Q.2.2.1 i j 1 by omega]
    have n2 : Q.2.2.1 i j 2 = -1 := by omega
    have s4 : ∀ v : Nat, wt γ x20 v = if Q.2.2.1 i j 4 = (v : Int) then wt γ x11 v + kf else wt γ x11 v := fun v => by
      have z := up_w h40 h39 h38 (by rw [u36]; omega) v
      unfold wt
      rw [cB_of h42, cB_of h25, z, u36, show (fI (F x3) 3).toInt = Q.2.2.1 i j 4 by omega]
    have hL : ∀ v : Nat, wt γ x20 v = wLn (Q.2.2.1 i j) v kf (wt γ F_2 v) := fun v => by
      unfold wLn
      rw [s4 v, s1 v]
      have q2 : ¬ Q.2.2.1 i j 2 = (v : Int) := by omega
      simp only [if_neg q2]
    obtain ⟨i1, i2⟩ := ih (j + 1) (by omega) (by omega)
    refine ⟨fun v x z => i1 v x ?_, fun b hb => (i2 b hb).trans ((h41 b hb).trans ((h24 b hb).trans (rfl)))⟩
    rw [hL v, z]
    rfl
  · intro F_2 l5_2 x1 x2 x3 x4 x5 x6 x7 x8 x9 x10 x11 x12 x13 x14 x15 x16 x17 x18 x19 x20 x21 k e1 h1 h2 h3 h4 h5 h6 h7 h8 h9 h10 h11 h12 h13 h14 h15 h16 h17 h18 h19 h20 h21 h22 h23 h24 h25 h26 h27 h28 h29 h30 h31 h32 h33 h34 h35 h36 h37 h38 h39 h40 h41 h42 h43 h44 ih
    intro j ej hj
    have hs := h3
    have eB : F_2 (el (γ 14 c) i) = F (el (γ 14 c) i) := rs0 hs hB (by decide)
    have ex1 : x1 = γ 14 (el (γ 14 c) i) := by rw [← h6, eB, v1, g1]; rfl
    have em : x2.toInt = (γ 2 (γ 14 (el (γ 14 c) i)) : Int) := by rw [h7, ex1]
    have hlt := h11
    have eX : x3 = el (γ 14 (el (γ 14 c) i)) j := by rw [h12, ex1, show l5_2.toInt.toNat = j by omega]
    have kX : γ 0 x3 = 1 := by rw [eX, g1]; exact (kl j (by rw [← g1]; omega)).1
    have hU := hrow j (by omega)
    rw [← eX] at hU
    have eR : F_2 x3 = F x3 := rs0 hs kX (by decide)
    have nX : x3 ≠ γ 9 5 := fun e => by rw [e, k95] at kX; cases kX
    have fx11 : x11 x3 = F x3 := (h24 _ nX).trans eR
    have fx18 : x18 x3 = F x3 := (h37 _ nX).trans fx11
    have u14 : x4 = fI (F x3) 0 := by rw [← h14, eR]
    have u19 : x6 = fI (F x3) 1 := by rw [← h19, eR]
    have u27 : x12 = fI (F x3) 5 := by rw [← h27, fx11]
    have u32 : x14 = fI (F x3) 2 := by rw [← h32, fx11]
    have u40 : x19 = fI (F x3) 6 := by rw [← h40, fx18]
    have qs := ss_tr h16
    have qa := uA_tr h29
    have qb := uB_tr h42
    rw [u14] at qs
    rw [u14] at qa
    rw [u27] at qa
    rw [u14] at qb
    rw [u40] at qb
    obtain ⟨U1, U2, U3⟩ := hU
    have s1 : ∀ v : Nat, wt γ x11 v = if Q.2.2.1 i j 1 = (v : Int) then wt γ F_2 v + kf else wt γ F_2 v := fun v => by
      have z := up_w h23 h22 h21 (by rw [u19]; omega) v
      unfold wt
      rw [cB_of h25, cB_of h20, z, u19, show (fI (F x3) 1).toInt = Q.2.2.1 i j 1 by omega]
    have s2 : ∀ v : Nat, wt γ x18 v = if Q.2.2.1 i j 2 = (v : Int) then wt γ x11 v + kf else wt γ x11 v := fun v => by
      have z := up_w h36 h35 h34 (by rw [u32]; omega) v
      unfold wt
      rw [cB_of h38, cB_of h25, z, u32, show (fI (F x3) 2).toInt = Q.2.2.1 i j 2 by omega]
    have n4 : Q.2.2.1 i j 4 = -1 := by omega
    have hL : ∀ v : Nat, wt γ x18 v = wLn (Q.2.2.1 i j) v kf (wt γ F_2 v) := fun v => by
      unfold wLn
      rw [s2 v, s1 v]
      have q4 : ¬ Q.2.2.1 i j 4 = (v : Int) := by omega
      simp only [if_neg q4]
    obtain ⟨i1, i2⟩ := ih (j + 1) (by omega) (by omega)
    refine ⟨fun v x z => i1 v x ?_, fun b hb => (i2 b hb).trans ((h37 b hb).trans ((h24 b hb).trans (rfl)))⟩
    rw [hL v, z]
    rfl
  · intro F_2 l5_2 x1 x2 x3 x4 x5 x6 x7 x8 x9 x10 x11 x12 x13 x14 x15 x16 x17 x18 x19 x20 x21 x22 x23 x24 x25 x26 k e1 h1 h2 h3 h4 h5 h6 h7 h8 h9 h10 h11 h12 h13 h14 h15 h16 h17 h18 h19 h20 h21 h22 h23 h24 h25 h26 h27 h28 h29 h30 h31 h32 h33 h34 h35 h36 h37 h38 h39 h40 h41 h42 h43 h44 h45 h46 h47 h48 h49 h50 h51 h52 ih
    intro j ej hj
    have hs := h3
    have eB : F_2 (el (γ 14 c) i) = F (el (γ 14 c) i) := rs0 hs hB (by decide)
    have ex1 : x1 = γ 14 (el (γ 14 c) i) := by rw [← h6, eB, v1, g1]; rfl
    have em : x2.toInt = (γ 2 (γ 14 (el (γ 14 c) i)) : Int) := by rw [h7, ex1]
    have hlt := h11
    have eX : x3 = el (γ 14 (el (γ 14 c) i)) j := by rw [h12, ex1, show l5_2.toInt.toNat = j by omega]
    have kX : γ 0 x3 = 1 := by rw [eX, g1]; exact (kl j (by rw [← g1]; omega)).1
    have hU := hrow j (by omega)
    rw [← eX] at hU
    have eR : F_2 x3 = F x3 := rs0 hs kX (by decide)
    have nX : x3 ≠ γ 9 5 := fun e => by rw [e, k95] at kX; cases kX
    have fx11 : x11 x3 = F x3 := (h24 _ nX).trans eR
    have fx18 : x18 x3 = F x3 := (h37 _ nX).trans fx11
    have fx25 : x25 x3 = F x3 := (h50 _ nX).trans fx18
    have u14 : x4 = fI (F x3) 0 := by rw [← h14, eR]
    have u19 : x6 = fI (F x3) 1 := by rw [← h19, eR]
    have u27 : x12 = fI (F x3) 5 := by rw [← h27, fx11]
    have u32 : x14 = fI (F x3) 2 := by rw [← h32, fx11]
    have u40 : x19 = fI (F x3) 6 := by rw [← h40, fx18]
    have u45 : x21 = fI (F x3) 3 := by rw [← h45, fx18]
    have qs := ss_tr h16
    have qa := uA_tr h29
    have qb := uB_tr h42
    rw [u14] at qs
    rw [u14] at qa
    rw [u27] at qa
    rw [u14] at qb
    rw [u40] at qb
    obtain ⟨U1, U2, U3⟩ := hU
    have s1 : ∀ v : Nat, wt γ x11 v = if Q.2.2.1 i j 1 = (v : Int) then wt γ F_2 v + kf else wt γ F_2 v := fun v => by
      have z := up_w h23 h22 h21 (by rw [u19]; omega) v
      unfold wt
      rw [cB_of h25, cB_of h20, z, u19, show (fI (F x3) 1).toInt = Q.2.2.1 i j 1 by omega]
    have s2 : ∀ v : Nat, wt γ x18 v = if Q.2.2.1 i j 2 = (v : Int) then wt γ x11 v + kf else wt γ x11 v := fun v => by
      have z := up_w h36 h35 h34 (by rw [u32]; omega) v
      unfold wt
      rw [cB_of h38, cB_of h25, z, u32, show (fI (F x3) 2).toInt = Q.2.2.1 i j 2 by omega]
    have s4 : ∀ v : Nat, wt γ x25 v = if Q.2.2.1 i j 4 = (v : Int) then wt γ x18 v + kf else wt γ x18 v := fun v => by
      have z := up_w h49 h48 h47 (by rw [u45]; omega) v
      unfold wt
      rw [cB_of h51, cB_of h38, z, u45, show (fI (F x3) 3).toInt = Q.2.2.1 i j 4 by omega]
    have hL : ∀ v : Nat, wt γ x25 v = wLn (Q.2.2.1 i j) v kf (wt γ F_2 v) := fun v => by
      unfold wLn
      rw [s4 v, s2 v, s1 v]
    obtain ⟨i1, i2⟩ := ih (j + 1) (by omega) (by omega)
    refine ⟨fun v x z => i1 v x ?_, fun b hb => (i2 b hb).trans ((h50 b hb).trans ((h37 b hb).trans ((h24 b hb).trans (rfl))))⟩
    rw [hL v, z]
    rfl
theorem w42 {l2 s1 s2 e1 : Int32} {kx dd : Nat} (h2 : 0 ≤ l2.toInt) (hd : dv γ F l2.toInt.toNat = (dd : Int)) (h : tl_RModel_weigh_42 D I γ el F q0 l2 s1 s2 kx e1) : ∀ m : Nat, s1.toInt = (m : Int) → m ≤ dd → s2 = f10 m → e1 = f10 dd := by
  refine h (fun s1 s2 _ e1 => ∀ m : Nat, s1.toInt = (m : Int) → m ≤ dd → s2 = f10 m → e1 = f10 dd) ?_ ?_
  · intro l4_2 l3_2 x1 x2 h1 h2 h3 h4 h5
    intro m em hm hs
    have ex : x2.toInt = (dd : Int) := by rw [← hd]; unfold dv; rw [cB_of h3, h4]; rfl
    have e : m = dd := by have := h5; omega
    rw [hs, e]
  · intro l4_2 l3_2 x1 x2 x3 x4 k e1 h1 h2 h3 h4 h5 h6 h7 ih
    intro m em hm hs
    have ex : x2.toInt = (dd : Int) := by rw [← hd]; unfold dv; rw [cB_of h3, h4]; rfl
    refine ih (m + 1) (by omega) (by have := h5; omega) ?_
    rw [h6, hs]
    rfl
theorem w29 {P0 : gPg} {s1 e1 : Nat → va_E} {s2 : Int32} {kx : Nat} (hT : RS D I P F γ el) (hm : γ 0 q0 = 10) (hc9 : γ 0 c = 9) (hB2 : ∀ i, i < Q.1 → γ 0 (el (γ 14 c) i) = 2) (hq : rfW γ el F c Q) (hO : qOk Q) (h : tl_RModel_weigh_29 D I γ el P F q0 c s1 s2 kx e1) : ∀ m : Nat, s2.toInt = (m : Int) → m ≤ Q.1 → (∀ b, b < Q.1 → dv γ s1 b = (dpt P0 b : Int)) → (∀ v, v < 2000 → wt γ s1 v = wPg Q (dpt P0) v m) → (∀ v, v < 2000 → wt γ e1 v = wPg Q (dpt P0) v Q.1) ∧ ∀ b, b ≠ γ 9 5 → e1 b = s1 b := by
  obtain ⟨k94, k95⟩ := md_kd5 hT hm
  obtain ⟨lb, lr, rn, md, z1, ⟨z2, z3, z4⟩, -⟩ := show rk_9 γ el c (F c) from RS_o hT hc9
  refine h (fun s1 s2 _ e1 => ∀ m : Nat, s2.toInt = (m : Int) → m ≤ Q.1 → (∀ b, b < Q.1 → dv γ s1 b = (dpt P0 b : Int)) → (∀ v, v < 2000 → wt γ s1 v = wPg Q (dpt P0) v m) → (∀ v, v < 2000 → wt γ e1 v = wPg Q (dpt P0) v Q.1) ∧ ∀ b, b ≠ γ 9 5 → e1 b = s1 b) ?_ ?_
  · intro F_1 l2_1 x1 h1 h2 h3 h4 h5 h6 h7
    intro m em hm2 hd hw
    have ex : x1.toInt = (Q.1 : Int) := by rw [← h6, rs0 h3 hc9 (by decide)]; exact hq.1
    have e : m = Q.1 := by have := h7; omega
    rw [e] at hw
    exact ⟨hw, fun _ _ => rfl⟩
  · intro F_1 l2_1 x1 x2 x3 x4 x5 x6 x7 k e1 h1 h2 h3 h4 h5 h6 h7 h8 h9 h10 h11 h12 h13 h14 ih
    intro m em hm2 hd hw
    have hs := h3
    have eq1 := rs0 hs hc9 (by decide)
    have ex : x1.toInt = (Q.1 : Int) := by rw [← h6, eq1]; exact hq.1
    have hlt := h7
    have hlm : m < Q.1 := by omega
    have e2 : l2_1.toInt.toNat = m := by omega
    have hk := w42 (by omega) (by rw [e2]; exact hd m hlm) h8 0 (by decide) (Nat.zero_le _) rfl
    have e4 : x4 = el (γ 14 c) m := by rw [h10, ← h9, eq1, z1, z2, e2]; rfl
    have h74 := h13
    rw [e4] at h74
    obtain ⟨w1, w2⟩ := w74 hT hm (hB2 m hlm) hq hO hlm h74 0 (by decide) (Nat.zero_le _)
    obtain ⟨i1, i2⟩ := ih (m + 1) (by omega) (by omega) (fun b hb => by
      have z := hd b hb
      unfold dv at z ⊢
      rw [w2 _ (fun e => by rw [e, k95] at k94; cases k94)]
      exact z) (fun v hv => by
      rw [w1 v (wPg Q (dpt P0) v m) (hw v hv), hk]
      rfl)
    exact ⟨i1, fun b hb => (i2 b hb).trans (w2 b hb)⟩
theorem w7 {s1 e1 : Nat → va_E} {s2 : Int32} {kx : Nat} (h : tl_RModel_weigh_7 D I γ el P F q0 s1 s2 kx e1) : 0 ≤ s2.toInt → (∀ v : Nat, (v : Int) < s2.toInt → v < 2000 → wt γ s1 v = 0) → (∀ v, v < 2000 → wt γ e1 v = 0) ∧ ∀ b, b ≠ γ 9 5 → e1 b = s1 b := by
  refine h (fun s1 s2 _ e1 => 0 ≤ s2.toInt → (∀ v : Nat, (v : Int) < s2.toInt → v < 2000 → wt γ s1 v = 0) → (∀ v, v < 2000 → wt γ e1 v = 0) ∧ ∀ b, b ≠ γ 9 5 → e1 b = s1 b) ?_ ?_
  · intro F_1 l2_1 h1 h2 h3 h4 h5 h6
    intro h0 hv
    exact ⟨fun v hv2 => hv v (by have := h6; omega) hv2, fun _ _ => rfl⟩
  · intro F_1 l2_1 x1 x2 x3 x4 k e1 h1 h2 h3 h4 h5 h6 h7 h8 h9 h10 h11 h12 ih
    intro h0 hv
    have p1 := cB_of h8
    have p2 := cB_of h11
    have hz : (l2_1.toNatClampNeg : Int) = l2_1.toInt := g_nn h0
    obtain ⟨i1, i2⟩ := ih (by omega) (fun v hv1 hv2 => by
      show cB (x3 (γ 9 5)) v = 0
      rw [p2, h9]
      unfold upd
      by_cases e : v = l2_1.toNatClampNeg
      · rw [if_pos e]
      · rw [if_neg e]
        have w := hv v (by omega) hv2
        unfold wt at w
        rw [p1] at w
        exact w)
    exact ⟨i1, fun b hb => (i2 b hb).trans (h10 b hb)⟩
/-- weigh: the weights -/
theorem wg_r (hT : RS D I P F γ el) (hm : γ 0 q0 = 10) (hc9 : γ 0 c = 9) (hB2 : ∀ i, i < Q.1 → γ 0 (el (γ 14 c) i) = 2) (hq : rfW γ el F c Q) (hO : qOk Q) (h40 : Q.1 ≤ 40) (hP0 : 0 < Q.1) (h : tr_RModel_weigh D I γ el P F q0 c F1) : (∀ v, v < 2000 → wt γ F1 v = wPg Q (dpt Q) v Q.1) ∧ ∀ b, b ≠ γ 9 4 → b ≠ γ 9 5 → F1 b = F b := by
  obtain ⟨k94, k95⟩ := md_kd5 hT hm
  refine h (fun F1 => (∀ v, v < 2000 → wt γ F1 v = wPg Q (dpt Q) v Q.1) ∧ ∀ b, b ≠ γ 9 4 → b ≠ γ 9 5 → F1 b = F b) ?_
  · intro x1 x2 x3 h1 h2 h3 h4 h5 h6 h7
    obtain ⟨a1, a2⟩ := dp_tr hT hm hc9 hB2 hq hO h40 hP0 h5
    obtain ⟨b1, b2⟩ := w7 h6 (by decide) (fun v hv => by rw [show Int32.toInt 0 = 0 from by decide] at hv; omega)
    obtain ⟨c1, c2⟩ := w29 (P0 := Q) hT hm hc9 hB2 hq hO h7 0 (by decide) (Nat.zero_le _) (fun b hb => by
      have z := a1 b hb
      unfold dv at z ⊢
      rw [b2 _ (fun e => by rw [e, k95] at k94; cases k94)]
      exact z) (fun v hv => b1 v hv)
    exact ⟨c1, fun b h4 h5 => (c2 b h5).trans ((b2 b h5).trans (a2 b h4))⟩
end WGR
