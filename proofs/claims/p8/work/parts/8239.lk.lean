/-! look of the reference -/
theorem bcR_tr {a0 : Int64} {r : Int32} (h : tr_RLong_bitCount a0 r) : r = lb_bc a0 := by
  refine h (fun r => r = lb_bc a0) ?_
  · intro x1 x2 x3 x4 x5 x6 x7 x8 x9 x10 x11 x12 x13 x14 x15 x16 x17 x18 h1 h2 h3 h4 h5 h6 h7 h8 h9 h10 h11 h12 h13 h14 h15 h16 h17 h18
    subst h18 h17 h16 h15 h14 h13 h12 h11 h10 h9 h8 h7 h6 h5 h4 h3 h2 h1
    rfl
theorem bc_b {x : Int64} : 0 ≤ (lb_bc x).toInt ∧ (lb_bc x).toInt ≤ 127 := by
  unfold lb_bc
  generalize (lb_b6 (lb_b5 (lb_b4 (lb_b3 (lb_b2 (lb_b1 x)))))).toInt32 = y
  have e : ∀ z : BitVec 32, (z &&& 127#32).toNat ≤ 127 := fun z => by
    rw [BitVec.toNat_and]
    exact Nat.and_le_right
  have h1 := e y.toBitVec
  have h2 : (y &&& 127).toInt = ((y.toBitVec &&& 127#32).toNat : Int) := by
    show (y.toBitVec &&& 127#32).toInt = _
    rw [BitVec.toInt_eq_toNat_cond, if_pos (by omega)]
  rw [h2]
  omega
theorem ct4 {f : Nat → Int64} {s1 s2 e1 : Int32} {kx : Nat} (h : tl_RModel_count_4 f s1 s2 kx e1) : ∀ m : Nat, s1.toInt = (m : Int) → m ≤ 32 → s2.toInt = bsm f 0 m → 0 ≤ bsm f 0 m ∧ bsm f 0 m ≤ 127 * (m : Int) → e1.toInt = bsm f 0 32 := by
  refine h (fun s1 s2 _ e1 => ∀ m : Nat, s1.toInt = (m : Int) → m ≤ 32 → s2.toInt = bsm f 0 m → 0 ≤ bsm f 0 m ∧ bsm f 0 m ≤ 127 * (m : Int) → e1.toInt = bsm f 0 32) ?_ ?_
  · intro l2_1 l1_1 h1 h2
    intro m em hm hs hb
    have e : m = 32 := by have := h2; omega
    rw [hs, e]
  · intro l2_1 l1_1 x1 x2 x3 x4 k e1 h1 h2 h3 h4 h5 h6 h7 ih
    intro m em hm hs hb
    have hlt := h2
    have e2 := bcR_tr h5
    have hz : (l2_1.toNatClampNeg : Int) = l2_1.toInt := g_nn (by omega)
    rw [h3, show l2_1.toNatClampNeg = m by omega] at e2
    have b := bc_b (x := f m)
    have es : bsm f 0 (m + 1) = bsm f 0 m + (lb_bc (f m)).toInt := by
      show bsm f 0 m + (lb_bc (f (0 + m))).toInt = _
      rw [Nat.zero_add]
    have e3 : x3.toInt = bsm f 0 (m + 1) := by
      rw [es, h6, Int32.toInt_add, hs, e2]
      exact Int.bmod_eq_of_le (by omega) (by omega)
    exact ih (m + 1) (by omega) (by omega) e3 (by rw [es]; omega)
theorem co_tr {f : Nat → Int64} {r : Int32} (h : tr_RModel_count f r) : r.toInt = bsm f 0 32 := by
  refine h (fun r => r.toInt = bsm f 0 32) ?_
  · intro x1 h1
    exact ct4 h1 0 (by decide) (by decide) (show Int32.toInt 0 = 0 by decide) ⟨(show (0 : Int) ≤ 0 by decide), (show (0 : Int) ≤ 127 * ((0 : Nat) : Int) by decide)⟩
/-- what is alive is used -/
theorem Lv_us {P : gPg} {v b j : Nat} (h : Lv P false v b j) : ∃ c k, c < P.1 ∧ k < P.2.1 c ∧ usR false (P.2.2.1 c k) v :=
  h (fun _ _ => ∃ c k, c < P.1 ∧ k < P.2.1 c ∧ usR false (P.2.2.1 c k) v) (fun b j h1 h2 h3 => ⟨b, j, h1, h2, h3⟩) (fun _ _ _ _ _ h => h) (fun _ _ _ _ _ _ _ h => h)
section LKR
variable {Q : gPg} {v k : Nat}
theorem q_us (hO : qOk Q) {c j : Nat} (hc : c < Q.1) (hj : j < Q.2.1 c) (h : usR false (Q.2.2.1 c j) v ∨ seR false (Q.2.2.1 c j) v) : v < 100 := by
  obtain ⟨h0, h1, h2, h3⟩ := hO.2 c hc
  unfold usR seR at h
  rw [if_neg (by decide), if_neg (by decide)] at h
  by_cases e : j + 1 < Q.2.1 c
  · obtain ⟨o1, o2, o3, o4, o5, o6, o7⟩ := h1 j e
    by_cases e2 : Q.2.2.1 c j 0 ≤ 15
    · have := o4 e2; omega
    · have := o5 (by omega); omega
  · rw [show Q.2.1 c - 1 = j by omega] at h2
    obtain ⟨o1, o2, o3, o4⟩ := h2
    omega
theorem q_lv (hO : qOk Q) {b j : Nat} (h : Lv Q false v b j) : v < 100 := by
  obtain ⟨c, k, h1, h2, h3⟩ := Lv_us h
  exact q_us hO h1 h2 (Or.inl h3)
theorem Jn_J1 (hO : qOk Q) : (J1 Q v k ∨ J1 Q k v) ↔ Jn Q false 100 v k := by
  have key : ∀ v k, J1 Q v k ↔ ∃ b j, b < Q.1 ∧ j < Q.2.1 b ∧ jdA Q false 100 b j v k := fun v k => by
    constructor
    · rintro ⟨c, j, h1, h2, h3, h4, h5, h6⟩
      exact ⟨c, j, h1, h2, q_us hO h1 h2 (Or.inr h3), q_lv hO h4, h3, h4, h5, fun z => h6 z.2⟩
    · rintro ⟨c, j, h1, h2, -, -, h3, h4, h5, h6⟩
      exact ⟨c, j, h1, h2, h3, h4, h5, fun z => h6 ⟨rfl, z⟩⟩
  rw [key v k, key k v]
  constructor
  · rintro (⟨b, j, h1, h2, h3⟩ | ⟨b, j, h1, h2, h3⟩)
    · exact ⟨b, j, h1, h2, Or.inl h3⟩
    · exact ⟨b, j, h1, h2, Or.inr h3⟩
  · rintro ⟨b, j, h1, h2, h3 | h3⟩
    · exact Or.inl ⟨b, j, h1, h2, h3⟩
    · exact Or.inr ⟨b, j, h1, h2, h3⟩
theorem nthT_l {T : Nat → Prop} : ∀ {k j : Nat}, j < cntP T k → nthT T k j < k ∧ T (nthT T k j)
  | 0, j, h => absurd h (Nat.not_lt_zero j)
  | k + 1, j, h => by
    show @ite Nat (T k ∧ cntP T k = j) (Classical.propDecidable _) k (nthT T k j) < k + 1 ∧ T (@ite Nat (T k ∧ cntP T k = j) (Classical.propDecidable _) k (nthT T k j))
    by_cases e : T k ∧ cntP T k = j
    · rw [if_pos e]
      exact ⟨by omega, e.1⟩
    · rw [if_neg e]
      have hj : j < cntP T k := by
        by_cases ht : T k
        · rw [cnt_y ht] at h
          have : cntP T k ≠ j := fun z => e ⟨ht, z⟩
          omega
        · rw [cnt_n ht] at h
          exact h
      have z := nthT_l hj
      exact ⟨by omega, z.2⟩
theorem qZ (hO : qOk Q) (hP0 : 0 < Q.1) : qOk (pgZ Q) := by
  refine ⟨hO.1, fun b hb => ?_⟩
  obtain ⟨h0, h1, h2, h3⟩ := hO.2 b hb
  by_cases e : b = 0
  · subst e
    have eL : (pgZ Q).2.1 0 = cntP (lz Q) 100 + Q.2.1 0 := rfl
    have hln : ∀ j, (pgZ Q).2.2.1 0 j = if j < cntP (lz Q) 100 then mkL 14 (nthT (lz Q) 100 j : Int) (-1) 0 (-1) 0 else Q.2.2.1 0 (j - cntP (lz Q) 100) := fun j => rfl
    refine ⟨by rw [eL]; omega, fun j hj => ?_, ?_, ?_⟩
    · rw [eL] at hj
      rw [hln]
      by_cases c : j < cntP (lz Q) 100
      · rw [if_pos c]
        have z := nthT_l c
        exact rwO_mk ⟨by decide, by decide⟩ ⟨by decide, by decide⟩ ⟨by decide, by decide⟩ (fun _ => ⟨by omega, by omega⟩) (fun z => absurd z (by decide)) (fun z => absurd z (by decide)) (fun _ => rfl)
      · rw [if_neg c]
        exact h1 _ (by omega)
    · rw [eL, hln, if_neg (by omega), show cntP (lz Q) 100 + Q.2.1 0 - 1 - cntP (lz Q) 100 = Q.2.1 0 - 1 by omega]
      exact h2
    · rw [eL, hln, if_neg (by omega), show cntP (lz Q) 100 + Q.2.1 0 - 1 - cntP (lz Q) 100 = Q.2.1 0 - 1 by omega]
      exact h3
  · have e1 : (pgZ Q).2.1 b = Q.2.1 b := if_neg e
    have e2 : (pgZ Q).2.2.1 b = Q.2.2.1 b := funext fun j => if_neg e
    rw [e1, e2]
    exact ⟨h0, h1, h2, h3⟩
theorem sdZ (hO : qOk Q) (hP0 : 0 < Q.1) : Sd (pgZ Q) false 100 v ↔ Sd Q false 100 v := by
  have eL : (pgZ Q).2.1 0 = cntP (lz Q) 100 + Q.2.1 0 := rfl
  have hln : ∀ j, (pgZ Q).2.2.1 0 j = if j < cntP (lz Q) 100 then mkL 14 (nthT (lz Q) 100 j : Int) (-1) 0 (-1) 0 else Q.2.2.1 0 (j - cntP (lz Q) 100) := fun j => rfl
  constructor
  · rintro ⟨h0, b, j, h1, h2, h3⟩
    refine ⟨h0, ?_⟩
    by_cases e : b = 0
    · subst e
      rw [eL] at h2
      rw [hln] at h3
      by_cases c : j < cntP (lz Q) 100
      · rw [if_pos c] at h3
        obtain ⟨-, z⟩ := nthT_l c
        have hv : nthT (lz Q) 100 j = v := by
          unfold usR seR at h3
          rw [if_neg (by decide), if_neg (by decide)] at h3
          have h3 : ((-1 : Int) = (v : Int) ∨ (-1 : Int) = (v : Int)) ∨ (nthT (lz Q) 100 j : Int) = (v : Int) := h3
          omega
        rw [hv] at z
        obtain ⟨c', k, w1, w2, w3⟩ := Lv_us z
        exact ⟨c', k, w1, w2, Or.inl w3⟩
      · rw [if_neg c] at h3
        exact ⟨0, _, h1, by omega, h3⟩
    · have e1 : (pgZ Q).2.1 b = Q.2.1 b := if_neg e
      have e2 : (pgZ Q).2.2.1 b = Q.2.2.1 b := funext fun j => if_neg e
      rw [e1] at h2
      rw [e2] at h3
      exact ⟨b, j, h1, h2, h3⟩
  · rintro ⟨h0, b, j, h1, h2, h3⟩
    refine ⟨h0, ?_⟩
    by_cases e : b = 0
    · subst e
      refine ⟨0, cntP (lz Q) 100 + j, h1, by rw [eL]; omega, ?_⟩
      rw [hln, if_neg (by omega), show cntP (lz Q) 100 + j - cntP (lz Q) 100 = j by omega]
      exact h3
    · have e1 : (pgZ Q).2.1 b = Q.2.1 b := if_neg e
      have e2 : (pgZ Q).2.2.1 b = Q.2.2.1 b := funext fun j => if_neg e
      exact ⟨b, j, h1, by rw [e1]; exact h2, by rw [e2]; exact h3⟩
end LKR
section LKS
variable {D : va_G} {I : FieldType → ClassId} {P : List Nat} {F F1 : Nat → va_E} {γ el : Nat → Nat → Nat} {q0 c : Nat} {Q : gPg}
/-- names: those of the program -/
def opB (ra rb : Int32) : Prop := (ra.toInt = 0 ∨ ra.toInt = 1) ∧ (rb.toInt = 0 ∨ rb.toInt = 1)
theorem nm_Sd (hT : RS D I P F γ el) (hB2 : ∀ i, i < Q.1 → γ 0 (el (γ 14 c) i) = 2) (hq : rfW γ el F c Q) (hO : qOk Q) (hQ6 : γ 6 (γ 1 c) = Q.1) {g : Nat → Int32} (hg : rGr γ el F c (γ 6 (γ 1 c)) g (vA (γ 6 (γ 1 c)))) (v : Nat) : rSd g v ↔ Sd Q false 100 v := by
  have key : ∀ i j, i < Q.1 → j ≤ γ 2 (rwL γ el c i) → (nmS (F (rAt γ el c i j)) v ↔ usR false (Q.2.2.1 i j) v ∨ seR false (Q.2.2.1 i j) v) := fun i j hi hj => by
    have m := qR_m hq hi
    obtain ⟨-, ⟨rl1, rl2⟩, re3⟩ := qR hq hi
    have hU : lnU (Q.2.2.1 i j) (fI (F (rAt γ el c i j)) 0) (fI (F (rAt γ el c i j)) 1) (fI (F (rAt γ el c i j)) 2) (fI (F (rAt γ el c i j)) 3) (fI (F (rAt γ el c i j)) 5) (fI (F (rAt γ el c i j)) 6) ∧ (opB (fI (F (rAt γ el c i j)) 5) (fI (F (rAt γ el c i j)) 6)) := by
      obtain ⟨l, nn, p, s, v1, ⟨g1, g2, g3⟩, v3, v4, v5, -⟩ := show rk_2 γ (el (γ 14 c) i) (F (el (γ 14 c) i)) from RS_o hT (hB2 i hi)
      have kl := (show rk_3 D I γ el F l from RS_o hT v3).2
      by_cases q : j < γ 2 (γ 14 (el (γ 14 c) i))
      · have e : rAt γ el c i j = el (γ 14 (el (γ 14 c) i)) j := if_pos q
        rw [e]
        refine ⟨lnU_r ((qB hO hi).1 j (by omega)) (rl2 j (by omega)), ?_⟩
        obtain ⟨op, t, a, b, s', ra, rb, he, r1, r2, r3, r4, r5, -⟩ := show rk_1 γ _ (F (el (γ 14 (el (γ 14 c) i)) j)) from RS_o hT (show γ 0 (el (γ 14 (el (γ 14 c) i)) j) = 1 by rw [g1]; exact (kl j (by rw [← g1]; exact q)).1)
        have r41 := r4.1
        have r42 := r4.2
        have r51 := r5.1
        have r52 := r5.2
        rw [he]
        exact ⟨by show ra.toInt = 0 ∨ ra.toInt = 1; omega, by show rb.toInt = 0 ∨ rb.toInt = 1; omega⟩
      · have e : rAt γ el c i j = γ 15 (el (γ 14 c) i) := if_neg q
        have hj2 : j ≤ γ 2 (γ 14 (el (γ 14 c) i)) := hj
        rw [e, show j = Q.2.1 i - 1 by omega]
        refine ⟨lnU_e (g := Q.2.2.2 i) (qB hO hi).2.1 (qB hO hi).2.2 re3, ?_⟩
        obtain ⟨op, t, a, b, s', ra, rb, he, r1, r2, r3, r4, r5, -⟩ := show rk_1 γ _ (F (γ 15 (el (γ 14 c) i))) from RS_o hT (show γ 0 (γ 15 (el (γ 14 c) i)) = 1 by rw [g2]; exact v5)
        have r41 := r4.1
        have r42 := r4.2
        have r51 := r5.1
        have r52 := r5.2
        rw [he]
        exact ⟨by show ra.toInt = 0 ∨ ra.toInt = 1; omega, by show rb.toInt = 0 ∨ rb.toInt = 1; omega⟩
    obtain ⟨⟨U1, U2, U3⟩, B1, B2⟩ := hU
    unfold nmS nmV usR seR
    rw [if_neg (by decide), if_neg (by decide)]
    constructor
    · rintro (z | z | z)
      · exact Or.inr (by omega)
      · exact Or.inl (Or.inl (by omega))
      · exact Or.inl (Or.inr (by omega))
    · rintro ((z | z) | z)
      · exact Or.inr (Or.inl ⟨by omega, by omega⟩)
      · exact Or.inr (Or.inr ⟨by omega, by omega⟩)
      · exact Or.inl ⟨by omega, by omega⟩
  constructor
  · intro z
    obtain ⟨i, j, h1, h2, h3⟩ := hg.2 v z
    have hi : i < Q.1 := by omega
    have m := qR_m hq hi
    have hj : j ≤ γ 2 (γ 14 (el (γ 14 c) i)) := h2
    have w := (key i j hi h2).mp h3
    exact ⟨q_us hO hi (by omega) w, i, j, hi, by omega, w⟩
  · rintro ⟨h0, i, j, h1, h2, h3⟩
    have m := qR_m hq h1
    have hj : j ≤ γ 2 (rwL γ el c i) := by show j ≤ γ 2 (γ 14 (el (γ 14 c) i)); omega
    exact hg.1 i (by omega) j hj (show i < γ 6 (γ 1 c) by omega) v ((key i j h1 hj).mpr h3)
end LKS
theorem no_tr {D : va_G} {I : FieldType → ClassId} {F F1 : Nat → va_E} {γ el : Nat → Nat → Nat} {q0 : Nat} {a1 : Int32} (h : tr_RModel_no2 D I γ el F q0 a1 F1) : F1 q0 = cF (F q0) 30 (.int a1) := by
  refine h (fun F1 => F1 q0 = cF (F q0) 30 (.int a1)) ?_
  · intro x1 h1 h2
    exact h2
theorem rs_30 {D : va_G} {I : FieldType → ClassId} {P : List Nat} {F F1 : Nat → va_E} {γ el : Nat → Nat → Nat} {q0 : Nat} {x : Int32} (hT : RS D I P F γ el) (hm : γ 0 q0 = 10) (n : ∀ b, b ≠ q0 → F1 b = F b) (e : F1 q0 = cF (F q0) 30 (.int x)) : RS D I P F1 γ el := by
  obtain ⟨r28, r35, v9, v10, v11, v12, v13, v14, v23, v24, v25, v26, v27, v30, v32, v33, v34, he, hM1, hK, hM2⟩ := rk10_m (show rk_10 γ (F q0) from RS_o hT hm)
  rw [he] at e
  exact RS_md hT hm n (v30 := x) e hM1 hK hM2
theorem rfP_rs {D : va_G} {I : FieldType → ClassId} {P : List Nat} {F F1 : Nat → va_E} {γ el : Nat → Nat → Nat} {c : Nat} {Q : gPg} (hT : RS D I P F γ el) (hq : rfP γ el F c Q) (hc9 : γ 0 c = 9) (hB2 : ∀ i, i < Q.1 → γ 0 (el (γ 14 c) i) = 2) (hs : rStr γ [] F F1) : rfP γ el F1 c Q := by
  obtain ⟨h1, h2, h3⟩ := hq
  refine ⟨by rw [rs0 hs hc9 (by decide)]; exact h1, h2, fun b hb => ?_⟩
  exact rfB_c hT (hB2 b hb) (h3 b hb) (fun x hx => by
    rcases hx with hx | hx
    · exact rs0 hs hx (by decide)
    · exact rs0 hs hx (by decide)) rfl rfl ⟨rfl, rfl⟩
theorem dptZ {Q : gPg} : dpt (pgZ Q) = dpt Q := rfl
section LKT
variable {D : va_G} {I : FieldType → ClassId} {P P2 : List Nat} {F F2 : Nat → va_E} {γ0 el0 γ2 el2 : Nat → Nat → Nat} {f fo q0 p p2 : Nat} {Q : gPg} {a1 a2 r : Int32}
/-- what look answers: the code in the model's cell, or the answer -/
def lkA (Q : gPg) (a1 a2 r err : Int32) : Prop :=
  (err.toInt = 2 ∧ (a2.toInt < 0 ∨ 3 < a2.toInt)) ∨ (err.toInt = 3 ∧ (0 ≤ a2.toInt ∧ a2.toInt ≤ 1) ∧ ¬ ∃ v : Nat, a1.toInt = (v : Int) ∧ Sd Q false 100 v) ∨ (err.toInt = 3 ∧ (2 ≤ a2.toInt ∧ a2.toInt ≤ 3) ∧ ¬ (0 ≤ a1.toInt ∧ a1.toInt < (Q.1 : Int))) ∨
  (err.toInt = 0 ∧ ((a2.toInt = 0 ∧ ∃ v : Nat, a1.toInt = (v : Int) ∧ Sd Q false 100 v ∧ r = wPg (pgZ Q) (dpt Q) v Q.1) ∨ (a2.toInt = 1 ∧ ∃ v : Nat, a1.toInt = (v : Int) ∧ Sd Q false 100 v ∧ isD (Jn (pgZ Q) false 100 v) 32 r.toInt) ∨ (a2.toInt = 2 ∧ ∃ b : Nat, a1.toInt = (b : Int) ∧ b < Q.1 ∧ isD (fun v => v < 100 ∧ Lv Q false v b 0) 32 r.toInt) ∨ (a2.toInt = 3 ∧ ∃ b : Nat, a1.toInt = (b : Int) ∧ b < Q.1 ∧ r.toInt = (dpt Q b : Int))))
theorem cF30 {γ : Nat → Nat → Nat} {e : va_E} {x : Int32} (h : rk_10 γ e) : fI (cF e 30 (.int x)) 30 = x ∧ ∀ j, j ≠ 30 → fI (cF e 30 (.int x)) j = fI e j := by
  obtain ⟨r28, r35, v9, v10, v11, v12, v13, v14, v23, v24, v25, v26, v27, v30, v32, v33, v34, he, -⟩ := rk10_m h
  rw [he]
  refine ⟨rfl, fun j hj => ?_⟩
  unfold cF fI mdE
  simp only []
  rw [List.getElem?_set_ne (Ne.symm hj)]
theorem lk_r (hT : RS D I P F γ0 el0) (hm : γ0 0 q0 = 10) (hp9 : γ0 0 p = 9) (hpf : γ0 1 p = f) (ho9 : γ0 0 p2 = 9) (hof : γ0 1 p2 = fo) (hne : fo ≠ f) (hQ6 : γ0 6 fo = Q.1) (hq : rfP γ0 el0 F p2 Q) (hO : qOk Q) (hP0 : 0 < Q.1) (hQ4 : Q.1 ≤ 40) (hB2 : ∀ i, i < Q.1 → γ0 0 (el0 (γ0 14 p2) i) = 2) (h : tr_RModel_look D I γ0 el0 f fo P F q0 a1 a2 p p2 r P2 F2 γ2 el2) : (fI (F q0) 9).toInt ≠ 0 → lkA Q a1 a2 r (fI (F2 q0) 30) := by
  refine h (fun r P2 F2 γ2 el2 => (fI (F q0) 9).toInt ≠ 0 → lkA Q a1 a2 r (fI (F2 q0) 30)) ?_ ?_ ?_ ?_ ?_ ?_ ?_ ?_ ?_ ?_ ?_ ?_
  · intro x1 x2 x3 x4 x5 h1 h2 h3 h4 h5 h6 h7 h8 h9 h10 h11 h12
    intro h9
    have eg := h1
    have ee := h2
    subst eg
    subst ee
    have hs3 : rStr x1 [] F x3 := fun a ha hk _ => h3 a (fun e => by rw [e, hm] at hk; omega)
    have hk10 : rk_10 x1 (F q0) := RS_o hT hm
    have hT3 : RS D I P x3 x1 x2 := rs_30 hT hm h3 h4
    have hm3 : rk_10 x1 (x3 q0) := RS_o hT3 hm
    have hq3 : rfP x1 x2 x3 p2 Q := rfP_rs hT hq ho9 hB2 hs3
    have hqw := rfP_w hq3
    have en := no_tr h12
    have hkx3 : rk_10 x1 (x3 q0) := hm3
    have er : fI (x5 q0) 30 = 2 := by rw [en]; exact (cF30 hkx3).1
    rw [er]
    exact Or.inl ⟨by decide, by omega⟩
  · intro x1 x2 x3 x4 x5 x6 h1 h2 h3 h4 h5 h6 h7 h8 h9 h10 h11 h12 h13 h14 h15 h16 h17 h18 h19 h20 h21
    intro h9
    have eg := h1
    have ee := h2
    subst eg
    subst ee
    have hs3 : rStr x1 [] F x3 := fun a ha hk _ => h3 a (fun e => by rw [e, hm] at hk; omega)
    have hk10 : rk_10 x1 (F q0) := RS_o hT hm
    have hT3 : RS D I P x3 x1 x2 := rs_30 hT hm h3 h4
    have hm3 : rk_10 x1 (x3 q0) := RS_o hT3 hm
    have hq3 : rfP x1 x2 x3 p2 Q := rfP_rs hT hq ho9 hB2 hs3
    have hqw := rfP_w hq3
    have en := no_tr h21
    have hkx5 : rk_10 x1 (x5 q0) := RS_o h11 hm
    have er : fI (x6 q0) 30 = 3 := by rw [en]; exact (cF30 hkx5).1
    rw [er]
    exact Or.inr (Or.inl ⟨by decide, by omega, fun ⟨v, e1, e2⟩ => by have := e2.1; omega⟩)
  · intro x1 x2 x3 x4 x5 x6 h1 h2 h3 h4 h5 h6 h7 h8 h9 h10 h11 h12 h13 h14 h15 h16 h17 h18 h19 h20 h21 h22
    intro h9
    have eg := h1
    have ee := h2
    subst eg
    subst ee
    have hs3 : rStr x1 [] F x3 := fun a ha hk _ => h3 a (fun e => by rw [e, hm] at hk; omega)
    have hk10 : rk_10 x1 (F q0) := RS_o hT hm
    have hT3 : RS D I P x3 x1 x2 := rs_30 hT hm h3 h4
    have hm3 : rk_10 x1 (x3 q0) := RS_o hT3 hm
    have hq3 : rfP x1 x2 x3 p2 Q := rfP_rs hT hq ho9 hB2 hs3
    have hqw := rfP_w hq3
    have en := no_tr h22
    have hkx5 : rk_10 x1 (x5 q0) := RS_o h11 hm
    have er : fI (x6 q0) 30 = 3 := by rw [en]; exact (cF30 hkx5).1
    rw [er]
    exact Or.inr (Or.inl ⟨by decide, by omega, fun ⟨v, e1, e2⟩ => by have := e2.1; omega⟩)
  · intro x1 x2 x3 x4 x5 x6 x7 x8 x9 x10 x11 x12 x13 x14 x15 x16 x17 x18 x19 x20 h1 h2 h3 h4 h5 h6 h7 h8 h9 h10 h11 h12 h13 h14 h15 h16 h17 h18 h19 h20 h21 h22 h23 h24 h25 h26 h27 h28 h29 h30 h31 h32 h33 h34 h35 h36 h37 h38 h39 h40 h41 h42 h43 h44 h45 h46 h47 h48 h49 h50 h51 h52 h53 h54 h55
    intro h9
    have eg := h1
    have ee := h2
    subst eg
    subst ee
    have hs3 : rStr x1 [] F x3 := fun a ha hk _ => h3 a (fun e => by rw [e, hm] at hk; omega)
    have hk10 : rk_10 x1 (F q0) := RS_o hT hm
    have hT3 : RS D I P x3 x1 x2 := rs_30 hT hm h3 h4
    have hm3 : rk_10 x1 (x3 q0) := RS_o hT3 hm
    have hq3 : rfP x1 x2 x3 p2 Q := rfP_rs hT hq ho9 hB2 hs3
    have hqw := rfP_w hq3
    have hgr := h13 rfl
    have hSd := (nm_Sd hT3 hB2 hqw hO (by rw [hof]; exact hQ6) hgr a1.toInt.toNat).mp ⟨by omega, by rw [cB_of h19, show a1.toInt.toNat = a1.toNatClampNeg from rfl, ← h20]; have z1 := h21; have z2 := z1.1; have z3 := z1.2; have z4 := h22; omega⟩
    have hTg := h11
    have hsg := h12
    have hqg : rfP x1 x2 x5 p2 Q := rfP_rs hT3 hq3 ho9 hB2 hsg
    obtain ⟨hqc, hBc⟩ := cp_tr hTg ho9 (by rw [hof]; exact hne) hp9 hpf hqg hB2 h30
    have hkc := h25
    have mc : x10 0 q0 = 10 := rSk_k hkc (show rKd x1 q0 10 from hm) (by decide) (by decide)
    have c9 : x10 0 p = 9 := rSk_k hkc (show rKd x1 p 9 from hp9) (by decide) (by decide)
    have cf : x10 1 p = f := rSk_1 hkc (show rKd x1 p 9 from hp9) (by decide) hpf
    have c6 : x10 6 f = Q.1 := by rw [h26]; exact hQ6
    have hT100 : ∀ v, 100 ≤ v → ¬ lz Q v := fun v hv z => by have := q_lv hO z; omega
    obtain ⟨hqz, hTz⟩ := zr_tr hkc.1 mc c9 cf c6 hP0 hQ4 (rfP_w hqc) hO hBc hT100 h38
    have hkz := h32
    have mz : x14 0 q0 = 10 := rSk_k hkz (show rKd x10 q0 10 from mc) (by decide) (by decide)
    have z9 : x14 0 p = 9 := rSk_k hkz (show rKd x10 p 9 from c9) (by decide) (by decide)
    have zf : x14 1 p = f := rSk_1 hkz (show rKd x10 p 9 from c9) (by decide) cf
    have z6 : x14 6 f = (pgZ Q).1 := by rw [h33]; exact c6
    have hBz : ∀ i, i < (pgZ Q).1 → x14 0 (x15 (x14 14 p) i) = 2 := fun i hi => by
      obtain ⟨lb, lr, rn, md, w1, ⟨w2, -, -⟩, w3, w4, w5, w6, w7, w8, w9, w10, w11, w12, w13, w14, -⟩ := show rk_9 x14 x15 p (x13 p) from RS_o hTz z9
      have z : md.toInt = ((pgZ Q).1 : Int) := by have z := hqz.1; rw [w1] at z; exact z
      rw [w2]
      exact (w14 i (by omega)).resolve_right (fun z => by rw [zf] at z; omega)
    have hOz := qZ hO hP0
    have hg2 := gr_tr hTz mz z9 hqz hOz hQ4 (by rw [zf]; exact z6) hBz (by decide) h44
    have hT16 := h40
    have hs16 := h41
    have hq16 := rfW_rs hTz hqz z9 hBz hs16
    obtain ⟨k94, k95⟩ := md_kd5 hT16 mz
    obtain ⟨k0, k1, k2, k3⟩ := md_kd hT16 mz
    obtain ⟨ww, wf⟩ := wg_r hT16 mz z9 hBz hq16 hOz hQ4 hP0 h50
    have er : fI (x17 q0) 30 = 0 := by rw [h48, h43, h37, rSk_F hkc (show rKd x1 q0 10 from hm) (by decide) (by decide), h14, h4]; exact (cF30 hk10).1
    rw [er]
    refine Or.inr (Or.inr (Or.inr ⟨by decide, ?_⟩))
    refine Or.inr (Or.inl ⟨by omega, a1.toInt.toNat, by omega, hSd, ?_⟩)
    have ec := co_tr h55
    have hx := h54
    rw [h53] at hx
    have ke := (er_kd hT16 k1 (show a1.toInt.toNat < 2000 by omega)).1
    have e6 : x17 (x14 11 a1.toInt.toNat) = x16 (x14 11 a1.toInt.toNat) := wf _ (fun e => by rw [e, k94] at ke; cases ke) (fun e => by rw [e, k95] at ke; cases ke)
    refine ⟨_, 0, fun v hv => ?_, ec⟩
    rw [Nat.mul_zero, Nat.zero_add]
    by_cases hv2 : v < 2000
    · have z := hg2 a1.toInt.toNat v (by omega) hv2
      unfold egS at z
      rw [← e6, cL_of hx, Jn_J1 hOz] at z
      exact z
    · obtain ⟨f0, y1, y2⟩ := show rk_36 I (x16 (x14 11 a1.toInt.toNat)) from RS_o hT16 ke
      rw [← e6, hx] at y1
      injection y1 with y1
      injection y1 with y0 y1
      injection y1 with y3 y1
      injection y1 with y1
      injection y1 with y1
      subst y1
      refine ⟨fun w => ?_, fun w => absurd w ?_⟩
      · have q := y2 (v / 64) (by omega) (v % 64) (by omega) w
        exfalso
        omega
      rintro ⟨b, j, -, -, h | h⟩
      · have := h.2.1; omega
      · have := h.1; omega
  · intro x1 x2 x3 x4 x5 x6 x7 x8 x9 x10 x11 x12 x13 x14 x15 x16 x17 x18 x19 h1 h2 h3 h4 h5 h6 h7 h8 h9 h10 h11 h12 h13 h14 h15 h16 h17 h18 h19 h20 h21 h22 h23 h24 h25 h26 h27 h28 h29 h30 h31 h32 h33 h34 h35 h36 h37 h38 h39 h40 h41 h42 h43 h44 h45 h46 h47 h48 h49 h50 h51 h52 h53 h54
    intro h9
    have eg := h1
    have ee := h2
    subst eg
    subst ee
    have hs3 : rStr x1 [] F x3 := fun a ha hk _ => h3 a (fun e => by rw [e, hm] at hk; omega)
    have hk10 : rk_10 x1 (F q0) := RS_o hT hm
    have hT3 : RS D I P x3 x1 x2 := rs_30 hT hm h3 h4
    have hm3 : rk_10 x1 (x3 q0) := RS_o hT3 hm
    have hq3 : rfP x1 x2 x3 p2 Q := rfP_rs hT hq ho9 hB2 hs3
    have hqw := rfP_w hq3
    have hgr := h13 rfl
    have hSd := (nm_Sd hT3 hB2 hqw hO (by rw [hof]; exact hQ6) hgr a1.toInt.toNat).mp ⟨by omega, by rw [cB_of h19, show a1.toInt.toNat = a1.toNatClampNeg from rfl, ← h20]; have z1 := h21; have z2 := z1.1; have z3 := z1.2; have z4 := h22; omega⟩
    have hTg := h11
    have hsg := h12
    have hqg : rfP x1 x2 x5 p2 Q := rfP_rs hT3 hq3 ho9 hB2 hsg
    obtain ⟨hqc, hBc⟩ := cp_tr hTg ho9 (by rw [hof]; exact hne) hp9 hpf hqg hB2 h30
    have hkc := h25
    have mc : x10 0 q0 = 10 := rSk_k hkc (show rKd x1 q0 10 from hm) (by decide) (by decide)
    have c9 : x10 0 p = 9 := rSk_k hkc (show rKd x1 p 9 from hp9) (by decide) (by decide)
    have cf : x10 1 p = f := rSk_1 hkc (show rKd x1 p 9 from hp9) (by decide) hpf
    have c6 : x10 6 f = Q.1 := by rw [h26]; exact hQ6
    have hT100 : ∀ v, 100 ≤ v → ¬ lz Q v := fun v hv z => by have := q_lv hO z; omega
    obtain ⟨hqz, hTz⟩ := zr_tr hkc.1 mc c9 cf c6 hP0 hQ4 (rfP_w hqc) hO hBc hT100 h38
    have hkz := h32
    have mz : x14 0 q0 = 10 := rSk_k hkz (show rKd x10 q0 10 from mc) (by decide) (by decide)
    have z9 : x14 0 p = 9 := rSk_k hkz (show rKd x10 p 9 from c9) (by decide) (by decide)
    have zf : x14 1 p = f := rSk_1 hkz (show rKd x10 p 9 from c9) (by decide) cf
    have z6 : x14 6 f = (pgZ Q).1 := by rw [h33]; exact c6
    have hBz : ∀ i, i < (pgZ Q).1 → x14 0 (x15 (x14 14 p) i) = 2 := fun i hi => by
      obtain ⟨lb, lr, rn, md, w1, ⟨w2, -, -⟩, w3, w4, w5, w6, w7, w8, w9, w10, w11, w12, w13, w14, -⟩ := show rk_9 x14 x15 p (x13 p) from RS_o hTz z9
      have z : md.toInt = ((pgZ Q).1 : Int) := by have z := hqz.1; rw [w1] at z; exact z
      rw [w2]
      exact (w14 i (by omega)).resolve_right (fun z => by rw [zf] at z; omega)
    have hOz := qZ hO hP0
    have hg2 := gr_tr hTz mz z9 hqz hOz hQ4 (by rw [zf]; exact z6) hBz (by decide) h44
    have hT16 := h40
    have hs16 := h41
    have hq16 := rfW_rs hTz hqz z9 hBz hs16
    obtain ⟨k94, k95⟩ := md_kd5 hT16 mz
    obtain ⟨k0, k1, k2, k3⟩ := md_kd hT16 mz
    obtain ⟨ww, wf⟩ := wg_r hT16 mz z9 hBz hq16 hOz hQ4 hP0 h50
    have er : fI (x17 q0) 30 = 0 := by rw [h48, h43, h37, rSk_F hkc (show rKd x1 q0 10 from hm) (by decide) (by decide), h14, h4]; exact (cF30 hk10).1
    rw [er]
    refine Or.inr (Or.inr (Or.inr ⟨by decide, ?_⟩))
    refine Or.inl ⟨h51, a1.toInt.toNat, by omega, hSd, ?_⟩
    have z := ww a1.toInt.toNat (by omega)
    unfold wt at z
    rw [cB_of h53] at z
    rw [h54]
    exact z
  · intro x1 x2 x3 x4 x5 x6 x7 x8 h1 h2 h3 h4 h5 h6 h7 h8 h9 h10 h11 h12 h13 h14 h15 h16 h17 h18 h19 h20 h21 h22 h23 h24 h25 h26 h27
    intro h9
    have eg := h1
    have ee := h2
    subst eg
    subst ee
    have hs3 : rStr x1 [] F x3 := fun a ha hk _ => h3 a (fun e => by rw [e, hm] at hk; omega)
    have hk10 : rk_10 x1 (F q0) := RS_o hT hm
    have hT3 : RS D I P x3 x1 x2 := rs_30 hT hm h3 h4
    have hm3 : rk_10 x1 (x3 q0) := RS_o hT3 hm
    have hq3 : rfP x1 x2 x3 p2 Q := rfP_rs hT hq ho9 hB2 hs3
    have hqw := rfP_w hq3
    have en := no_tr h27
    have hkx5 : rk_10 x1 (x5 q0) := RS_o h11 hm
    have er : fI (x8 q0) 30 = 3 := by rw [en]; exact (cF30 hkx5).1
    rw [er]
    have hgr := h13 rfl
    have hSd := fun v => nm_Sd hT3 hB2 hqw hO (by rw [hof]; exact hQ6) hgr v
    refine Or.inr (Or.inl ⟨by decide, by omega, fun ⟨v, e1, e2⟩ => ?_⟩)
    have z := ((hSd v).mpr e2).2
    rw [cB_of h19] at z
    have hz : (a1.toNatClampNeg : Int) = a1.toInt := g_nn (by omega)
    rw [show v = a1.toNatClampNeg by omega, ← h20] at z
    have := h22
    omega
  · intro x1 x2 x3 x4 x5 h1 h2 h3 h4 h5 h6 h7 h8 h9 h10 h11 h12 h13 h14 h15
    intro h9
    have eg := h1
    have ee := h2
    subst eg
    subst ee
    have hs3 : rStr x1 [] F x3 := fun a ha hk _ => h3 a (fun e => by rw [e, hm] at hk; omega)
    have hk10 : rk_10 x1 (F q0) := RS_o hT hm
    have hT3 : RS D I P x3 x1 x2 := rs_30 hT hm h3 h4
    have hm3 : rk_10 x1 (x3 q0) := RS_o hT3 hm
    have hq3 : rfP x1 x2 x3 p2 Q := rfP_rs hT hq ho9 hB2 hs3
    have hqw := rfP_w hq3
    have en := no_tr h15
    have hkx3 : rk_10 x1 (x3 q0) := hm3
    have er : fI (x5 q0) 30 = 3 := by rw [en]; exact (cF30 hkx3).1
    rw [er]
    exact Or.inr (Or.inr (Or.inl ⟨by decide, by omega, by omega⟩))
  · intro x1 x2 x3 x4 x5 x6 x7 x8 x9 h1 h2 h3 h4 h5 h6 h7 h8 h9 h10 h11 h12 h13 h14 h15 h16 h17 h18 h19 h20 h21 h22 h23 h24 h25 h26 h27
    intro h9
    have eg := h1
    have ee := h2
    subst eg
    subst ee
    have hs3 : rStr x1 [] F x3 := fun a ha hk _ => h3 a (fun e => by rw [e, hm] at hk; omega)
    have hk10 : rk_10 x1 (F q0) := RS_o hT hm
    have hT3 : RS D I P x3 x1 x2 := rs_30 hT hm h3 h4
    have hm3 : rk_10 x1 (x3 q0) := RS_o hT3 hm
    have hq3 : rfP x1 x2 x3 p2 Q := rfP_rs hT hq ho9 hB2 hs3
    have hqw := rfP_w hq3
    have ex : x5.toInt = (Q.1 : Int) := by rw [← h12]; exact hq3.1
    have hT6 := h14
    have hs6 := h15
    have hq6 := rfW_rs hT3 hqw ho9 hB2 hs6
    have er : fI (x7 q0) 30 = 0 := by rw [h21, h16, h4]; exact (cF30 hk10).1
    rw [er]
    obtain ⟨k94, k95⟩ := md_kd5 hT3 hm
    obtain ⟨d1, d2⟩ := dp_tr hT6 hm ho9 hB2 hq6 hO hQ4 hP0 h23
    refine Or.inr (Or.inr (Or.inr ⟨by decide, ?_⟩))
    refine Or.inr (Or.inr (Or.inr ⟨by omega, a1.toInt.toNat, by omega, by omega, ?_⟩))
    have z := d1 a1.toInt.toNat (by omega)
    unfold dv at z
    rw [cB_of h26] at z
    rw [h27]
    exact z
  · intro x1 x2 x3 x4 x5 x6 x7 x8 x9 x10 h1 h2 h3 h4 h5 h6 h7 h8 h9 h10 h11 h12 h13 h14 h15 h16 h17 h18 h19 h20 h21 h22 h23 h24 h25 h26 h27 h28
    intro h9
    have eg := h1
    have ee := h2
    subst eg
    subst ee
    have hs3 : rStr x1 [] F x3 := fun a ha hk _ => h3 a (fun e => by rw [e, hm] at hk; omega)
    have hk10 : rk_10 x1 (F q0) := RS_o hT hm
    have hT3 : RS D I P x3 x1 x2 := rs_30 hT hm h3 h4
    have hm3 : rk_10 x1 (x3 q0) := RS_o hT3 hm
    have hq3 : rfP x1 x2 x3 p2 Q := rfP_rs hT hq ho9 hB2 hs3
    have hqw := rfP_w hq3
    have ex : x5.toInt = (Q.1 : Int) := by rw [← h12]; exact hq3.1
    have hT6 := h14
    have hs6 := h15
    have hq6 := rfW_rs hT3 hqw ho9 hB2 hs6
    have er : fI (x7 q0) 30 = 0 := by rw [h21, h16, h4]; exact (cF30 hk10).1
    rw [er]
    obtain ⟨k94, k95⟩ := md_kd5 hT3 hm
    obtain ⟨d1, d2⟩ := dp_tr hT6 hm ho9 hB2 hq6 hO hQ4 hP0 h23
    refine Or.inr (Or.inr (Or.inr ⟨by decide, ?_⟩))
    refine Or.inr (Or.inr (Or.inl ⟨h24, a1.toInt.toNat, by omega, by omega, ?_⟩))
    have l1 := fl_tr (by decide) hqw hO hQ4 (by rw [hof]; exact hQ6) (fun F1 hF => rs0 hF ho9 (by decide)) h17
    have ec := co_tr h28
    have hx8 := h27
    rw [h26] at hx8
    obtain ⟨k0, k1, k2, k3⟩ := md_kd hT3 hm
    have kl := (lr_kd hT3 k0 (show a1.toInt.toNat < 40 by omega)).1
    have e6 : x7 (x1 10 a1.toInt.toNat) = x6 (x1 10 a1.toInt.toNat) := d2 _ (fun e => by rw [e, k94] at kl; cases kl)
    refine ⟨_, 0, fun v hv => ?_, ec⟩
    rw [Nat.mul_zero, Nat.zero_add]
    have z := l1 a1.toInt.toNat v (by omega) (by omega)
    unfold lvS at z
    rw [← e6, cL_of hx8] at z
    exact ⟨fun w => ⟨q_lv hO (z.mp w), z.mp w⟩, fun w => z.mpr w.2⟩
  · intro x1 x2 x3 x4 x5 x6 h1 h2 h3 h4 h5 h6 h7 h8 h9 h10 h11 h12 h13 h14 h15 h16 h17 h18
    intro h9
    have eg := h1
    have ee := h2
    subst eg
    subst ee
    have hs3 : rStr x1 [] F x3 := fun a ha hk _ => h3 a (fun e => by rw [e, hm] at hk; omega)
    have hk10 : rk_10 x1 (F q0) := RS_o hT hm
    have hT3 : RS D I P x3 x1 x2 := rs_30 hT hm h3 h4
    have hm3 : rk_10 x1 (x3 q0) := RS_o hT3 hm
    have hq3 : rfP x1 x2 x3 p2 Q := rfP_rs hT hq ho9 hB2 hs3
    have hqw := rfP_w hq3
    have en := no_tr h18
    have hkx3 : rk_10 x1 (x3 q0) := hm3
    have er : fI (x6 q0) 30 = 3 := by rw [en]; exact (cF30 hkx3).1
    rw [er]
    have ex : x5.toInt = (Q.1 : Int) := by rw [← h12]; exact hq3.1
    exact Or.inr (Or.inr (Or.inl ⟨by decide, by omega, by omega⟩))
  · intro x1 x2 x3 x4 x5 h1 h2 h3 h4 h5 h6 h7 h8 h9 h10 h11 h12 h13
    intro h9
    have eg := h1
    have ee := h2
    subst eg
    subst ee
    have hs3 : rStr x1 [] F x3 := fun a ha hk _ => h3 a (fun e => by rw [e, hm] at hk; omega)
    have hk10 : rk_10 x1 (F q0) := RS_o hT hm
    have hT3 : RS D I P x3 x1 x2 := rs_30 hT hm h3 h4
    have hm3 : rk_10 x1 (x3 q0) := RS_o hT3 hm
    have hq3 : rfP x1 x2 x3 p2 Q := rfP_rs hT hq ho9 hB2 hs3
    have hqw := rfP_w hq3
    have en := no_tr h13
    have hkx3 : rk_10 x1 (x3 q0) := hm3
    have er : fI (x5 q0) 30 = 2 := by rw [en]; exact (cF30 hkx3).1
    rw [er]
    exact Or.inl ⟨by decide, by omega⟩
  · intro x1 x2 x3 x4 x5 h1 h2 h3 h4 h5 h6 h7 h8 h9 h10 h11
    intro h9
    have eg := h1
    have ee := h2
    subst eg
    subst ee
    have hs3 : rStr x1 [] F x3 := fun a ha hk _ => h3 a (fun e => by rw [e, hm] at hk; omega)
    have hk10 : rk_10 x1 (F q0) := RS_o hT hm
    have hT3 : RS D I P x3 x1 x2 := rs_30 hT hm h3 h4
    have hm3 : rk_10 x1 (x3 q0) := RS_o hT3 hm
    have hq3 : rfP x1 x2 x3 p2 Q := rfP_rs hT hq ho9 hB2 hs3
    have hqw := rfP_w hq3
    exact absurd (by rw [← (cF30 hk10 (x := 0)).2 9 (by decide), ← h4, h5]; exact h6) h9
end LKT
