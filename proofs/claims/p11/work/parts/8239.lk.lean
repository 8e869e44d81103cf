/-! look of the reference -/
theorem bcR_tr {a0 : Int64} {r : Int32} (h : tr_RLong_bitCount a0 r) : r = lb_bc a0 := by
  refine h (fun r => r = lb_bc a0) ?_
  · intro x1 x2 x3 x4 x5 x6 x7 x8 x9 x10 x11 x12 x13 x14 x15 x16 x17 x18 h1 h2 h3 h4 h5 h6 h7 h8 h9 h10 h11 h12 h13 h14 h15 h16 h17 h18
    subst h18 h17 h16 h15 h14 h13 h12 h11 h10 h9 h8 h7 h6 h5 h4 h3 h2 h1
    rfl
theorem bc_b {x : Int64} : 0 ≤ (lb_bc x).toInt ∧ (lb_bc x).toInt ≤ 127 := by
  unfold lb_bc
  generalize (lb_b6 (lb_b5 (lb_b4 (lb_b3 (lb_b2 (lb_b1 x)))))).toInt32 = y
  have e : ∀ z : BitVec 32, (z &&& 127#32).toNat ≤ 127 := fun z => by
    rw [BitVec.toNat_and]
    exact Nat.and_le_right
  have h1 := e y.toBitVec
  have h2 : (y &&& 127).toInt = ((y.toBitVec &&& 127#32).toNat : Int) := by
    show (y.toBitVec &&& 127#32).toInt = _
    rw [BitVec.toInt_eq_toNat_cond, if_pos (by omega)]
  rw [h2]
  omega
theorem ct4 {f : Nat → Int64} {s1 s2 e1 : Int32} {kx : Nat} (h : tl_RModel_count_4 f s1 s2 kx e1) : ∀ m : Nat, s1.toInt = (m : Int) → m ≤ 32 → s2.toInt = bsm f 0 m → 0 ≤ bsm f 0 m ∧ bsm f 0 m ≤ 127 * (m : Int) → e1.toInt = bsm f 0 32 := by
  refine h (fun s1 s2 _ e1 => ∀ m : Nat, s1.toInt = (m : Int) → m ≤ 32 → s2.toInt = bsm f 0 m → 0 ≤ bsm f 0 m ∧ bsm f 0 m ≤ 127 * (m : Int) → e1.toInt = bsm f 0 32) ?_ ?_
  · intro l2_1 l1_1 h1 h2
    intro m em hm hs hb
    have e : m = 32 := by have := h2; omega
    rw [hs, e]
  · intro l2_1 l1_1 x1 x2 x3 x4 k e1 h1 h2 h3 h4 h5 h6 h7 ih
    intro m em hm hs hb
    have hlt := h2
    have e2 := bcR_tr h5
    have hz : (l2_1.toNatClampNeg : Int) = l2_1.toInt := g_nn (by omega)
    rw [h3, show l2_1.toNatClampNeg = m by omega] at e2
    have b := bc_b (x := f m)
    have es : bsm f 0 (m + 1) = bsm f 0 m + (lb_bc (f m)).toInt := by
      show bsm f 0 m + (lb_bc (f (0 + m))).toInt = _
      rw [Nat.zero_add]
    have e3 : x3.toInt = bsm f 0 (m + 1) := by
      rw [es, h6, Int32.toInt_add, hs, e2]
      exact Int.bmod_eq_of_le (by omega) (by omega)
    exact ih (m + 1) (by omega) (by omega) e3 (by rw [es]; omega)
theorem co_tr {f : Nat → Int64} {r : Int32} (h : tr_RModel_count f r) : r.toInt = bsm f 0 32 := by
  refine h (fun r => r.toInt = bsm f 0 32) ?_
  · intro x1 h1
    exact ct4 h1 0 (by decide) (by decide) (show Int32.toInt 0 = 0 by decide) ⟨(show (0 : Int) ≤ 0 by decide), (show (0 : Int) ≤ 127 * ((0 : Nat) : Int) by decide)⟩
/-- what is alive is used -/
theorem Lv_us {P : gPg} {v b j : Nat} (h : Lv P false v b j) : ∃ c k, c < P.1 ∧ k < P.2.1 c ∧ usR false (P.2.2.1 c k) v :=
  h (fun _ _ => ∃ c k, c < P.1 ∧ k < P.2.1 c ∧ usR false (P.2.2.1 c k) v) (fun b j h1 h2 h3 => ⟨b, j, h1, h2, h3⟩) (fun _ _ _ _ _ h => h) (fun _ _ _ _ _ _ _ h => h)
section LKR
variable {Q : gPg} {v k : Nat}
theorem q_us (hO : qOk Q) {c j : Nat} (hc : c < Q.1) (hj : j < Q.2.1 c) (h : usR false (Q.2.2.1 c j) v ∨ seR false (Q.2.2.1 c j) v) : v < 2000 := by
  obtain ⟨h0, h1, h2, h3⟩ := hO.2 c hc
  unfold usR seR at h
  rw [if_neg (by decide), if_neg (by decide)] at h
  by_cases e : j + 1 < Q.2.1 c
  · obtain ⟨o1, o2, o3, o4, o5, o6, o7⟩ := h1 j e
    by_cases e2 : Q.2.2.1 c j 0 ≤ 15 ∨ Q.2.2.1 c j 0 = 17
    · have := o4 e2; omega
    · have := o5 (by omega); omega
  · rw [show Q.2.1 c - 1 = j by omega] at h2
    obtain ⟨o1, o2, o3, o4⟩ := h2
    omega
theorem q_lv (hO : qOk Q) {b j : Nat} (h : Lv Q false v b j) : v < 2000 := by
  obtain ⟨c, k, h1, h2, h3⟩ := Lv_us h
  exact q_us hO h1 h2 (Or.inl h3)
theorem Jn_J1 (hO : qOk Q) : (J1 Q v k ∨ J1 Q k v) ↔ Jn Q false 2000 v k := by
  have key : ∀ v k, J1 Q v k ↔ ∃ b j, b < Q.1 ∧ j < Q.2.1 b ∧ jdA Q false 2000 b j v k := fun v k => by
    constructor
    · rintro ⟨c, j, h1, h2, h3, h4, h5, h6⟩
      exact ⟨c, j, h1, h2, q_us hO h1 h2 (Or.inr h3), q_lv hO h4, h3, h4, h5, fun z => h6 z.2⟩
    · rintro ⟨c, j, h1, h2, -, -, h3, h4, h5, h6⟩
      exact ⟨c, j, h1, h2, h3, h4, h5, fun z => h6 ⟨rfl, z⟩⟩
  rw [key v k, key k v]
  constructor
  · rintro (⟨b, j, h1, h2, h3⟩ | ⟨b, j, h1, h2, h3⟩)
    · exact ⟨b, j, h1, h2, Or.inl h3⟩
    · exact ⟨b, j, h1, h2, Or.inr h3⟩
  · rintro ⟨b, j, h1, h2, h3 | h3⟩
    · exact Or.inl ⟨b, j, h1, h2, h3⟩
    · exact Or.inr ⟨b, j, h1, h2, h3⟩
theorem nthT_l {T : Nat → Prop} : ∀ {k j : Nat}, j < cntP T k → nthT T k j < k ∧ T (nthT T k j)
  | 0, j, h => absurd h (Nat.not_lt_zero j)
  | k + 1, j, h => by
    show @ite Nat (T k ∧ cntP T k = j) (Classical.propDecidable _) k (nthT T k j) < k + 1 ∧ T (@ite Nat (T k ∧ cntP T k = j) (Classical.propDecidable _) k (nthT T k j))
    by_cases e : T k ∧ cntP T k = j
    · rw [if_pos e]
      exact ⟨by omega, e.1⟩
    · rw [if_neg e]
      have hj : j < cntP T k := by
        by_cases ht : T k
        · rw [cnt_y ht] at h
          have : cntP T k ≠ j := fun z => e ⟨ht, z⟩
          omega
        · rw [cnt_n ht] at h
          exact h
      have z := nthT_l hj
      exact ⟨by omega, z.2⟩
theorem qZ (hO : qOk Q) (hP0 : 0 < Q.1) : qOk (pgZ Q) := by
  refine ⟨hO.1, fun b hb => ?_⟩
  obtain ⟨h0, h1, h2, h3⟩ := hO.2 b hb
  by_cases e : b = 0
  · subst e
    have eL : (pgZ Q).2.1 0 = cntP (lz Q) 100 + Q.2.1 0 := rfl
    have hln : ∀ j, (pgZ Q).2.2.1 0 j = if j < cntP (lz Q) 100 then mkL 14 (nthT (lz Q) 100 j : Int) (-1) 0 (-1) 0 else Q.2.2.1 0 (j - cntP (lz Q) 100) := fun j => rfl
    refine ⟨by rw [eL]; omega, fun j hj => ?_, ?_, ?_⟩
    · rw [eL] at hj
      rw [hln]
      by_cases c : j < cntP (lz Q) 100
      · rw [if_pos c]
        have z := nthT_l c
        exact rwO_2 (rwO_mk ⟨by decide, by decide⟩ ⟨by decide, by decide⟩ ⟨by decide, by decide⟩ (fun _ => ⟨by omega, by omega⟩) (fun z => absurd z (by decide)) (fun z => absurd z (by decide)) (fun _ => rfl))
      · rw [if_neg c]
        exact h1 _ (by omega)
    · rw [eL, hln, if_neg (by omega), show cntP (lz Q) 100 + Q.2.1 0 - 1 - cntP (lz Q) 100 = Q.2.1 0 - 1 by omega]
      exact h2
    · rw [eL, hln, if_neg (by omega), show cntP (lz Q) 100 + Q.2.1 0 - 1 - cntP (lz Q) 100 = Q.2.1 0 - 1 by omega]
      exact h3
  · have e1 : (pgZ Q).2.1 b = Q.2.1 b := if_neg e
    have e2 : (pgZ Q).2.2.1 b = Q.2.2.1 b := funext fun j => if_neg e
    rw [e1, e2]
    exact ⟨h0, h1, h2, h3⟩
end LKR
section LKS
variable {D : va_G} {I : FieldType → ClassId} {P : List Nat} {F F1 : Nat → va_E} {γ el : Nat → Nat → Nat} {q0 c : Nat} {Q : gPg}
/-- names: those of the program -/
def opB (ra rb : Int32) : Prop := (ra.toInt = 0 ∨ ra.toInt = 1) ∧ (rb.toInt = 0 ∨ rb.toInt = 1)
theorem nm_Sd (hT : RS D I P F γ el) (hB2 : ∀ i, i < Q.1 → γ 0 (el (γ 14 c) i) = 2) (hq : rfW γ el F c Q) (hO : qOk Q) (hQ6 : γ 6 (γ 1 c) = Q.1) {g : Nat → Int32} (hg : rGr γ el F c (γ 6 (γ 1 c)) g (vA (γ 6 (γ 1 c)))) (v : Nat) : rSd g v ↔ Sd Q false 2000 v := by
  have key : ∀ i j, i < Q.1 → j ≤ γ 2 (rwL γ el c i) → (nmS (F (rAt γ el c i j)) v ↔ usR false (Q.2.2.1 i j) v ∨ seR false (Q.2.2.1 i j) v) := fun i j hi hj => by
    have m := qR_m hq hi
    obtain ⟨-, ⟨rl1, rl2⟩, re3⟩ := qR hq hi
    have hU : lnU (Q.2.2.1 i j) (fI (F (rAt γ el c i j)) 0) (fI (F (rAt γ el c i j)) 1) (fI (F (rAt γ el c i j)) 2) (fI (F (rAt γ el c i j)) 3) (fI (F (rAt γ el c i j)) 5) (fI (F (rAt γ el c i j)) 6) ∧ (opB (fI (F (rAt γ el c i j)) 5) (fI (F (rAt γ el c i j)) 6)) := by
      obtain ⟨l, nn, p, s, v1, ⟨g1, g2, g3⟩, v3, v4, v5, -⟩ := show rk_2 γ (el (γ 14 c) i) (F (el (γ 14 c) i)) from RS_o hT (hB2 i hi)
      have kl := (show rk_3 D I γ el F l from RS_o hT v3).2
      by_cases q : j < γ 2 (γ 14 (el (γ 14 c) i))
      · have e : rAt γ el c i j = el (γ 14 (el (γ 14 c) i)) j := if_pos q
        rw [e]
        refine ⟨lnU_r ((qB hO hi).1 j (by omega)) (rl2 j (by omega)), ?_⟩
        obtain ⟨op, t, a, b, s', ra, rb, he, r1, r2, r3, r4, r5, -⟩ := show rk_1 γ _ (F (el (γ 14 (el (γ 14 c) i)) j)) from RS_o hT (show γ 0 (el (γ 14 (el (γ 14 c) i)) j) = 1 by rw [g1]; exact (kl j (by rw [← g1]; exact q)).1)
        have r41 := r4.1
        have r42 := r4.2
        have r51 := r5.1
        have r52 := r5.2
        rw [he]
        exact ⟨by show ra.toInt = 0 ∨ ra.toInt = 1; omega, by show rb.toInt = 0 ∨ rb.toInt = 1; omega⟩
      · have e : rAt γ el c i j = γ 15 (el (γ 14 c) i) := if_neg q
        have hj2 : j ≤ γ 2 (γ 14 (el (γ 14 c) i)) := hj
        rw [e, show j = Q.2.1 i - 1 by omega]
        refine ⟨lnU_e (g := Q.2.2.2 i) (qB hO hi).2.1 (qB hO hi).2.2 re3, ?_⟩
        obtain ⟨op, t, a, b, s', ra, rb, he, r1, r2, r3, r4, r5, -⟩ := show rk_1 γ _ (F (γ 15 (el (γ 14 c) i))) from RS_o hT (show γ 0 (γ 15 (el (γ 14 c) i)) = 1 by rw [g2]; exact v5)
        have r41 := r4.1
        have r42 := r4.2
        have r51 := r5.1
        have r52 := r5.2
        rw [he]
        exact ⟨by show ra.toInt = 0 ∨ ra.toInt = 1; omega, by show rb.toInt = 0 ∨ rb.toInt = 1; omega⟩
    obtain ⟨⟨U1, U2, U3⟩, B1, B2⟩ := hU
    unfold nmS nmV usR seR
    rw [if_neg (by decide), if_neg (by decide)]
    constructor
    · rintro (z | z | z)
      · exact Or.inr (by omega)
      · exact Or.inl (Or.inl (by omega))
      · exact Or.inl (Or.inr (by omega))
    · rintro ((z | z) | z)
      · exact Or.inr (Or.inl ⟨by omega, by omega⟩)
      · exact Or.inr (Or.inr ⟨by omega, by omega⟩)
      · exact Or.inl ⟨by omega, by omega⟩
  constructor
  · intro z
    obtain ⟨i, j, h1, h2, h3⟩ := hg.2 v z
    have hi : i < Q.1 := by omega
    have m := qR_m hq hi
    have hj : j ≤ γ 2 (γ 14 (el (γ 14 c) i)) := h2
    have w := (key i j hi h2).mp h3
    exact ⟨q_us hO hi (by omega) w, i, j, hi, by omega, w⟩
  · rintro ⟨h0, i, j, h1, h2, h3⟩
    have m := qR_m hq h1
    have hj : j ≤ γ 2 (rwL γ el c i) := by show j ≤ γ 2 (γ 14 (el (γ 14 c) i)); omega
    exact hg.1 i (by omega) j hj (show i < γ 6 (γ 1 c) by omega) v ((key i j h1 hj).mpr h3)
end LKS
theorem no_tr {D : va_G} {I : FieldType → ClassId} {F F1 : Nat → va_E} {γ el : Nat → Nat → Nat} {q0 : Nat} {a1 : Int32} (h : tr_RModel_no2 D I γ el F q0 a1 F1) : F1 q0 = cF (F q0) 30 (.int a1) := by
  refine h (fun F1 => F1 q0 = cF (F q0) 30 (.int a1)) ?_
  · intro x1 h1 h2
    exact h2
theorem rs_30 {D : va_G} {I : FieldType → ClassId} {P : List Nat} {F F1 : Nat → va_E} {γ el : Nat → Nat → Nat} {q0 : Nat} {x : Int32} (hT : RS D I P F γ el) (hm : γ 0 q0 = 10) (n : ∀ b, b ≠ q0 → F1 b = F b) (e : F1 q0 = cF (F q0) 30 (.int x)) : RS D I P F1 γ el := by
  obtain ⟨r28, r35, v9, v10, v11, v12, v13, v14, v23, v24, v25, v26, v27, v30, v32, v33, v34, he, hM1, hK, hM2⟩ := rk10_m (show rk_10 γ (F q0) from RS_o hT hm)
  rw [he] at e
  exact RS_md hT hm n (v30 := x) e hM1 hK hM2
theorem rfP_rs {D : va_G} {I : FieldType → ClassId} {P : List Nat} {F F1 : Nat → va_E} {γ el : Nat → Nat → Nat} {c : Nat} {Q : gPg} (hT : RS D I P F γ el) (hq : rfP γ el F c Q) (hc9 : γ 0 c = 9) (hB2 : ∀ i, i < Q.1 → γ 0 (el (γ 14 c) i) = 2) (hs : rStr γ [] F F1) : rfP γ el F1 c Q := by
  obtain ⟨h1, h2, h3⟩ := hq
  refine ⟨by rw [rs0 hs hc9 (by decide)]; exact h1, h2, fun b hb => ?_⟩
  exact rfB_c hT (hB2 b hb) (h3 b hb) (fun x hx => by
    rcases hx with hx | hx
    · exact rs0 hs hx (by decide)
    · exact rs0 hs hx (by decide)) rfl rfl ⟨rfl, rfl⟩
theorem dptZ {Q : gPg} : dpt (pgZ Q) = dpt Q := rfl
theorem cF30 {γ : Nat → Nat → Nat} {e : va_E} {x : Int32} (h : rk_10 γ e) : fI (cF e 30 (.int x)) 30 = x ∧ ∀ j, j ≠ 30 → fI (cF e 30 (.int x)) j = fI e j := by
  obtain ⟨r28, r35, v9, v10, v11, v12, v13, v14, v23, v24, v25, v26, v27, v30, v32, v33, v34, he, -⟩ := rk10_m h
  rw [he]
  refine ⟨rfl, fun j hj => ?_⟩
  unfold cF fI mdE
  simp only []
  rw [List.getElem?_set_ne (Ne.symm hj)]
