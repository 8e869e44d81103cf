section
/-! rows v = 0 in front -/
noncomputable def pz (Q : gPg) (T : Nat → Prop) (n : Nat) : gPg := (Q.1, fun b => if b = 0 then cntP T n + Q.2.1 0 else Q.2.1 b, fun b j => if b = 0 then (if j < cntP T n then mkL 14 (nthT T 100 j : Int) (-1) 0 (-1) 0 else Q.2.2.1 0 (j - cntP T n)) else Q.2.2.1 b j, Q.2.2.2)
theorem cnt_n {T : Nat → Prop} {n : Nat} (h : ¬ T n) : cntP T (n + 1) = cntP T n := by
  show cntP T n + @ite Nat (T n) (Classical.propDecidable (T n)) 1 0 = cntP T n
  rw [if_neg h]; rfl
theorem cnt_y {T : Nat → Prop} {n : Nat} (h : T n) : cntP T (n + 1) = cntP T n + 1 := by
  show cntP T n + @ite Nat (T n) (Classical.propDecidable (T n)) 1 0 = cntP T n + 1
  rw [if_pos h]
theorem pz_n {Q : gPg} {T : Nat → Prop} {n : Nat} (h : ¬ T n) : pz Q T (n + 1) = pz Q T n := by
  unfold pz
  rw [cnt_n h]
theorem pz_0 {Q : gPg} {T : Nat → Prop} : ∀ b, (pz Q T 0).2.1 b = Q.2.1 b ∧ ∀ j, (pz Q T 0).2.2.1 b j = Q.2.2.1 b j := fun b => by
  show (if b = 0 then 0 + Q.2.1 0 else Q.2.1 b) = Q.2.1 b ∧ ∀ j, (if b = 0 then (if j < 0 then mkL 14 (nthT T 100 j : Int) (-1) 0 (-1) 0 else Q.2.2.1 0 (j - 0)) else Q.2.2.1 b j) = Q.2.2.1 b j
  by_cases e : b = 0
  · rw [if_pos e, e]
    exact ⟨by omega, fun j => by rw [if_pos rfl, if_neg (Nat.not_lt_zero j)]; rfl⟩
  · rw [if_neg e]
    exact ⟨rfl, fun j => if_neg e⟩
theorem pz_f {Q : gPg} {T : Nat → Prop} {m : Nat} : ∀ d, (∀ v, m ≤ v → ¬ T v) → pz Q T (m + d) = pz Q T m
  | 0, _ => rfl
  | d + 1, h => by rw [show m + (d + 1) = (m + d) + 1 by omega, pz_n (h _ (by omega)), pz_f d h]
section ZRS
variable {D : va_G} {I : FieldType → ClassId} {P P1 : List Nat} {F F1 : Nat → va_E} {γ γ1 el el1 : Nat → Nat → Nat} {f c q0 x : Nat} {Q : gPg} {K KF : List Nat} {T : Nat → Prop}
theorem rfW_st (hT : RS D I P F γ el) (h : rfW γ el F c Q) (c0 : γ 0 c = 9) (hB2 : ∀ i, i < Q.1 → γ 0 (el (γ 14 c) i) = 2) (sk : rSk f K KF D I P F γ el P1 F1 γ1 el1) (hK : 1 ∉ KF ∧ 2 ∉ KF) (hc3 : (fI (F1 c) 3).toInt = (fI (F c) 3).toInt) (hc : el1 (γ 14 c) = el (γ 14 c)) (hl : ∀ a, γ 0 a = 3 → γ1 2 a = γ 2 a ∧ el1 a = el a) : rfW γ1 el1 F1 c Q := by
  have e14 : γ1 14 c = γ 14 c := (rSk_s sk (show rKd γ c 9 from c0) (by decide)).2.1
  refine ⟨hc3.trans h.1, trivial, fun b hb => ?_⟩
  rw [e14, hc]
  have hB := hB2 b hb
  obtain ⟨-, s14, s15, -⟩ := rSk_s sk (show rKd γ _ 2 from hB) (by decide)
  exact rfBw_c hT hB (h.2.2 b hb) (hF_sk sk hK) s14 s15 (hl _ (rfB_l hT hB).1)
theorem rfW_ow {W : List Nat} (hT : RS D I P F γ el) (h : rfW γ el F c Q) (c0 : γ 0 c = 9) (hB2 : ∀ i, i < Q.1 → γ 0 (el (γ 14 c) i) = 2) (hfr : rFr W P F F1) (hW : ∀ w, w ∈ W → γ 0 w ≠ 1 ∧ γ 0 w ≠ 2 ∧ γ 0 w ≠ 9) : rfW γ el F1 c Q := by
  refine ⟨by rw [hfr c (hT.1 c (by omega)) (fun z => (hW c z).2.2 c0)]; exact h.1, trivial, fun b hb => ?_⟩
  exact rfBw_c hT (hB2 b hb) (h.2.2 b hb) (hF_ow hT hfr (fun w hw => ⟨(hW w hw).1, (hW w hw).2.1⟩)) rfl rfl ⟨rfl, rfl⟩
/-- a row v = 0 more -/
theorem rfW_ins {n : Nat} (hT : RS D I P F γ el) (h : rfW γ el F c (pz Q T n)) (hP0 : 0 < Q.1) (hL0 : 0 < Q.2.1 0) (c0 : γ 0 c = 9) (hB2 : ∀ i, i < Q.1 → γ 0 (el (γ 14 c) i) = 2) (sk : rSk f K KF D I P F γ el P1 F1 γ1 el1) (hK : 1 ∉ KF ∧ 2 ∉ KF) (h9 : 9 ∉ KF) (hc : el1 (γ 14 c) = el (γ 14 c)) (hTn : T n) (hn : n < 100)
    (h2 : γ1 2 (γ 14 (el (γ 14 c) 0)) = γ 2 (γ 14 (el (γ 14 c) 0)) + 1) (hel : ∀ i, el1 (γ 14 (el (γ 14 c) 0)) i = if i < cntP T n then el (γ 14 (el (γ 14 c) 0)) i else if i = cntP T n then x else el (γ 14 (el (γ 14 c) 0)) (i - 1)) (hl : ∀ a, γ 0 a ≠ 0 → a ≠ γ 14 (el (γ 14 c) 0) → γ1 2 a = γ 2 a ∧ el1 a = el a) (hx : F1 x = F x)
    (hr : rwF (mkL 14 (n : Int) (-1) 0 (-1) 0) (fI (F x) 0) (fI (F x) 1) (fI (F x) 2) (fI (F x) 3) (fI (F x) 5) (fI (F x) 6) (fI (F x) 4)) : rfW γ1 el1 F1 c (pz Q T (n + 1)) := by
  have e14 : γ1 14 c = γ 14 c := (rSk_s sk (show rKd γ c 9 from c0) (by decide)).2.1
  have eF : F1 c = F c := rSk_F sk (show rKd γ c 9 from c0) (by decide) h9
  refine ⟨by rw [eF]; exact h.1, trivial, fun b hb => ?_⟩
  have hB := hB2 b hb
  obtain ⟨-, s14, s15, -⟩ := rSk_s sk (show rKd γ _ 2 from hB) (by decide)
  obtain ⟨l3, l20⟩ := rfB_l hT hB
  rw [e14, hc]
  have hb0 := h.2.2 b hb
  by_cases e : b = 0
  · subst e
    obtain ⟨n0, ⟨r1, r2⟩, e3⟩ := hb0
    have eL : (pz Q T n).2.1 0 = cntP T n + Q.2.1 0 := rfl
    have eL1 : (pz Q T (n + 1)).2.1 0 = cntP T n + 1 + Q.2.1 0 := by rw [show (pz Q T (n + 1)).2.1 0 = cntP T (n + 1) + Q.2.1 0 from rfl, cnt_y hTn]
    have hln : ∀ j, (pz Q T n).2.2.1 0 j = if j < cntP T n then mkL 14 (nthT T 100 j : Int) (-1) 0 (-1) 0 else Q.2.2.1 0 (j - cntP T n) := fun j => rfl
    have hln1 : ∀ j, (pz Q T (n + 1)).2.2.1 0 j = if j < cntP T n + 1 then mkL 14 (nthT T 100 j : Int) (-1) 0 (-1) 0 else Q.2.2.1 0 (j - (cntP T n + 1)) := fun j => by
      rw [← cnt_y hTn]; rfl
    have k3 := (show rk_3 D I γ el F (γ 14 (el (γ 14 c) 0)) from RS_o hT l3).2
    rw [eL] at n0 r1 r2 e3
    have hkF := hF_sk sk hK
    obtain ⟨ll, nn, p, s, v1, ⟨g1, g2, g3⟩, v3, v4, v5, -⟩ := show rk_2 γ (el (γ 14 c) 0) (F (el (γ 14 c) 0)) from RS_o hT hB
    refine ⟨by omega, ⟨by rw [s14, h2, r1, eL1]; omega, fun j hj => ?_⟩, ?_⟩
    · rw [eL1] at hj
      rw [s14, hel j, hln1 j]
      by_cases c1 : j < cntP T n
      · rw [if_pos c1, if_pos (by omega), hkF _ (Or.inl (k3 j (by omega)).1)]
        have z := r2 j (by omega)
        rw [hln j, if_pos c1] at z
        exact z
      · rw [if_neg c1]
        by_cases c2 : j = cntP T n
        · rw [if_pos c2, if_pos (by omega), hx, c2, nthT_e hTn hn]
          exact hr
        · rw [if_neg c2, if_neg (by omega), hkF _ (Or.inl (k3 (j - 1) (by omega)).1)]
          have z := r2 (j - 1) (by omega)
          rw [hln (j - 1), if_neg (by omega), show j - 1 - cntP T n = j - (cntP T n + 1) by omega] at z
          exact z
    · rw [eL1, s15, hkF _ (Or.inl (by rw [g2]; exact v5)), hkF _ (Or.inr hB), hln1, if_neg (by omega)]
      rw [hln, if_neg (by omega)] at e3
      rw [show cntP T n + 1 + Q.2.1 0 - 1 - (cntP T n + 1) = cntP T n + Q.2.1 0 - 1 - cntP T n by omega]
      exact e3
  · have eb : (pz Q T (n + 1)).2.1 b = (pz Q T n).2.1 b ∧ (pz Q T (n + 1)).2.2.1 b = (pz Q T n).2.2.1 b := by
      constructor
      · show (if b = 0 then _ else Q.2.1 b) = if b = 0 then _ else Q.2.1 b
        rw [if_neg e, if_neg e]
      · funext j
        show (if b = 0 then _ else Q.2.2.1 b j) = if b = 0 then _ else Q.2.2.1 b j
        rw [if_neg e, if_neg e]
    rw [eb.1, eb.2]
    have l20' := (rfB_l hT (hB2 0 hP0)).2
    have k4 := (show rk_4 D I γ el F (γ 14 c) from RS_o hT ((rc_at hT c0 rfl).2.1)).2
    refine rfBw_c hT hB hb0 (hF_sk sk hK) s14 s15 (hl _ (by omega) (fun q => e ?_))
    rw [q, l20'] at l20
    have hlen : b < γ 2 (γ 14 c) ∧ 0 < γ 2 (γ 14 c) := by
      obtain ⟨lb, lr, rn, md, w1, ⟨w2, -, -⟩, -, -, -, -, -, -, -, w10, -⟩ := show rk_9 γ el c (F c) from RS_o hT c0
      have z : md.toInt = (Q.1 : Int) := by have z := h.1; rw [w1] at z; exact z
      rw [w2]
      have hb : b < Q.1 := hb
      omega
    have y1 := (k4 b hlen.1).2.2
    have y2 := (k4 0 hlen.2).2.2
    rw [← l20] at y1
    omega
theorem z10 {γ0 el0 : Nat → Nat → Nat} {Fl : Nat → va_E} {s5 s6 : Int32} {s1 e2 : List Nat} {s2 e1 : Nat → va_E} {s3 s4 e3 e4 : Nat → Nat → Nat} {kx : Nat} (hT0 : RS D I P F γ0 el0) (hm0 : γ0 0 q0 = 10) (hc9 : γ0 0 c = 9) (hcf : γ0 1 c = f) (hQ6 : γ0 6 f = Q.1) (hP0 : 0 < Q.1) (hL0 : 0 < Q.2.1 0) (hT100 : ∀ v, 100 ≤ v → ¬ T v) (hlv : ∀ k, k < 2048 → (rbt (cL (Fl (γ0 10 0))) k = true ↔ T k)) (h : tl_RModel_zeros_10 D I γ0 el0 f P F c q0 s1 s2 s3 s4 s5 s6 kx e1 e2 e3 e4) : ∀ n : Nat, s5.toInt = (n : Int) → n ≤ 2000 → s6.toInt = (cntP T n : Int) → rfW s3 s4 s2 c (pz Q T n) → s2 (γ0 10 0) = Fl (γ0 10 0) → rfW e3 e4 e1 c (pz Q T 2000) ∧ RS D I e2 e1 e3 e4 ∧ rSk f [101] ([1, 3, 5, 6, 8, 9, 101] ++ npk) D I P F γ0 el0 e2 e1 e3 e4 := by
  obtain ⟨k0, k1, k2, k3⟩ := md_kd hT0 hm0
  have kl0 := (lr_kd hT0 k0 (show 0 < 40 by decide)).1
  refine h (fun s1 s2 s3 s4 s5 s6 _ e1 e2 e3 e4 => ∀ n : Nat, s5.toInt = (n : Int) → n ≤ 2000 → s6.toInt = (cntP T n : Int) → rfW s3 s4 s2 c (pz Q T n) → s2 (γ0 10 0) = Fl (γ0 10 0) → rfW e3 e4 e1 c (pz Q T 2000) ∧ RS D I e2 e1 e3 e4 ∧ rSk f [101] ([1, 3, 5, 6, 8, 9, 101] ++ npk) D I P F γ0 el0 e2 e1 e3 e4) ?_ ?_ ?_
  · intro P_1 F_1 gm_1 el_1 l3_1 l2_1 h1 h2 h3 h4 h5 h6 h7 h8 h9 h10 h11 h12
    intro n en hn e6 hW eL
    have hTs := h3
    have hk := h4
    have c0 : gm_1 0 c = 9 := rSk_k hk (show rKd γ0 c 9 from hc9) (by decide) (by decide)
    have c1 : gm_1 1 c = f := rSk_1 hk (show rKd γ0 c 9 from hc9) (by decide) hcf
    have e : n = 2000 := by have := h12; omega
    rw [e] at hW
    exact ⟨hW, hTs, hk⟩
  · intro P_1 F_1 gm_1 el_1 l3_1 l2_1 x1 x2 x3 k e1 e2 e3 e4 h1 h2 h3 h4 h5 h6 h7 h8 h9 h10 h11 h12 h13 h14 h15 h16 h17 ih
    intro n en hn e6 hW eL
    have hTs := h3
    have hk := h4
    have c0 : gm_1 0 c = 9 := rSk_k hk (show rKd γ0 c 9 from hc9) (by decide) (by decide)
    have c1 : gm_1 1 c = f := rSk_1 hk (show rKd γ0 c 9 from hc9) (by decide) hcf
    have hlt := h12
    have e10 : gm_1 10 = γ0 10 := hk.2.2.1.2.2.2.1.2.1
    have eX1 : x1 = γ0 10 0 := by rw [h14, e10]; rfl
    have hh := ha_tr (by omega) h16
    have hcx : cL (Fl (γ0 10 0)) = x2 := by
      rw [← eL, ← eX1]
      exact cL_of h15
    rw [← hcx, show l3_1.toInt.toNat = n by omega] at hh
    have hTn : ¬ T n := fun z => by
      rcases hh with w | w
      · rw [(hlv n (by omega)).mpr z] at w; exact absurd w.2 (by decide)
      · exact absurd w.1 (by decide)
    exact ih (n + 1) (by omega) (by omega) (by rw [cnt_n hTn]; exact e6) (by rw [pz_n hTn]; exact hW) eL
  · intro P_1 F_1 gm_1 el_1 l3_1 l2_1 x1 x2 x3 x4 x5 x6 x7 x8 x9 x10 x11 x12 x13 x14 x15 x16 x17 x18 x19 x20 x21 x22 x23 x24 x25 k e1 e2 e3 e4 h1 h2 h3 h4 h5 h6 h7 h8 h9 h10 h11 h12 h13 h14 h15 h16 h17 h18 h19 h20 h21 h22 h23 h24 h25 h26 h27 h28 h29 h30 h31 ih
    intro n en hn e6 hW eL
    have hTs := h3
    have hk := h4
    have c0 : gm_1 0 c = 9 := rSk_k hk (show rKd γ0 c 9 from hc9) (by decide) (by decide)
    have c1 : gm_1 1 c = f := rSk_1 hk (show rKd γ0 c 9 from hc9) (by decide) hcf
    have hlt := h12
    have e10 : gm_1 10 = γ0 10 := hk.2.2.1.2.2.2.1.2.1
    have eX1 : x1 = γ0 10 0 := by rw [h14, e10]; rfl
    have hh := ha_tr (by omega) h16
    have hcx : cL (Fl (γ0 10 0)) = x2 := by
      rw [← eL, ← eX1]
      exact cL_of h15
    rw [← hcx, show l3_1.toInt.toNat = n by omega] at hh
    have hTn : T n := by
      rcases hh with w | w
      · exact absurd w.1 (by decide)
      · exact (hlv n (by omega)).mp w.2
    have hn100 : n < 100 := by
      refine Classical.byContradiction fun z => hT100 n (by omega) hTn
    have h6s : gm_1 6 f = Q.1 := by rw [h5]; exact hQ6
    have hB2 : ∀ i, i < Q.1 → gm_1 0 (el_1 (gm_1 14 c) i) = 2 := fun i hi => by
      obtain ⟨lb, lr, rn, md, w1, ⟨w2, -, -⟩, w3, w4, w5, w6, w7, w8, w9, w10, w11, w12, w13, w14, -⟩ := show rk_9 gm_1 el_1 c (F_1 c) from RS_o hTs c0
      have z : md.toInt = (Q.1 : Int) := by have z := hW.1; rw [w1] at z; exact z
      rw [w2]
      exact (w14 i (by omega)).resolve_right (fun z => by rw [c1] at z; omega)
    have hR := h19
    obtain ⟨st3, kr0, kr1, kr22, kr8, g16, g18, hnu3, hl3, ⟨h45, x2', x3'⟩, ⟨x5', x6', hmd3⟩, -, -, -⟩ := id hR
    have sk3 := rSk_of st3
    obtain ⟨-, a4, -, -, -⟩ := rc_at hTs c0 c1
    have hW3 : rfW x7 x8 x6 c (pz Q T n) := rfW_st hTs hW c0 hB2 sk3 (by decide) hmd3 (hl3 _ (by rw [a4]; decide) (by rw [a4]; decide)).2 (fun a ha => hl3 a (by rw [ha]; decide) (by rw [ha]; decide))
    have c03 : x7 0 c = 9 := rSk_k sk3 (show rKd gm_1 c 9 from c0) (by decide) (by decide)
    have c13 : x7 1 c = f := rSk_1 sk3 (show rKd gm_1 c 9 from c0) (by decide) c1
    have e14 : x7 14 c = gm_1 14 c := (rSk_s sk3 (show rKd gm_1 c 9 from c0) (by decide)).2.1
    have hB23 : ∀ i, i < Q.1 → x7 0 (x8 (x7 14 c) i) = 2 := fun i hi => by
      rw [e14, (hl3 _ (by rw [a4]; decide) (by rw [a4]; decide)).2]
      exact rSk_k sk3 (show rKd gm_1 _ 2 from hB2 i hi) (by decide) (by decide)
    obtain ⟨op, t, xa, xb, s, ra, rb, x1, q1, q2, q3, q4, q5, q6, q7, q8⟩ := show rkR (x6 x9) from RS_o st3.1 kr0
    have hfr : rFr [x9] x5 x6 x13 := fun b _ hb => (h22 b (fun e => hb (e ▸ List.mem_cons_self))).trans (h20 b (fun e => hb (e ▸ List.mem_cons_self)))
    have eRow : x13 x9 = .inr (20, [.int 0, .int l3_1, .int xa, .int xb, .int s, .int ra, .int rb]) := by rw [h23, h21, x1]; rfl
    have z5 : ra.toInt = 0 := by rw [x1] at x5'; exact x5'
    have z6 : rb.toInt = 0 := by rw [x1] at x6'; exact x6'
    have z2 : xa.toInt = 0 := by rw [x1] at x2'; exact x2'
    have hRk : rkR (x13 x9) := ⟨0, l3_1, xa, xb, s, ra, rb, eRow, ⟨by decide, by decide⟩, ⟨by omega, by omega⟩, q3, q4, q5, Or.inl (by decide), q7, q8⟩
    have hT13 : RS D I x5 x13 x7 x8 := RS_ow st3.1 rSub_rf hfr (wm_c (Or.inr (fit_101 kr0 hRk)) wm_n)
    have hW13 : rfW x7 x8 x13 c (pz Q T n) := rfW_ow st3.1 hW3 c03 hB23 hfr (wm_c (by rw [kr0]; decide) wm_n)
    have e17 : x17 = x7 14 (x8 (x7 14 c) 0) := by
      obtain ⟨lb, lr, rn, md, w1, ⟨w2, -, -⟩, -⟩ := show rk_9 x7 x8 c (x13 c) from RS_o hT13 c03
      have y1 : x14 = x7 14 c := by rw [← h24, w1, w2]; rfl
      have y2 : x15 = x8 (x7 14 c) 0 := by rw [h25, y1]; rfl
      have hB0 := hB23 0 hP0
      rw [← y2] at hB0 ⊢
      obtain ⟨l', nn, p', s', v1, ⟨u1, u2, u3⟩, -⟩ := show rk_2 x7 x15 (x13 x15) from RS_o hT13 hB0
      rw [← h28, v1, u1]
      rfl
    have hI := h29
    rw [e17, show l2_1.toInt.toNat = cntP T n by omega] at hI
    obtain ⟨st5, y0, y2, yel, yo, y16, y18, hnu5, yF, -, -, -⟩ := hI
    have sk5 := rSk_of st5
    obtain ⟨-, a45, -, -, -⟩ := rc_at hT13 c03 c13
    have l3b := (rfB_l hT13 (hB23 0 hP0)).1
    have hll5 := yo (x7 14 c) (by rw [a45]; decide) (fun e => by rw [e, l3b] at a45; cases a45)
    have hW5 := rfW_ins (x := x9) hT13 hW13 hP0 hL0 c03 hB23 sk5 (by decide) (by decide) hll5.2 hTn hn100 y2 yel yo yF (by
      rw [eRow]
      refine ⟨fun z => absurd (show (14 : Int) ≤ 13 from z) (by decide), fun _ => ⟨(show Int32.toInt 0 = 0 by decide), ?_, Or.inr ⟨z5, rfl, z2⟩⟩, fun z => absurd (show (14 : Int) = 15 from z) (by decide), fun z => absurd (show (14 : Int) = 16 from z) (by decide), fun z => absurd (show (14 : Int) = 17 from z) (by decide), fun z => absurd (show (14 : Int) = 18 from z) (by decide)⟩
      show l3_1.toInt = (n : Int)
      omega)
    have kx3 : gm_1 0 (γ0 10 0) = 11 := rSk_k hk (show rKd γ0 _ 11 from kl0) (by decide) (by decide)
    have kx4 : x7 0 (γ0 10 0) = 11 := rSk_k sk3 (show rKd gm_1 _ 11 from kx3) (by decide) (by decide)
    refine ih (n + 1) (by omega) (by omega) (by rw [cnt_y hTn]; omega) hW5 ?_
    rw [rSk_F sk5 (show rKd x7 _ 11 from kx4) (by decide) (by decide), hfr _ (st3.1.1 _ (by omega)) (nm_c (fun e => by rw [e, kr0] at kx4; cases kx4) nm_n), rSk_F sk3 (show rKd gm_1 _ 11 from kx3) (by decide) (by decide)]
    exact eL
/-- zeros: rows v = 0 for what is alive in front of everything -/
theorem zr_tr {γ0 el0 γ2 el2 : Nat → Nat → Nat} {P2 : List Nat} {F2 : Nat → va_E} (hT0 : RS D I P F γ0 el0) (hm0 : γ0 0 q0 = 10) (hc9 : γ0 0 c = 9) (hcf : γ0 1 c = f) (hQ6 : γ0 6 f = Q.1) (hP0 : 0 < Q.1) (hQ4 : Q.1 ≤ 40) (hq : rfW γ0 el0 F c Q) (hO : qOk Q) (hB2 : ∀ i, i < Q.1 → γ0 0 (el0 (γ0 14 c) i) = 2) (hT100 : ∀ v, 100 ≤ v → ¬ lz Q v) (h : tr_RModel_zeros D I γ0 el0 f P F q0 c P2 F2 γ2 el2) : rfW γ2 el2 F2 c (pgZ Q) ∧ RS D I P2 F2 γ2 el2 := by
  refine h (fun P2 F2 γ2 el2 => rfW γ2 el2 F2 c (pgZ Q) ∧ RS D I P2 F2 γ2 el2) ?_
  · intro x1 x2 x3 x4 x5 x6 x7 h1 h2 h3 h4 h5 h6 h7
    have eg := h1
    have ee := h2
    subst eg
    subst ee
    have hs := h4
    have l1 := fl_tr (by decide) hq hO hQ4 (by rw [hcf]; exact hQ6) (fun F1 hF => rs0 hF hc9 (by decide)) h6
    have hq3 := rfW_rs hT0 hq hc9 hB2 hs
    obtain ⟨y1, y2, -⟩ := z10 (T := lz Q) (Fl := x3) hT0 hm0 hc9 hcf hQ6 hP0 (hO.2 0 hP0).1 hT100 (fun k hk => l1 0 k hP0 hk) h7 0 (by decide) (by decide) (by rfl) ⟨hq3.1, trivial, fun b hb => by
      have z := pz_0 (Q := Q) (T := lz Q) b
      have e : (pz Q (lz Q) 0).2.2.1 b = Q.2.2.1 b := funext z.2
      rw [z.1, e]
      exact hq3.2.2 b hb⟩ rfl
    rw [show (2000 : Nat) = 100 + 1900 from rfl, pz_f 1900 hT100] at y1
    exact ⟨y1, y2⟩
end ZRS
end
section
/-! look of the reference -/
theorem bcR_tr {a0 : Int64} {r : Int32} (h : tr_RLong_bitCount a0 r) : r = lb_bc a0 := by
  refine h (fun r => r = lb_bc a0) ?_
  · intro x1 x2 x3 x4 x5 x6 x7 x8 x9 x10 x11 x12 x13 x14 x15 x16 x17 x18 h1 h2 h3 h4 h5 h6 h7 h8 h9 h10 h11 h12 h13 h14 h15 h16 h17 h18
    subst h18 h17 h16 h15 h14 h13 h12 h11 h10 h9 h8 h7 h6 h5 h4 h3 h2 h1
    rfl
theorem bc_b {x : Int64} : 0 ≤ (lb_bc x).toInt ∧ (lb_bc x).toInt ≤ 127 := by
  unfold lb_bc
  generalize (lb_b6 (lb_b5 (lb_b4 (lb_b3 (lb_b2 (lb_b1 x)))))).toInt32 = y
  have e : ∀ z : BitVec 32, (z &&& 127#32).toNat ≤ 127 := fun z => by
    rw [BitVec.toNat_and]
    exact Nat.and_le_right
  have h1 := e y.toBitVec
  have h2 : (y &&& 127).toInt = ((y.toBitVec &&& 127#32).toNat : Int) := by
    show (y.toBitVec &&& 127#32).toInt = _
    rw [BitVec.toInt_eq_toNat_cond, if_pos (by omega)]
  rw [h2]
  omega
theorem ct4 {f : Nat → Int64} {s1 s2 e1 : Int32} {kx : Nat} (h : tl_RModel_count_4 f s1 s2 kx e1) : ∀ m : Nat, s1.toInt = (m : Int) → m ≤ 32 → s2.toInt = bsm f 0 m → 0 ≤ bsm f 0 m ∧ bsm f 0 m ≤ 127 * (m : Int) → e1.toInt = bsm f 0 32 := by
  refine h (fun s1 s2 _ e1 => ∀ m : Nat, s1.toInt = (m : Int) → m ≤ 32 → s2.toInt = bsm f 0 m → 0 ≤ bsm f 0 m ∧ bsm f 0 m ≤ 127 * (m : Int) → e1.toInt = bsm f 0 32) ?_ ?_
  · intro l2_1 l1_1 h1 h2
    intro m em hm hs hb
    have e : m = 32 := by have := h2; omega
    rw [hs, e]
  · intro l2_1 l1_1 x1 x2 x3 x4 k e1 h1 h2 h3 h4 h5 h6 h7 ih
    intro m em hm hs hb
    have hlt := h2
    have e2 := bcR_tr h5
    have hz : (l2_1.toNatClampNeg : Int) = l2_1.toInt := g_nn (by omega)
    rw [h3, show l2_1.toNatClampNeg = m by omega] at e2
    have b := bc_b (x := f m)
    have es : bsm f 0 (m + 1) = bsm f 0 m + (lb_bc (f m)).toInt := by
      show bsm f 0 m + (lb_bc (f (0 + m))).toInt = _
      rw [Nat.zero_add]
    have e3 : x3.toInt = bsm f 0 (m + 1) := by
      rw [es, h6, Int32.toInt_add, hs, e2]
      exact Int.bmod_eq_of_le (by omega) (by omega)
    exact ih (m + 1) (by omega) (by omega) e3 (by rw [es]; omega)
theorem co_tr {f : Nat → Int64} {r : Int32} (h : tr_RModel_count f r) : r.toInt = bsm f 0 32 := by
  refine h (fun r => r.toInt = bsm f 0 32) ?_
  · intro x1 h1
    exact ct4 h1 0 (by decide) (by decide) (show Int32.toInt 0 = 0 by decide) ⟨(show (0 : Int) ≤ 0 by decide), (show (0 : Int) ≤ 127 * ((0 : Nat) : Int) by decide)⟩
/-- what is alive is used -/
theorem Lv_us {P : gPg} {v b j : Nat} (h : Lv P false v b j) : ∃ c k, c < P.1 ∧ k < P.2.1 c ∧ usR false (P.2.2.1 c k) v :=
  h (fun _ _ => ∃ c k, c < P.1 ∧ k < P.2.1 c ∧ usR false (P.2.2.1 c k) v) (fun b j h1 h2 h3 => ⟨b, j, h1, h2, h3⟩) (fun _ _ _ _ _ h => h) (fun _ _ _ _ _ _ _ h => h)
section LKR
variable {Q : gPg} {v k : Nat}
theorem q_us (hO : qOk Q) {c j : Nat} (hc : c < Q.1) (hj : j < Q.2.1 c) (h : usR false (Q.2.2.1 c j) v ∨ seR false (Q.2.2.1 c j) v) : v < 2000 := by
  obtain ⟨h0, h1, h2, h3⟩ := hO.2 c hc
  unfold usR seR at h
  rw [if_neg (by decide), if_neg (by decide)] at h
  by_cases e : j + 1 < Q.2.1 c
  · obtain ⟨o1, o2, o3, o4, o5, o6, o7⟩ := h1 j e
    by_cases e2 : Q.2.2.1 c j 0 ≤ 15 ∨ Q.2.2.1 c j 0 = 17
    · have := o4 e2; omega
    · have := o5 (by omega); omega
  · rw [show Q.2.1 c - 1 = j by omega] at h2
    obtain ⟨o1, o2, o3, o4⟩ := h2
    omega
theorem q_lv (hO : qOk Q) {b j : Nat} (h : Lv Q false v b j) : v < 2000 := by
  obtain ⟨c, k, h1, h2, h3⟩ := Lv_us h
  exact q_us hO h1 h2 (Or.inl h3)
theorem Jn_J1 (hO : qOk Q) : (J1 Q v k ∨ J1 Q k v) ↔ Jn Q false 2000 v k := by
  have key : ∀ v k, J1 Q v k ↔ ∃ b j, b < Q.1 ∧ j < Q.2.1 b ∧ jdA Q false 2000 b j v k := fun v k => by
    constructor
    · rintro ⟨c, j, h1, h2, h3, h4, h5, h6⟩
      exact ⟨c, j, h1, h2, q_us hO h1 h2 (Or.inr h3), q_lv hO h4, h3, h4, h5, fun z => h6 z.2⟩
    · rintro ⟨c, j, h1, h2, -, -, h3, h4, h5, h6⟩
      exact ⟨c, j, h1, h2, h3, h4, h5, fun z => h6 ⟨rfl, z⟩⟩
  rw [key v k, key k v]
  constructor
  · rintro (⟨b, j, h1, h2, h3⟩ | ⟨b, j, h1, h2, h3⟩)
    · exact ⟨b, j, h1, h2, Or.inl h3⟩
    · exact ⟨b, j, h1, h2, Or.inr h3⟩
  · rintro ⟨b, j, h1, h2, h3 | h3⟩
    · exact Or.inl ⟨b, j, h1, h2, h3⟩
    · exact Or.inr ⟨b, j, h1, h2, h3⟩
theorem nthT_l {T : Nat → Prop} : ∀ {k j : Nat}, j < cntP T k → nthT T k j < k ∧ T (nthT T k j)
  | 0, j, h => absurd h (Nat.not_lt_zero j)
  | k + 1, j, h => by
    show @ite Nat (T k ∧ cntP T k = j) (Classical.propDecidable _) k (nthT T k j) < k + 1 ∧ T (@ite Nat (T k ∧ cntP T k = j) (Classical.propDecidable _) k (nthT T k j))
    by_cases e : T k ∧ cntP T k = j
    · rw [if_pos e]
      exact ⟨by omega, e.1⟩
    · rw [if_neg e]
      have hj : j < cntP T k := by
        by_cases ht : T k
        · rw [cnt_y ht] at h
          have : cntP T k ≠ j := fun z => e ⟨ht, z⟩
          omega
        · rw [cnt_n ht] at h
          exact h
      have z := nthT_l hj
      exact ⟨by omega, z.2⟩
theorem qZ (hO : qOk Q) (hP0 : 0 < Q.1) : qOk (pgZ Q) := by
  refine ⟨hO.1, fun b hb => ?_⟩
  obtain ⟨h0, h1, h2, h3⟩ := hO.2 b hb
  by_cases e : b = 0
  · subst e
    have eL : (pgZ Q).2.1 0 = cntP (lz Q) 100 + Q.2.1 0 := rfl
    have hln : ∀ j, (pgZ Q).2.2.1 0 j = if j < cntP (lz Q) 100 then mkL 14 (nthT (lz Q) 100 j : Int) (-1) 0 (-1) 0 else Q.2.2.1 0 (j - cntP (lz Q) 100) := fun j => rfl
    refine ⟨by rw [eL]; omega, fun j hj => ?_, ?_, ?_⟩
    · rw [eL] at hj
      rw [hln]
      by_cases c : j < cntP (lz Q) 100
      · rw [if_pos c]
        have z := nthT_l c
        exact rwO_2 (rwO_mk ⟨by decide, by decide⟩ ⟨by decide, by decide⟩ ⟨by decide, by decide⟩ (fun _ => ⟨by omega, by omega⟩) (fun z => absurd z (by decide)) (fun z => absurd z (by decide)) (fun _ => rfl))
      · rw [if_neg c]
        exact h1 _ (by omega)
    · rw [eL, hln, if_neg (by omega), show cntP (lz Q) 100 + Q.2.1 0 - 1 - cntP (lz Q) 100 = Q.2.1 0 - 1 by omega]
      exact h2
    · rw [eL, hln, if_neg (by omega), show cntP (lz Q) 100 + Q.2.1 0 - 1 - cntP (lz Q) 100 = Q.2.1 0 - 1 by omega]
      exact h3
  · have e1 : (pgZ Q).2.1 b = Q.2.1 b := if_neg e
    have e2 : (pgZ Q).2.2.1 b = Q.2.2.1 b := funext fun j => if_neg e
    rw [e1, e2]
    exact ⟨h0, h1, h2, h3⟩
end LKR
section LKS
variable {D : va_G} {I : FieldType → ClassId} {P : List Nat} {F F1 : Nat → va_E} {γ el : Nat → Nat → Nat} {q0 c : Nat} {Q : gPg}
/-- names: those of the program -/
def opB (ra rb : Int32) : Prop := (ra.toInt = 0 ∨ ra.toInt = 1) ∧ (rb.toInt = 0 ∨ rb.toInt = 1)
theorem nm_Sd (hT : RS D I P F γ el) (hB2 : ∀ i, i < Q.1 → γ 0 (el (γ 14 c) i) = 2) (hq : rfW γ el F c Q) (hO : qOk Q) (hQ6 : γ 6 (γ 1 c) = Q.1) {g : Nat → Int32} (hg : rGr γ el F c (γ 6 (γ 1 c)) g (vA (γ 6 (γ 1 c)))) (v : Nat) : rSd g v ↔ Sd Q false 2000 v := by
  have key : ∀ i j, i < Q.1 → j ≤ γ 2 (rwL γ el c i) → (nmS (F (rAt γ el c i j)) v ↔ usR false (Q.2.2.1 i j) v ∨ seR false (Q.2.2.1 i j) v) := fun i j hi hj => by
    have m := qR_m hq hi
    obtain ⟨-, ⟨rl1, rl2⟩, re3⟩ := qR hq hi
    have hU : lnU (Q.2.2.1 i j) (fI (F (rAt γ el c i j)) 0) (fI (F (rAt γ el c i j)) 1) (fI (F (rAt γ el c i j)) 2) (fI (F (rAt γ el c i j)) 3) (fI (F (rAt γ el c i j)) 5) (fI (F (rAt γ el c i j)) 6) ∧ (opB (fI (F (rAt γ el c i j)) 5) (fI (F (rAt γ el c i j)) 6)) := by
      obtain ⟨l, nn, p, s, v1, ⟨g1, g2, g3⟩, v3, v4, v5, -⟩ := show rk_2 γ (el (γ 14 c) i) (F (el (γ 14 c) i)) from RS_o hT (hB2 i hi)
      have kl := (show rk_3 D I γ el F l from RS_o hT v3).2
      by_cases q : j < γ 2 (γ 14 (el (γ 14 c) i))
      · have e : rAt γ el c i j = el (γ 14 (el (γ 14 c) i)) j := if_pos q
        rw [e]
        refine ⟨lnU_r ((qB hO hi).1 j (by omega)) (rl2 j (by omega)), ?_⟩
        obtain ⟨op, t, a, b, s', ra, rb, he, r1, r2, r3, r4, r5, -⟩ := show rk_1 γ _ (F (el (γ 14 (el (γ 14 c) i)) j)) from RS_o hT (show γ 0 (el (γ 14 (el (γ 14 c) i)) j) = 1 by rw [g1]; exact (kl j (by rw [← g1]; exact q)).1)
        have r41 := r4.1
        have r42 := r4.2
        have r51 := r5.1
        have r52 := r5.2
        rw [he]
        exact ⟨by show ra.toInt = 0 ∨ ra.toInt = 1; omega, by show rb.toInt = 0 ∨ rb.toInt = 1; omega⟩
      · have e : rAt γ el c i j = γ 15 (el (γ 14 c) i) := if_neg q
        have hj2 : j ≤ γ 2 (γ 14 (el (γ 14 c) i)) := hj
        rw [e, show j = Q.2.1 i - 1 by omega]
        refine ⟨lnU_e (g := Q.2.2.2 i) (qB hO hi).2.1 (qB hO hi).2.2 re3, ?_⟩
        obtain ⟨op, t, a, b, s', ra, rb, he, r1, r2, r3, r4, r5, -⟩ := show rk_1 γ _ (F (γ 15 (el (γ 14 c) i))) from RS_o hT (show γ 0 (γ 15 (el (γ 14 c) i)) = 1 by rw [g2]; exact v5)
        have r41 := r4.1
        have r42 := r4.2
        have r51 := r5.1
        have r52 := r5.2
        rw [he]
        exact ⟨by show ra.toInt = 0 ∨ ra.toInt = 1; omega, by show rb.toInt = 0 ∨ rb.toInt = 1; omega⟩
    obtain ⟨⟨U1, U2, U3⟩, B1, B2⟩ := hU
    unfold nmS nmV usR seR
    rw [if_neg (by decide), if_neg (by decide)]
    constructor
    · rintro (z | z | z)
      · exact Or.inr (by omega)
      · exact Or.inl (Or.inl (by omega))
      · exact Or.inl (Or.inr (by omega))
    · rintro ((z | z) | z)
      · exact Or.inr (Or.inl ⟨by omega, by omega⟩)
      · exact Or.inr (Or.inr ⟨by omega, by omega⟩)
      · exact Or.inl ⟨by omega, by omega⟩
  constructor
  · intro z
    obtain ⟨i, j, h1, h2, h3⟩ := hg.2 v z
    have hi : i < Q.1 := by omega
    have m := qR_m hq hi
    have hj : j ≤ γ 2 (γ 14 (el (γ 14 c) i)) := h2
    have w := (key i j hi h2).mp h3
    exact ⟨q_us hO hi (by omega) w, i, j, hi, by omega, w⟩
  · rintro ⟨h0, i, j, h1, h2, h3⟩
    have m := qR_m hq h1
    have hj : j ≤ γ 2 (rwL γ el c i) := by show j ≤ γ 2 (γ 14 (el (γ 14 c) i)); omega
    exact hg.1 i (by omega) j hj (show i < γ 6 (γ 1 c) by omega) v ((key i j h1 hj).mpr h3)
end LKS
theorem no_tr {D : va_G} {I : FieldType → ClassId} {F F1 : Nat → va_E} {γ el : Nat → Nat → Nat} {q0 : Nat} {a1 : Int32} (h : tr_RModel_no2 D I γ el F q0 a1 F1) : F1 q0 = cF (F q0) 30 (.int a1) := by
  refine h (fun F1 => F1 q0 = cF (F q0) 30 (.int a1)) ?_
  · intro x1 h1 h2
    exact h2
theorem rs_30 {D : va_G} {I : FieldType → ClassId} {P : List Nat} {F F1 : Nat → va_E} {γ el : Nat → Nat → Nat} {q0 : Nat} {x : Int32} (hT : RS D I P F γ el) (hm : γ 0 q0 = 10) (n : ∀ b, b ≠ q0 → F1 b = F b) (e : F1 q0 = cF (F q0) 30 (.int x)) : RS D I P F1 γ el := by
  obtain ⟨r28, r35, v9, v10, v11, v12, v13, v14, v23, v24, v25, v26, v27, v30, v32, v33, v34, he, hM1, hK, hM2⟩ := rk10_m (show rk_10 γ (F q0) from RS_o hT hm)
  rw [he] at e
  exact RS_md hT hm n (v30 := x) e hM1 hK hM2
theorem rfP_rs {D : va_G} {I : FieldType → ClassId} {P : List Nat} {F F1 : Nat → va_E} {γ el : Nat → Nat → Nat} {c : Nat} {Q : gPg} (hT : RS D I P F γ el) (hq : rfP γ el F c Q) (hc9 : γ 0 c = 9) (hB2 : ∀ i, i < Q.1 → γ 0 (el (γ 14 c) i) = 2) (hs : rStr γ [] F F1) : rfP γ el F1 c Q := by
  obtain ⟨h1, h2, h3⟩ := hq
  refine ⟨by rw [rs0 hs hc9 (by decide)]; exact h1, h2, fun b hb => ?_⟩
  exact rfB_c hT (hB2 b hb) (h3 b hb) (fun x hx => by
    rcases hx with hx | hx
    · exact rs0 hs hx (by decide)
    · exact rs0 hs hx (by decide)) rfl rfl ⟨rfl, rfl⟩
theorem dptZ {Q : gPg} : dpt (pgZ Q) = dpt Q := rfl
theorem cF30 {γ : Nat → Nat → Nat} {e : va_E} {x : Int32} (h : rk_10 γ e) : fI (cF e 30 (.int x)) 30 = x ∧ ∀ j, j ≠ 30 → fI (cF e 30 (.int x)) j = fI e j := by
  obtain ⟨r28, r35, v9, v10, v11, v12, v13, v14, v23, v24, v25, v26, v27, v30, v32, v33, v34, he, -⟩ := rk10_m h
  rw [he]
  refine ⟨rfl, fun j hj => ?_⟩
  unfold cF fI mdE
  simp only []
  rw [List.getElem?_set_ne (Ne.symm hj)]
end
section
/-! feed and end: the tape's bytes, on both sides -/
def wB (a : Int32) (s : Nat) : Nat → (Nat → Int32) → Nat → Int32
  | 0, f => f
  | j + 1, f => upd (wB a s j f) (s + j) (vp_nar .byte ((a >>> (Int32.ofInt (24 - 8 * (j : Int)) &&& 31)).toInt8.toInt32))
def fB (a1 a2 a3 a4 a5 : Int32) (s : Nat) (f : Nat → Int32) : Nat → Int32 := wB a5 (s + 4 + 4 + 4 + 4) 4 (wB a4 (s + 4 + 4 + 4) 4 (wB a3 (s + 4 + 4) 4 (wB a2 (s + 4) 4 (wB a1 s 4 f))))
theorem sh_e {j : Nat} (h : j < 4) : (Int32.ofInt (24 - 8 * (j : Int))).toInt = 24 - 8 * (j : Int) := by
  have q : j = 0 ∨ j = 1 ∨ j = 2 ∨ j = 3 := by omega
  rcases q with rfl | rfl | rfl | rfl <;> decide
/-- the same bytes below n -/
def tpE (f g : Nat → Int32) (n : Nat) : Prop := ∀ i, i < n → f i &&& 255 = g i &&& 255
theorem tpE_u {f g : Nat → Int32} {n : Nat} {v : Int32} (h : tpE f g n) : tpE (upd f n v) (upd g n v) (n + 1) := fun i hi => by
  by_cases e : i = n
  · subst e
    rw [updE, updE]
  · rw [updN e, updN e]
    exact h i (by omega)
theorem tpE_w {f g : Nat → Int32} {a : Int32} {n : Nat} (h : tpE f g n) : ∀ j : Nat, tpE (wB a n j f) (wB a n j g) (n + j) := by
  intro j
  induction j with
  | zero => exact h
  | succ j ih => exact tpE_u ih
theorem tpE_f {f g : Nat → Int32} {a1 a2 a3 a4 a5 : Int32} {n : Nat} (h : tpE f g n) : tpE (fB a1 a2 a3 a4 a5 n f) (fB a1 a2 a3 a4 a5 n g) (n + 20) := tpE_w (tpE_w (tpE_w (tpE_w (tpE_w h 4) 4) 4) 4) 4
theorem tpE_l {f g : Nat → Int32} {n m : Nat} (h : tpE f g n) (hm : m ≤ n) : tpE f g m := fun i hi => h i (by omega)
theorem tpE_0 {f g : Nat → Int32} : tpE f g 0 := fun i hi => absurd hi (Nat.not_lt_zero i)
theorem tpE_A {f g : Nat → Int32} {n : Nat} (h : tpE f g n) : bA f (n : Int) = bA g (n : Int) := funext fun i => by
  unfold bA
  by_cases c : 0 ≤ i ∧ i < (n : Int)
  · rw [if_pos c, if_pos c, h i.toNat (by omega)]
  · rw [if_neg c, if_neg c]
theorem ai_tl {a1 s1 s2 e1 : Int32} {s3 e2 f : Nat → Int32} {k m : Nat} (hm : m + 4 ≤ 8192) (h : tl_Tape_addInt_3 a1 s1 s2 s3 k e1 e2) : ∀ j : Nat, j ≤ 4 → s1.toInt = 24 - 8 * (j : Int) → s2.toInt = ((m + j : Nat) : Int) → s3 = wB a1 m j f → e1.toInt = ((m + 4 : Nat) : Int) ∧ e2 = wB a1 m 4 f := by
  refine h (fun s1 s2 s3 _ e1 e2 => ∀ j : Nat, j ≤ 4 → s1.toInt = 24 - 8 * (j : Int) → s2.toInt = ((m + j : Nat) : Int) → s3 = wB a1 m j f → e1.toInt = ((m + 4 : Nat) : Int) ∧ e2 = wB a1 m 4 f) ?_ ?_ ?_
  · intro l2_1 Tape_size_1 Tape_bytes_1 h1 h2 h3
    intro j hj ea eb ec
    have ej : j = 4 := by omega
    subst ej
    exact ⟨eb, ec⟩
  · intro l2_1 Tape_size_1 Tape_bytes_1 h1 h2 h3 h4
    intro j hj ea eb ec
    omega
  · intro l2_1 Tape_size_1 Tape_bytes_1 x1 x2 x3 x4 x5 k e1 e2 h1 h2 h3 h4 h5 h6 h7 h8 h9 ih
    intro j hj ea eb ec
    refine ih (j + 1) (by omega) (by omega) (by omega) ?_
    rw [h7, ec, nnE eb, h6, h5, Int32.toInt_inj.mp (ea.trans (sh_e (show j < 4 by omega)).symm)]
    rfl
theorem ai_tr {a1 sz o1 : Int32} {B o2 : Nat → Int32} {m : Nat} (hs : sz.toInt = (m : Int)) (hm : m + 4 ≤ 8192) (h : tr_Tape_addInt a1 sz B o1 o2) : o1.toInt = ((m + 4 : Nat) : Int) ∧ o2 = wB a1 m 4 B := by
  refine h (fun o1 o2 => o1.toInt = ((m + 4 : Nat) : Int) ∧ o2 = wB a1 m 4 B) ?_
  · intro x1 x2 h1
    exact ai_tl hm h1 0 (by decide) (by decide) hs rfl
theorem hr_tr {a1 sz o1 : Int32} (h : tr_Tape_hasRoom a1 sz o1) : (o1.toInt ≠ 0 → sz.toInt + a1.toInt ≤ 8192) ∧ (o1.toInt = 0 → 8192 < sz.toInt + a1.toInt) := by
  refine h (fun o1 => (o1.toInt ≠ 0 → sz.toInt + a1.toInt ≤ 8192) ∧ (o1.toInt = 0 → 8192 < sz.toInt + a1.toInt)) ?_ ?_
  · intro x1 h1 h2
    exact ⟨fun z => absurd rfl z, fun _ => by omega⟩
  · intro x1 h1 h2
    exact ⟨fun _ => by omega, fun z => absurd z (by decide)⟩
theorem fd_c {a1 a2 a3 a4 a5 sz o1 o2 : Int32} {B o3 : Nat → Int32} {m : Nat} (hs : sz.toInt = (m : Int)) (h : tr_SpillForge_feed a1 a2 a3 a4 a5 sz B o1 o2 o3) : o3 = fB a1 a2 a3 a4 a5 m B := by
  refine h (fun _ _ o3 => o3 = fB a1 a2 a3 a4 a5 m B) ?_
  · intro x1 x2 x3 x4 x5 x6 x7 x8 x9 x10 x11 h1 h2 h3 h4 h5 h6 h7 h8 h9 h10 h11 h12 h13
    have r1 := (hr_tr h2).1 h3
    rw [show Int32.toInt 20 = 20 from by decide] at r1
    obtain ⟨a, a'⟩ := ai_tr hs (by omega) h5
    obtain ⟨b, b'⟩ := ai_tr a (by omega) h7
    obtain ⟨c, c'⟩ := ai_tr b (by omega) h9
    obtain ⟨d, d'⟩ := ai_tr c (by omega) h11
    obtain ⟨e, e'⟩ := ai_tr d (by omega) h13
    rw [e', d', c', b', a']
    rfl
section FDR
variable {D : va_G} {I : FieldType → ClassId} {γ el : Nat → Nat → Nat} {P : List Nat} {F : Nat → va_E} {q0 m : Nat} {f : Nat → Int32}
theorem wf_tl {a1 a2 s2 : Int32} {s1 e1 : Nat → va_E} {k : Nat} (ha : a2.toInt = (m : Int)) (hm : m + 4 ≤ 8192) (h : tl_RModel_word_2 D I γ el P F q0 a2 a1 s1 s2 k e1) : ∀ j : Nat, j ≤ 4 → s2.toInt = (j : Int) → s1 (γ 9 31) = .inl (I .byte, 8192, .inl (wB a1 m j f)) → (∀ b, b ≠ γ 9 31 → s1 b = F b) → e1 (γ 9 31) = .inl (I .byte, 8192, .inl (wB a1 m 4 f)) ∧ ∀ b, b ≠ γ 9 31 → e1 b = F b := by
  refine h (fun s1 s2 _ e1 => ∀ j : Nat, j ≤ 4 → s2.toInt = (j : Int) → s1 (γ 9 31) = .inl (I .byte, 8192, .inl (wB a1 m j f)) → (∀ b, b ≠ γ 9 31 → s1 b = F b) → e1 (γ 9 31) = .inl (I .byte, 8192, .inl (wB a1 m 4 f)) ∧ ∀ b, b ≠ γ 9 31 → e1 b = F b) ?_ ?_
  · intro F_1 l3_1 h1 h2 h3 h4 h5 h6 h7 h8
    intro j hj e1 e2 e3
    have ej : j = 4 := by omega
    subst ej
    exact ⟨e2, e3⟩
  · intro F_1 l3_1 x1 x2 x3 x4 x5 x6 x7 x8 x9 k e1 h1 h2 h3 h4 h5 h6 h7 h8 h9 h10 h11 h12 h13 h14 h15 h16 h17 h18 h19 ih
    intro j hj e1 e2 e3
    have e6 := Sum.inl.inj (Prod.mk.inj (Prod.mk.inj (Sum.inl.inj (h15.symm.trans e2))).2).2
    have es : x3.toInt = 24 - 8 * (j : Int) := by omega
    refine ih (j + 1) (by omega) (by omega) ?_ (fun b hb => (h17 b hb).trans (e3 b hb))
    rw [h18, h16, e6, nnE (show _ = ((m + j : Nat) : Int) from by rw [h10]; omega), h14, h13, Int32.toInt_inj.mp (es.trans (sh_e (show j < 4 by omega)).symm)]
    rfl
theorem wf_tr {a1 a2 : Int32} {o1 : Nat → va_E} (ha : a2.toInt = (m : Int)) (hm : m + 4 ≤ 8192) (hF : F (γ 9 31) = .inl (I .byte, 8192, .inl f)) (h : tr_RModel_word D I γ el P F q0 a1 a2 o1) : o1 (γ 9 31) = .inl (I .byte, 8192, .inl (wB a1 m 4 f)) ∧ ∀ b, b ≠ γ 9 31 → o1 b = F b := by
  refine h (fun o1 => o1 (γ 9 31) = .inl (I .byte, 8192, .inl (wB a1 m 4 f)) ∧ ∀ b, b ≠ γ 9 31 → o1 b = F b) ?_
  · intro x1 h1
    exact wf_tl ha hm h1 0 (by decide) (by decide) hF (fun _ _ => rfl)
theorem nf_tr {a1 : Int32} {o1 : Nat → va_E} (h : tr_RModel_no D I γ el F q0 a1 o1) : (∀ b, b ≠ q0 → o1 b = F b) ∧ o1 q0 = cF (F q0) 30 (.int a1) := by
  refine h (fun o1 => (∀ b, b ≠ q0 → o1 b = F b) ∧ o1 q0 = cF (F q0) 30 (.int a1)) ?_
  · intro x1 h1 h2
    exact ⟨h1, h2⟩
theorem fd_r {a1 a2 a3 a4 a5 o1 : Int32} {o2 : Nat → va_E} (hT : RS D I P F γ el) (hm : γ 0 q0 = 10) (hq : γ 9 31 ≠ q0) (hF : F (γ 9 31) = .inl (I .byte, 8192, .inl f)) (hs : (fI (F q0) 32).toInt = (m : Int)) (h : tr_RModel_feed D I γ el P F q0 a1 a2 a3 a4 a5 o1 o2) : (m + 20 ≤ 8192 ∧ o2 (γ 9 31) = .inl (I .byte, 8192, .inl (fB a1 a2 a3 a4 a5 m f))) ∨ (8192 < m + 20 ∧ o2 (γ 9 31) = F (γ 9 31)) := by
  refine h (fun _ o2 => (m + 20 ≤ 8192 ∧ o2 (γ 9 31) = .inl (I .byte, 8192, .inl (fB a1 a2 a3 a4 a5 m f))) ∨ (8192 < m + 20 ∧ o2 (γ 9 31) = F (γ 9 31))) ?_ ?_
  · intro x1 x2 x3 x4 x5 x6 x7 x8 x9 x10 x11 x12 x13 x14 x15 x16 x17 x18 x19 h1 h2 h3 h4 h5 h6 h7 h8 h9 h10 h11 h12 h13 h14 h15 h16 h17 h18 h19 h20 h21 h22 h23 h24 h25 h26 h27 h28 h29 h30 h31 h32 h33 h34 h35 h36 h37 h38 h39 h40 h41 h42 h43 h44 h45 h46 h47 h48 h49 h50 h51 h52 h53
    have e30 := cF30 (x := 0) (RS_o hT hm)
    have s0 : (fI (x1 q0) 32).toInt = (m : Int) := by rw [h2, e30.2 32 (by decide)]; exact hs
    rw [h3] at s0
    have t0 : x1 (γ 9 31) = .inl (I .byte, 8192, .inl f) := (h1 _ hq).trans hF
    have s20 : m + 20 ≤ 8192 := by have := h4; have := h5; omega
    refine Or.inl ⟨s20, ?_⟩
    have n0 : (fI (x1 q0) 32).toInt = (m : Int) := by rw [h3]; exact s0
    obtain ⟨t1, -⟩ := wf_tr (m := m) s0 (by omega) t0 h12
    have n1 := h10.trans n0
    rw [h13] at n1
    have s1 := h14
    rw [n1] at s1
    have s1 := s1.trans (show _ = ((m + 4 : Nat) : Int) by omega)
    rw [← h13] at n1
    obtain ⟨t2, -⟩ := wf_tr (m := m + 4) s1 (by omega) t1 h21
    have n2 := h19.trans n1
    rw [h22] at n2
    have s2 := h23
    rw [n2] at s2
    have s2 := s2.trans (show _ = ((m + 4 + 4 : Nat) : Int) by omega)
    rw [← h22] at n2
    obtain ⟨t3, -⟩ := wf_tr (m := m + 4 + 4) s2 (by omega) t2 h30
    have n3 := h28.trans n2
    rw [h31] at n3
    have s3 := h32
    rw [n3] at s3
    have s3 := s3.trans (show _ = ((m + 4 + 4 + 4 : Nat) : Int) by omega)
    rw [← h31] at n3
    obtain ⟨t4, -⟩ := wf_tr (m := m + 4 + 4 + 4) s3 (by omega) t3 h39
    have n4 := h37.trans n3
    rw [h40] at n4
    have s4 := h41
    rw [n4] at s4
    have s4 := s4.trans (show _ = ((m + 4 + 4 + 4 + 4 : Nat) : Int) by omega)
    rw [← h40] at n4
    obtain ⟨t5, -⟩ := wf_tr (m := m + 4 + 4 + 4 + 4) s4 (by omega) t4 h48
    have n5 := h46.trans n4
    rw [h49] at n5
    exact (h51 _ hq).trans t5
  · intro x1 x2 x3 x4 h1 h2 h3 h4 h5 h6 h7 h8 h9 h10 h11 h12
    have e30 := cF30 (x := 0) (RS_o hT hm)
    have s0 : (fI (x1 q0) 32).toInt = (m : Int) := by rw [h2, e30.2 32 (by decide)]; exact hs
    rw [h3] at s0
    exact Or.inr ⟨by omega, ((nf_tr h12).1 _ hq).trans (h1 _ hq)⟩
theorem en_r {a1 o1 : Int32} {o2 : Nat → va_E} (hq : γ 9 31 ≠ q0) (h : tr_RModel_end D I γ el P F q0 a1 o1 o2) : o2 (γ 9 31) = F (γ 9 31) := by
  refine h (fun _ o2 => o2 (γ 9 31) = F (γ 9 31)) ?_ ?_ ?_
  · intro x1 x2 h1 h2 h3 h4 h5 h6 h7 h8 h9 h10
    exact ((nf_tr h10).1 _ hq).trans (h1 _ hq)
  · intro x1 x2 x3 h1 h2 h3 h4 h5 h6 h7
    exact (h6 _ hq).trans (h1 _ hq)
  · intro x1 x2 x3 h1 h2 h3 h4 h5 h6 h7 h8 h9 h10 h11 h12
    exact ((nf_tr h12).1 _ hq).trans (h1 _ hq)
end FDR
end
section
/-! the graph of slots, the reference -/
section BK9
variable {l : Nat → Int} {op t a b f s s2 rA rB : Int32} {g : Nat → Int} {sx : Int} {S : Nat → Bool} {k n : Nat}
theorem bk_ln9 (hO : rwO2 l) (hE : rwF l op t a b rA rB s) : bkV true op.toInt t.toInt a.toInt b.toInt s.toInt rA.toInt rB.toInt S k = true ↔ usR true l k ∨ (S k = true ∧ ¬ seR true l k) := by
  obtain ⟨e1, e2, e3, e4, e5, e6⟩ := hE
  obtain ⟨o1, -⟩ := hO
  unfold bkV usR seR
  rw [if_pos rfl, if_pos rfl, if_pos rfl]
  simp only [Bool.or_eq_true, Bool.and_eq_true, decide_eq_true_eq, Bool.not_eq_true', Bool.and_eq_false_iff, decide_eq_false_iff_not]
  have h0 : l 0 ≤ 13 ∨ l 0 = 14 ∨ l 0 = 15 ∨ l 0 = 16 ∨ l 0 = 17 ∨ l 0 = 18 := by omega
  have q : (l 0 = 17 ∧ op.toInt = 21 ∧ s.toInt = l 5) ∨ (l 0 = 18 ∧ op.toInt = 23 ∧ s.toInt = l 5) ∨ (l 0 ≠ 17 ∧ l 0 ≠ 18 ∧ op.toInt ≠ 21 ∧ op.toInt ≠ 23) := by
    rcases h0 with h0 | h0 | h0 | h0 | h0 | h0
    · have := (e1 h0).1; exact Or.inr (Or.inr (by omega))
    · have := (e2 h0).1; exact Or.inr (Or.inr (by omega))
    · have := (e3 h0).1; exact Or.inr (Or.inr (by omega))
    · have := (e4 h0).1; exact Or.inr (Or.inr (by omega))
    · have := e5 h0; exact Or.inl ⟨h0, this.1, this.2.2⟩
    · have := e6 h0; exact Or.inr (Or.inl ⟨h0, this.1, this.2.2⟩)
  clear e1 e2 e3 e4 e5 e6 h0
  by_cases hp : S k = true
  · simp only [hp, true_and]; omega
  · simp only [hp, Bool.false_eq_true, false_and, false_or, or_false]; omega
theorem bk_ed9 (hG : edG (l 0) (g 0) (g 1)) (hE : edE l g op a rA f s) : bkV true op.toInt t.toInt a.toInt b.toInt sx rA.toInt rB.toInt S k = true ↔ usR true l k ∨ (S k = true ∧ ¬ seR true l k) := by
  obtain ⟨e1, e2, e3⟩ := hE
  unfold bkV usR seR
  rw [if_pos rfl, if_pos rfl, if_pos rfl]
  simp only [Bool.or_eq_true, Bool.and_eq_true, decide_eq_true_eq, Bool.not_eq_true', Bool.and_eq_false_iff, decide_eq_false_iff_not]
  have q : l 0 ≠ 17 ∧ l 0 ≠ 18 ∧ op.toInt ≠ 21 ∧ op.toInt ≠ 23 := by
    rcases hG with ⟨h0, -⟩ | ⟨h0, -⟩ | ⟨h0, -⟩
    · have := (e1 h0).1; omega
    · have := (e2 h0).1; omega
    · have := (e3 h0).1; omega
  clear e1 e2 e3 hG
  by_cases hp : S k = true
  · simp only [hp, true_and]; omega
  · simp only [hp, Bool.false_eq_true, false_and, false_or, or_false]; omega
end BK9
section TRL
variable {γ el : Nat → Nat → Nat} {F : Nat → va_E} {c i k b : Nat} {Q : gPg} {L : Nat → Nat → Bool}
theorem qrow9 (hq : rfW γ el F c Q) (hO : qOk Q) (hi : i < Q.1) {j : Nat} (hj : j < γ 2 (γ 14 (el (γ 14 c) i))) {S : Nat → Bool} : bkS (F (el (γ 14 (el (γ 14 c) i)) j)) true S k = true ↔ usR true (Q.2.2.1 i j) k ∨ (S k = true ∧ ¬ seR true (Q.2.2.1 i j) k) := by
  obtain ⟨h1, ⟨h2, h3⟩, -⟩ := qR hq hi
  exact bk_ln9 ((qB hO hi).1 j (by omega)) (h3 j (by omega))
theorem qend9 (hq : rfW γ el F c Q) (hO : qOk Q) (hi : i < Q.1) {S : Nat → Bool} : bkS (F (γ 15 (el (γ 14 c) i))) true S k = true ↔ usR true (Q.2.2.1 i (Q.2.1 i - 1)) k ∨ (S k = true ∧ ¬ seR true (Q.2.2.1 i (Q.2.1 i - 1)) k) := by
  obtain ⟨-, -, h3⟩ := qR hq hi
  exact bk_ed9 (g := Q.2.2.2 i) (qB hO hi).2.2 h3
theorem tr_so9 (hq : rfW γ el F c Q) (hO : qOk Q) (hi : i < Q.1) (hL : ∀ g, g < Q.1 → L g k = true → Lv Q true k g 0) : ∀ d, d ≤ γ 2 (γ 14 (el (γ 14 c) i)) → trS γ el F true (el (γ 14 c) i) L d k = true → Lv Q true k i (γ 2 (γ 14 (el (γ 14 c) i)) - d)
  | 0, _, h => by
    have m := qR_m hq hi
    have h2 := (qend9 hq hO hi).mp h
    rw [show Q.2.1 i - 1 = γ 2 (γ 14 (el (γ 14 c) i)) - 0 by omega] at h2
    rw [Lv_row hi (by omega)]
    refine h2.imp id (fun ⟨z1, z2⟩ => ⟨z2, ?_⟩)
    rw [show γ 2 (γ 14 (el (γ 14 c) i)) - 0 + 1 = Q.2.1 i by omega, Lv_out hi]
    exact goX_mo hL ((qbh hq hO hi).mp z1)
  | d + 1, hd, h => by
    have m := qR_m hq hi
    have h2 := (qrow9 hq hO hi (by omega)).mp h
    rw [show γ 2 (γ 14 (el (γ 14 c) i)) - 1 - d = γ 2 (γ 14 (el (γ 14 c) i)) - (d + 1) by omega] at h2
    rw [Lv_row hi (by omega)]
    refine h2.imp id (fun ⟨z1, z2⟩ => ⟨z2, ?_⟩)
    rw [show γ 2 (γ 14 (el (γ 14 c) i)) - (d + 1) + 1 = γ 2 (γ 14 (el (γ 14 c) i)) - d by omega]
    exact tr_so9 hq hO hi hL d (by omega) z1
/-- a row's place counted from the end -/
theorem trS_j9 (hq : rfW γ el F c Q) (hO : qOk Q) (hi : i < Q.1) {j : Nat} (hj : j < Q.2.1 i) : trS γ el F true (el (γ 14 c) i) L (Q.2.1 i - 1 - j) k = true ↔ usR true (Q.2.2.1 i j) k ∨ ((if j + 1 = Q.2.1 i then bhV (fI (F (γ 15 (el (γ 14 c) i))) 0).toInt (fI (F (el (γ 14 c) i)) 2).toInt (fI (F (el (γ 14 c) i)) 3).toInt L k = true else trS γ el F true (el (γ 14 c) i) L (Q.2.1 i - 1 - (j + 1)) k = true) ∧ ¬ seR true (Q.2.2.1 i j) k) := by
  have m := qR_m hq hi
  by_cases e : j + 1 = Q.2.1 i
  · rw [if_pos e, show Q.2.1 i - 1 - j = 0 by omega]
    have h2 := qend9 (k := k) hq hO hi (S := bhV (fI (F (γ 15 (el (γ 14 c) i))) 0).toInt (fI (F (el (γ 14 c) i)) 2).toInt (fI (F (el (γ 14 c) i)) 3).toInt L)
    rw [show Q.2.1 i - 1 = j by omega] at h2
    exact h2
  · rw [if_neg e, show Q.2.1 i - 1 - j = (Q.2.1 i - 1 - (j + 1)) + 1 by omega]
    have h2 := qrow9 (k := k) hq hO hi (j := γ 2 (γ 14 (el (γ 14 c) i)) - 1 - (Q.2.1 i - 1 - (j + 1))) (by omega) (S := trS γ el F true (el (γ 14 c) i) L (Q.2.1 i - 1 - (j + 1)))
    have e2 : γ 2 (γ 14 (el (γ 14 c) i)) - 1 - (Q.2.1 i - 1 - (j + 1)) = j := by omega
    have h3 : trS γ el F true (el (γ 14 c) i) L (Q.2.1 i - 1 - (j + 1) + 1) k = bkS (F (el (γ 14 (el (γ 14 c) i)) (γ 2 (γ 14 (el (γ 14 c) i)) - 1 - (Q.2.1 i - 1 - (j + 1))))) true (trS γ el F true (el (γ 14 c) i) L (Q.2.1 i - 1 - (j + 1))) k := rfl
    rw [h3, h2, e2]
/-- complete -/
theorem lv_co9 (hq : rfW γ el F c Q) (hO : qOk Q) (hL : ∀ i, i < Q.1 → trS γ el F true (el (γ 14 c) i) L (γ 2 (γ 14 (el (γ 14 c) i))) k = true → L i k = true) (h : Lv Q true k b 0) (hb : b < Q.1) : L b k = true := by
  have h0 : ∀ i, i < Q.1 → (if 0 = Q.2.1 i then bhV (fI (F (γ 15 (el (γ 14 c) i))) 0).toInt (fI (F (el (γ 14 c) i)) 2).toInt (fI (F (el (γ 14 c) i)) 3).toInt L k = true else trS γ el F true (el (γ 14 c) i) L (Q.2.1 i - 1 - 0) k = true) → L i k = true := fun i hi z => by
    have m := qR_m hq hi
    rw [if_neg (by omega), show Q.2.1 i - 1 - 0 = γ 2 (γ 14 (el (γ 14 c) i)) by omega] at z
    exact hL i hi z
  refine h0 b hb (h (fun b j => b < Q.1 → (if j = Q.2.1 b then bhV (fI (F (γ 15 (el (γ 14 c) b))) 0).toInt (fI (F (el (γ 14 c) b)) 2).toInt (fI (F (el (γ 14 c) b)) 3).toInt L k = true else trS γ el F true (el (γ 14 c) b) L (Q.2.1 b - 1 - j) k = true)) (fun b j h1 h2 h3 hb => ?_) (fun b j h1 h2 h3 h4 hb => ?_) (fun b i g h1 h2 h3 h4 h5 hb => ?_) hb)
  · rw [if_neg (by omega)]
    exact (trS_j9 hq hO hb h2).mpr (Or.inl h3)
  · rw [if_neg (by omega)]
    exact (trS_j9 hq hO hb h2).mpr (Or.inr ⟨h4 hb, h3⟩)
  · rw [if_pos rfl]
    exact (qbh hq hO hb).mpr ⟨i, g, h2, h3, h4, h0 g h4 (h5 h4)⟩
end TRL
section FLT
variable {D : va_G} {I : FieldType → ClassId} {P : List Nat} {F F1 F2 : Nat → va_E} {γ el : Nat → Nat → Nat} {q0 q1 : Nat} {Q : gPg} {a2 : Int32}
theorem fl1319 {l4 s2 s3 e1 : Int32} {c1 kx : Nat} {s1 e2 : Nat → va_E} (ha : a2.toInt = 1) (h : tl_RModel_findLive_131 D I γ el P F l4 F2 a2 c1 F1 q1 q0 s1 s2 s3 kx e1 e2) : c1 = el (γ 14 q1) l4.toInt.toNat ∧ (∀ i : Nat, i < 40 → (i : Int) ≠ l4.toInt → e2 (γ 10 i) = F2 (γ 10 i)) ∧ (∀ k, k < 2048 → lvS γ e2 l4.toInt.toNat k = trS γ el F true c1 (lvM γ F2) (γ 2 (γ 14 c1)) k) ∧ (∀ k : Nat, k < 2048 → 64 * s2.toInt ≤ (k : Int) → lvS γ s1 l4.toInt.toNat k = lvS γ F2 l4.toInt.toNat k) ∧ (e1.toInt = 0 → s3.toInt = 0 ∧ ∀ k, k < 2048 → lvS γ e2 l4.toInt.toNat k = lvS γ s1 l4.toInt.toNat k) := by
  have ed : decide (a2.toInt = 1) = true := decide_eq_true (by omega)
  refine h (fun s1 s2 s3 _ e1 e2 => c1 = el (γ 14 q1) l4.toInt.toNat ∧ (∀ i : Nat, i < 40 → (i : Int) ≠ l4.toInt → e2 (γ 10 i) = F2 (γ 10 i)) ∧ (∀ k, k < 2048 → lvS γ e2 l4.toInt.toNat k = trS γ el F true c1 (lvM γ F2) (γ 2 (γ 14 c1)) k) ∧ (∀ k : Nat, k < 2048 → 64 * s2.toInt ≤ (k : Int) → lvS γ s1 l4.toInt.toNat k = lvS γ F2 l4.toInt.toNat k) ∧ (e1.toInt = 0 → s3.toInt = 0 ∧ ∀ k, k < 2048 → lvS γ e2 l4.toInt.toNat k = lvS γ s1 l4.toInt.toNat k)) ?_ ?_ ?_ ?_
  · intro F_3 l6_3 l3_3 h1 h2 h3 h4 h5 h6 h7 h8 h9 h10 h11
    have hs : ∀ k : Nat, k < 2048 → 64 * l6_3.toInt ≤ (k : Int) → lvS γ F_3 l4.toInt.toNat k = lvS γ F2 l4.toInt.toNat k := fun k hk hk2 => by
      have z := h7 k hk
      rw [if_neg (by omega)] at z
      exact z
    refine ⟨h9, h5, fun k hk => ?_, hs, fun z => ⟨z, fun _ _ => rfl⟩⟩
    have z := h7 k hk
    rw [if_pos (by omega), ed] at z
    exact z
  · intro F_3 l6_3 l3_3 x1 x2 x3 x4 x5 x6 x7 k e1 e2 h1 h2 h3 h4 h5 h6 h7 h8 h9 h10 h11 h12 h13 h14 h15 h16 h17 h18 h19 h20 h21 h22 ih
    have hs : ∀ k : Nat, k < 2048 → 64 * l6_3.toInt ≤ (k : Int) → lvS γ F_3 l4.toInt.toNat k = lvS γ F2 l4.toInt.toNat k := fun k hk hk2 => by
      have z := h7 k hk
      rw [if_neg (by omega)] at z
      exact z
    obtain ⟨i1, i2, i3, i4, i5⟩ := ih
    exact ⟨i1, i2, i3, hs, fun z => absurd (i5 z).1 (by decide)⟩
  · intro F_3 l6_3 l3_3 x1 x2 x3 x4 x5 x6 x7 x8 k e1 e2 h1 h2 h3 h4 h5 h6 h7 h8 h9 h10 h11 h12 h13 h14 h15 h16 h17 h18 h19 h20 h21 h22 h23 h24 ih
    have hs : ∀ k : Nat, k < 2048 → 64 * l6_3.toInt ≤ (k : Int) → lvS γ F_3 l4.toInt.toNat k = lvS γ F2 l4.toInt.toNat k := fun k hk hk2 => by
      have z := h7 k hk
      rw [if_neg (by omega)] at z
      exact z
    obtain ⟨i1, i2, i3, i4, i5⟩ := ih
    refine ⟨i1, i2, i3, hs, fun z => ⟨h12, fun k hk => ?_⟩⟩
    rw [(i5 z).2 k hk]
    have e : x6 = x2 := by rw [h21, ← h20, h16]; exact updL_same
    show rbt (cL (x7 (γ 10 l4.toInt.toNat))) k = rbt (cL (F_3 (γ 10 l4.toInt.toNat))) k
    rw [← h14, cL_of h23, cL_of h15, e]
  · intro F_3 l6_3 l3_3 x1 x2 x3 x4 x5 x6 x7 x8 k e1 e2 h1 h2 h3 h4 h5 h6 h7 h8 h9 h10 h11 h12 h13 h14 h15 h16 h17 h18 h19 h20 h21 h22 h23 h24 ih
    have hs : ∀ k : Nat, k < 2048 → 64 * l6_3.toInt ≤ (k : Int) → lvS γ F_3 l4.toInt.toNat k = lvS γ F2 l4.toInt.toNat k := fun k hk hk2 => by
      have z := h7 k hk
      rw [if_neg (by omega)] at z
      exact z
    obtain ⟨i1, i2, i3, i4, i5⟩ := ih
    exact ⟨i1, i2, i3, hs, fun z => absurd (i5 z).1 (by decide)⟩
def flS9 (γ : Nat → Nat → Nat) (Q : gPg) (F : Nat → va_E) : Prop := ∀ i k, i < Q.1 → lvM γ F i k = true → Lv Q true k i 0
def flC9 (γ el : Nat → Nat → Nat) (F0 : Nat → va_E) (c : Nat) (Q : gPg) (F : Nat → va_E) : Prop := ∀ i, i < Q.1 → ∀ k, k < 2048 → trS γ el F0 true (el (γ 14 c) i) (lvM γ F) (γ 2 (γ 14 (el (γ 14 c) i))) k = true → lvM γ F i k = true
theorem fl589 {s2 s3 e1 : Int32} {kx : Nat} {s1 e2 : Nat → va_E} (ha : a2.toInt = 1) (hq : rfW γ el F q1 Q) (hO : qOk Q) (hQ4 : Q.1 ≤ 40) (hQ6 : γ 6 (γ 1 q1) = Q.1) (h : tl_RModel_findLive_58 D I γ el P F q1 a2 F1 q0 s1 s2 s3 kx e1 e2) : flS9 γ Q s1 → flS9 γ Q e2 ∧ (e1.toInt = 0 → s3.toInt = 0 ∧ (∀ i k, i < 40 → k < 2048 → lvS γ e2 i k = lvS γ s1 i k) ∧ ∀ i : Nat, (i : Int) ≤ s2.toInt → ∀ k, k < 2048 → trS γ el F true (el (γ 14 q1) i) (lvM γ s1) (γ 2 (γ 14 (el (γ 14 q1) i))) k = lvS γ s1 i k) := by
  refine h (fun s1 s2 s3 _ e1 e2 => flS9 γ Q s1 → flS9 γ Q e2 ∧ (e1.toInt = 0 → s3.toInt = 0 ∧ (∀ i k, i < 40 → k < 2048 → lvS γ e2 i k = lvS γ s1 i k) ∧ ∀ i : Nat, (i : Int) ≤ s2.toInt → ∀ k, k < 2048 → trS γ el F true (el (γ 14 q1) i) (lvM γ s1) (γ 2 (γ 14 (el (γ 14 q1) i))) k = lvS γ s1 i k)) ?_ ?_
  · intro F_2 l4_2 l3_2 h1 h2 h3 h4 h5 h6 h7 h8 h9
    intro hS
    exact ⟨hS, fun z => ⟨z, fun _ _ _ _ => rfl, fun i hi => by omega⟩⟩
  · intro F_2 l4_2 l3_2 x1 x2 x3 x4 x5 x6 x7 x8 x9 x10 x11 x12 x13 k e1 e2 h1 h2 h3 h4 h5 h6 h7 h8 h9 h10 h11 h12 h13 h14 h15 h16 h17 h18 h19 h20 h21 h22 h23 h24 h25 h26 h27 h28 h29 h30 h31 h32 h33 ih
    intro hS
    obtain ⟨f1, f2, f3, f4, f5⟩ := fl1319 ha h32
    rw [show Int32.toInt 0 = 0 from by decide] at f4
    have hlt : l4_2.toInt.toNat < Q.1 := by omega
    have f6 : ∀ k, k < 2048 → lvS γ x10 l4_2.toInt.toNat k = lvS γ F_2 l4_2.toInt.toNat k := fun k hk => f4 k hk (by omega)
    have ho : ∀ i k, i < 40 → i ≠ l4_2.toInt.toNat → lvS γ x12 i k = lvS γ F_2 i k := fun i k hi hne => by
      unfold lvS
      rw [f2 i hi (by omega)]
    have hS2 : flS9 γ Q x12 := fun i k hi hk => by
      obtain ⟨k1, k2, k3⟩ := lvM_t hk
      by_cases e : i = l4_2.toInt.toNat
      · rw [e, f3 k k2, f1] at k3
        have z := tr_so9 hq hO hlt (fun g hg hL => hS g k hg hL) _ (Nat.le_refl _) k3
        rw [Nat.sub_self] at z
        rw [e]
        exact z
      · refine hS i k hi ?_
        rw [lvM_e k1 k2, ← ho i k k1 e]
        exact k3
    obtain ⟨g1, g2⟩ := ih hS2
    refine ⟨g1, fun z => ?_⟩
    obtain ⟨g3, g4, g5⟩ := g2 z
    obtain ⟨f7, f8⟩ := f5 g3
    have hal : ∀ i k, i < 40 → k < 2048 → lvS γ x12 i k = lvS γ F_2 i k := fun i k hi hk => by
      by_cases e : i = l4_2.toInt.toNat
      · rw [e, f8 k hk, f6 k hk]
      · exact ho i k hi e
    have hM : lvM γ x12 = lvM γ F_2 := by
      funext i k
      unfold lvM
      by_cases hd : i < 40 ∧ k < 2048
      · rw [hal i k hd.1 hd.2]
      · rw [decide_eq_false hd]
        rfl
    refine ⟨f7, fun i k hi hk => by rw [g4 i k hi hk, hal i k hi hk], fun i hi k hk => ?_⟩
    by_cases e : i = l4_2.toInt.toNat
    · have z3 := f3 k hk
      rw [f1] at z3
      rw [e, ← z3, hal _ k (by omega) hk]
    · have z := g5 i (by omega) k hk
      rw [hM] at z
      rw [z, hal i k (by omega) hk]
theorem fl449 {s2 : Int32} {kx : Nat} {s1 e1 : Nat → va_E} (ha : a2.toInt = 1) (hq : rfW γ el F q1 Q) (hO : qOk Q) (hQ4 : Q.1 ≤ 40) (hQ6 : γ 6 (γ 1 q1) = Q.1) (hF : ∀ F1, rStr γ [] F F1 → F1 q1 = F q1) (h : tl_RModel_findLive_44 D I γ el P F q1 a2 q0 s1 s2 kx e1) : flS9 γ Q s1 → (s2.toInt = 0 → flC9 γ el F q1 Q s1) → flS9 γ Q e1 ∧ flC9 γ el F q1 Q e1 := by
  refine h (fun s1 s2 _ e1 => flS9 γ Q s1 → (s2.toInt = 0 → flC9 γ el F q1 Q s1) → flS9 γ Q e1 ∧ flC9 γ el F q1 Q e1) ?_ ?_
  · intro F_1 l3_1 h1 h2 h3 h4 h5 h6
    intro hS hC
    exact ⟨hS, hC h6⟩
  · intro F_1 l3_1 x1 x2 x3 x4 k e1 h1 h2 h3 h4 h5 h6 h7 h8 h9 ih
    intro hS hC
    have e1 : x1.toInt = (Q.1 : Int) := by
      rw [← h7, hF _ h3]
      exact hq.1
    obtain ⟨g1, g2⟩ := fl589 ha hq hO hQ4 hQ6 h9 hS
    refine ih g1 (fun z => ?_)
    obtain ⟨-, g4, g5⟩ := g2 z
    have hM : lvM γ x4 = lvM γ F_1 := by
      funext i k
      unfold lvM
      by_cases hd : i < 40 ∧ k < 2048
      · rw [g4 i k hd.1 hd.2]
      · rw [decide_eq_false hd]
        rfl
    intro i hi k hk hz
    rw [hM, g5 i (by omega) k hk] at hz
    rw [hM, lvM_e (by omega) hk]
    exact hz
theorem fl_tr9 (ha : a2.toInt = 1) (hq : rfW γ el F q1 Q) (hO : qOk Q) (hQ4 : Q.1 ≤ 40) (hQ6 : γ 6 (γ 1 q1) = Q.1) (hF : ∀ F1, rStr γ [] F F1 → F1 q1 = F q1) (h : tr_RModel_findLive D I γ el P F q0 q1 a2 F1) : ∀ i k, i < Q.1 → k < 2048 → (lvS γ F1 i k = true ↔ Lv Q true k i 0) := by
  refine h (fun F1 => ∀ i k, i < Q.1 → k < 2048 → (lvS γ F1 i k = true ↔ Lv Q true k i 0)) ?_
  · intro x1 x2 h1 h2
    have z := fl2 hq hF h1
    obtain ⟨g1, g2⟩ := fl449 ha hq hO hQ4 hQ6 hF h2 (fun i k hi hk => by
      obtain ⟨k1, k2, k3⟩ := lvM_t hk
      unfold lvS at k3
      rw [rbt_z (z i hi (k / 64) (by omega))] at k3
      cases k3) (fun e => absurd e (by decide))
    intro i k hi hk
    constructor
    · intro w
      exact g1 i k hi (by rw [lvM_e (by omega) hk]; exact w)
    · intro w
      have w2 := lv_co9 (L := lvM γ x2) hq hO (fun i hi => g2 i hi k hk) w hi
      rw [lvM_e (by omega) hk] at w2
      exact w2
end FLT
section GS9
variable {D : va_G} {I : FieldType → ClassId} {P : List Nat} {F F1 : Nat → va_E} {γ el : Nat → Nat → Nat} {q0 q1 : Nat} {Q : gPg} {a2 op t s r : Int32}
theorem sO9 (ha : a2.toInt = 1) (h : tr_RModel_setOf a2 op t s r) : (op.toInt = 23 ∧ r.toInt = s.toInt) ∨ (op.toInt ≠ 23 ∧ r.toInt = -1) := by
  refine h (fun r => (op.toInt = 23 ∧ r.toInt = s.toInt) ∨ (op.toInt ≠ 23 ∧ r.toInt = -1)) ?_ ?_ ?_ ?_
  · intro x1 h1 h2 h3 h4
    omega
  · intro x1 h1 h2 h3 h4
    omega
  · intro h1 h2
    exact Or.inr ⟨h2, by decide⟩
  · intro h1 h2
    exact Or.inl ⟨h2, rfl⟩
theorem sO92 (ha : a2.toInt = 1) (h : tr_RModel_setOf2 a2 op t s r) : (op.toInt = 23 ∧ r.toInt = s.toInt) ∨ (op.toInt ≠ 23 ∧ r.toInt = -1) := by
  refine h (fun r => (op.toInt = 23 ∧ r.toInt = s.toInt) ∨ (op.toInt ≠ 23 ∧ r.toInt = -1)) ?_ ?_ ?_ ?_
  · intro x1 h1 h2 h3 h4
    omega
  · intro x1 h1 h2 h3 h4
    omega
  · intro h1 h2
    exact Or.inr ⟨h2, by decide⟩
  · intro h1 h2
    exact Or.inl ⟨h2, rfl⟩
theorem bk_n9 {op t a b s ra rb : Int} {S : Nat → Bool} {k : Nat} {x : Bool} (c1 ca : Bool) (h1 : decide (op = 23) = c1) (ha : decide (op = 21) = ca) (hx : x = ((S k && !(c1 && decide ((k : Int) = s))) || (ca && decide ((k : Int) = s)))) : x = bkV true op t a b s ra rb S k := by
  unfold bkV
  rw [if_pos rfl, h1, ha]
  exact hx
theorem bk39 (hT : RS D I P F γ el) (hm : γ 0 q0 = 10) (hk : γ 0 q1 = 1) (ha : a2.toInt = 1) (h : tr_RModel_back3 D I γ el P F q0 q1 a2 F1) : (∀ k : Nat, nwL γ F1 k = bkS (F q1) true (nwL γ F) k) ∧ ∀ b, b ∈ P → b ≠ γ 9 2 → F1 b = F b := by
  have k92 := (md_kd hT hm).2.2.1
  have k92' : γ 0 (γ 9 2) = 35 := k92
  obtain ⟨op, t, a, b, s, ra, rb, he, v1, v2, v3, v4, v5, v6, v7, v8, v9, v10⟩ := show rk_1 γ q1 (F q1) from RS_o hT hk
  have m1 : q1 ∈ P := hT.1 q1 (by omega)
  have n1 : q1 ≠ γ 9 2 := fun e => by rw [e, k92] at hk; cases hk
  refine h (fun F1 => (∀ k : Nat, nwL γ F1 k = bkS (F q1) true (nwL γ F) k) ∧ ∀ b, b ∈ P → b ≠ γ 9 2 → F1 b = F b) ?_ ?_ ?_ ?_ ?_ ?_ ?_ ?_ ?_ ?_ ?_ ?_
  · intro x1 x2 x3 x4 x5 x6 x7 x8 h1 h2 h3 h4 h5 h6 h7 h8 h9 h10 h11 h12 h13 h14 h15
    omega
  · intro x1 x2 x3 x4 x5 x6 x7 x8 x9 x10 x11 x12 h1 h2 h3 h4 h5 h6 h7 h8 h9 h10 h11 h12 h13 h14 h15 h16 h17 h18 h19 h20 h21 h22
    omega
  · intro x1 x2 x3 x4 x5 x6 x7 x8 x9 x10 x11 x12 h1 h2 h3 h4 h5 h6 h7 h8 h9 h10 h11 h12 h13 h14 h15 h16 h17 h18 h19 h20 h21 h22 h23
    omega
  · intro x1 x2 x3 x4 x5 x6 x7 x8 x9 x10 x11 x12 x13 x14 x15 h1 h2 h3 h4 h5 h6 h7 h8 h9 h10 h11 h12 h13 h14 h15 h16 h17 h18 h19 h20 h21 h22 h23 h24 h25 h26 h27 h28 h29 h30
    omega
  · intro x1 x2 x3 x4 h1 h2 h3 h4 h5 h6 h7 h8
    have e1 : x1 = op := by rw [← h1, he]; rfl
    have e2 : x2 = t := by rw [← h2, he]; rfl
    have e3 : x3 = s := by rw [← h3, he]; rfl
    have qs := sO9 ha h5
    try rw [e1] at qs
    try rw [e2] at qs
    try rw [e3] at qs
    rw [e1] at h8
    have s0 : 0 ≤ s.toInt := v3.1
    refine ⟨fun k => ?_, fun b0 hb hne => ?_⟩
    · rw [bkS_of he]
      refine bk_n9 false false (decide_eq_false (by omega)) (decide_eq_false (by omega)) ?_
      simp only [Bool.false_and, Bool.not_false, Bool.and_true, Bool.or_false]
    · exact rfl
  · intro x1 x2 x3 x4 x5 x6 x7 h1 h2 h3 h4 h5 h6 h7 h8 h9 h10 h11 h12 h13 h14
    have e1 : x1 = op := by rw [← h1, he]; rfl
    have e2 : x2 = t := by rw [← h2, he]; rfl
    have e3 : x3 = s := by rw [← h3, he]; rfl
    have fx7 : x7 q1 = F q1 := (h12 q1 m1 (nm_c n1 nm_n))
    have qs := sO9 ha h5
    try rw [e1] at qs
    try rw [e2] at qs
    try rw [e3] at qs
    rw [e1] at h8
    have s0 : 0 ≤ s.toInt := v3.1
    refine ⟨fun k => ?_, fun b0 hb hne => ?_⟩
    · rw [bkS_of he]
      refine bk_n9 false true (decide_eq_false (by omega)) (decide_eq_true (by omega)) ?_
      unfold nwL
      rw [cL_of h13, cL_of h10]
      rw [se_tr h11 (by rw [e3]; exact s0) k, e3]
      simp only [Bool.false_and, Bool.true_and, Bool.not_false, Bool.and_true, Bool.or_false]
    · exact (h12 b0 hb (nm_c hne nm_n)).trans (rfl)
  · intro x1 x2 x3 x4 x5 x6 x7 x8 x9 x10 x11 h1 h2 h3 h4 h5 h6 h7 h8 h9 h10 h11 h12 h13 h14 h15 h16 h17 h18 h19 h20 h21 h22
    omega
  · intro x1 x2 x3 x4 x5 x6 x7 x8 x9 x10 x11 x12 x13 x14 h1 h2 h3 h4 h5 h6 h7 h8 h9 h10 h11 h12 h13 h14 h15 h16 h17 h18 h19 h20 h21 h22 h23 h24 h25 h26 h27 h28 h29
    omega
  · intro x1 x2 x3 x4 x5 x6 x7 x8 x9 x10 x11 x12 x13 x14 h1 h2 h3 h4 h5 h6 h7 h8 h9 h10 h11 h12 h13 h14 h15 h16 h17 h18 h19 h20 h21 h22 h23 h24 h25 h26 h27 h28 h29 h30
    omega
  · intro x1 x2 x3 x4 x5 x6 x7 x8 x9 x10 x11 x12 x13 x14 x15 x16 x17 h1 h2 h3 h4 h5 h6 h7 h8 h9 h10 h11 h12 h13 h14 h15 h16 h17 h18 h19 h20 h21 h22 h23 h24 h25 h26 h27 h28 h29 h30 h31 h32 h33 h34 h35 h36 h37
    omega
  · intro x1 x2 x3 x4 x5 x6 x7 h1 h2 h3 h4 h5 h6 h7 h8 h9 h10 h11 h12 h13 h14 h15
    have e1 : x1 = op := by rw [← h1, he]; rfl
    have e2 : x2 = t := by rw [← h2, he]; rfl
    have e3 : x3 = s := by rw [← h3, he]; rfl
    have fx7 : x7 q1 = F q1 := (h10 q1 m1 (nm_c n1 nm_n))
    have qs := sO9 ha h5
    try rw [e1] at qs
    try rw [e2] at qs
    try rw [e3] at qs
    rw [e1] at h15
    have s0 : 0 ≤ s.toInt := v3.1
    refine ⟨fun k => ?_, fun b0 hb hne => ?_⟩
    · rw [bkS_of he]
      refine bk_n9 true false (decide_eq_true (by omega)) (decide_eq_false (by omega)) ?_
      unfold nwL
      rw [cL_of h11, cL_of h8]
      rw [cl_tr h9 (by omega) k]
      rw [show x4.toInt = s.toInt by omega]
      simp only [Bool.false_and, Bool.true_and, Bool.not_false, Bool.and_true, Bool.or_false]
    · exact (h10 b0 hb (nm_c hne nm_n)).trans (rfl)
  · intro x1 x2 x3 x4 x5 x6 x7 x8 x9 h1 h2 h3 h4 h5 h6 h7 h8 h9 h10 h11 h12 h13 h14 h15 h16 h17 h18 h19 h20 h21 h22
    have e1 : x1 = op := by rw [← h1, he]; rfl
    have e2 : x2 = t := by rw [← h2, he]; rfl
    have e3 : x3 = s := by rw [← h3, he]; rfl
    have fx7 : x7 q1 = F q1 := (h10 q1 m1 (nm_c n1 nm_n))
    have fx9 : x9 q1 = F q1 := (h20 q1 m1 (nm_c n1 nm_n)).trans fx7
    have qs := sO9 ha h5
    try rw [e1] at qs
    try rw [e2] at qs
    try rw [e3] at qs
    rw [e1] at h15
    have s0 : 0 ≤ s.toInt := v3.1
    refine ⟨fun k => ?_, fun b0 hb hne => ?_⟩
    · rw [bkS_of he]
      refine bk_n9 true true (decide_eq_true (by omega)) (decide_eq_true (by omega)) ?_
      unfold nwL
      rw [cL_of h21, cL_of h8]
      rw [se_tr h19 (by rw [e3]; exact s0) k, e3]
      rw [cl_tr h9 (by omega) k]
      rw [show x4.toInt = s.toInt by omega]
      simp only [Bool.false_and, Bool.true_and, Bool.not_false, Bool.and_true, Bool.or_false]
    · exact (h20 b0 hb (nm_c hne nm_n)).trans ((h10 b0 hb (nm_c hne nm_n)).trans (rfl))
theorem rs_b9 (hT : RS D I P F γ el) (hk : γ 0 q1 = 1) : 0 ≤ (fI (F q1) 4).toInt ∧ (fI (F q1) 4).toInt ≤ 1999 := by
  obtain ⟨op, t, a, b, s, ra, rb, he, v1, v2, v3, -⟩ := show rk_1 γ q1 (F q1) from RS_o hT hk
  rw [he]
  exact v3
theorem std9 (hs : 0 ≤ (fI (F q1) 4).toInt ∧ (fI (F q1) 4).toInt ≤ 1999) (ha : a2.toInt = 1) (h : tr_RModel_stand2 D I γ el F q0 q1 a2 F1) : (∀ v, rSd (cB (F (γ 9 3))) v → rSd (cB (F1 (γ 9 3))) v) ∧ (∀ v : Nat, v < 2000 → ((fI (F q1) 0).toInt = 21 ∨ (fI (F q1) 0).toInt = 23) → (fI (F q1) 4).toInt = (v : Int) → rSd (cB (F1 (γ 9 3))) v) := by
  refine h (fun F1 => (∀ v, rSd (cB (F (γ 9 3))) v → rSd (cB (F1 (γ 9 3))) v) ∧ (∀ v : Nat, v < 2000 → ((fI (F q1) 0).toInt = 21 ∨ (fI (F q1) 0).toInt = 23) → (fI (F q1) 4).toInt = (v : Int) → rSd (cB (F1 (γ 9 3))) v)) ?_ ?_ ?_ ?_ ?_ ?_ ?_ ?_ ?_ ?_ ?_ ?_
  · intro x1 x2 x3 x4 x5 x6 x7 x8 h1 h2 h3 h4 h5 h6 h7 h8 h9 h10 h11 h12 h13 h14 h15
    omega
  · intro x1 x2 x3 x4 x5 x6 x7 x8 x9 x10 x11 x12 h1 h2 h3 h4 h5 h6 h7 h8 h9 h10 h11 h12 h13 h14 h15 h16 h17 h18 h19 h20 h21
    omega
  · intro x1 x2 x3 x4 x5 x6 x7 x8 x9 x10 x11 x12 h1 h2 h3 h4 h5 h6 h7 h8 h9 h10 h11 h12 h13 h14 h15 h16 h17 h18 h19 h20 h21 h22
    omega
  · intro x1 x2 x3 x4 x5 x6 x7 x8 x9 x10 x11 x12 x13 x14 x15 h1 h2 h3 h4 h5 h6 h7 h8 h9 h10 h11 h12 h13 h14 h15 h16 h17 h18 h19 h20 h21 h22 h23 h24 h25 h26 h27 h28
    omega
  · intro x1 x2 x3 x4 h1 h2 h3 h4 h5 h6 h7 h8
    have qs := sO92 ha h5
    have b3 := hs
    rw [h3] at b3
    exact ⟨fun v z => z, fun v hv z1 z2 => by rw [h1] at z1; rw [h3] at z2; omega⟩
  · intro x1 x2 x3 x4 x5 x6 x7 h1 h2 h3 h4 h5 h6 h7 h8 h9 h10 h11 h12 h13
    have qs := sO92 ha h5
    have b3 := hs
    rw [h3] at b3
    rw [cB_of h10, cB_of h13, h1, h3]
    have u0 := sd_u h11 b3.1 (by have := b3.2; omega)
    refine ⟨fun v z => (u0 v).mpr (Or.inl z), fun v hv z1 z2 => (u0 v).mpr (Or.inr ?_)⟩
    omega
  · intro x1 x2 x3 x4 x5 x6 x7 x8 x9 x10 x11 h1 h2 h3 h4 h5 h6 h7 h8 h9 h10 h11 h12 h13 h14 h15 h16 h17 h18 h19 h20 h21
    omega
  · intro x1 x2 x3 x4 x5 x6 x7 x8 x9 x10 x11 x12 x13 x14 h1 h2 h3 h4 h5 h6 h7 h8 h9 h10 h11 h12 h13 h14 h15 h16 h17 h18 h19 h20 h21 h22 h23 h24 h25 h26 h27
    omega
  · intro x1 x2 x3 x4 x5 x6 x7 x8 x9 x10 x11 x12 x13 x14 h1 h2 h3 h4 h5 h6 h7 h8 h9 h10 h11 h12 h13 h14 h15 h16 h17 h18 h19 h20 h21 h22 h23 h24 h25 h26 h27 h28
    omega
  · intro x1 x2 x3 x4 x5 x6 x7 x8 x9 x10 x11 x12 x13 x14 x15 x16 x17 h1 h2 h3 h4 h5 h6 h7 h8 h9 h10 h11 h12 h13 h14 h15 h16 h17 h18 h19 h20 h21 h22 h23 h24 h25 h26 h27 h28 h29 h30 h31 h32 h33 h34
    omega
  · intro x1 x2 x3 x4 x5 x6 x7 h1 h2 h3 h4 h5 h6 h7 h8 h9 h10 h11 h12 h13 h14
    have qs := sO92 ha h5
    have b3 := hs
    rw [h3] at b3
    rw [cB_of h8, cB_of h11, h1, h3]
    have u0 := sd_u h9 (by omega) (by omega)
    refine ⟨fun v z => (u0 v).mpr (Or.inl z), fun v hv z1 z2 => (u0 v).mpr (Or.inr ?_)⟩
    omega
  · intro x1 x2 x3 x4 x5 x6 x7 x8 x9 h1 h2 h3 h4 h5 h6 h7 h8 h9 h10 h11 h12 h13 h14 h15 h16 h17 h18 h19 h20
    have qs := sO92 ha h5
    have b3 := hs
    rw [h3] at b3
    rw [cB_of h8, cB_of h20, h1, h3]
    have u0 := sd_u h9 (by omega) (by omega)
    have u1 := sd_u h18 b3.1 (by have := b3.2; omega)
    refine ⟨fun v z => (u1 v).mpr (Or.inl ((u0 v).mpr (Or.inl z))), fun v hv z1 z2 => (u1 v).mpr (Or.inr ?_)⟩
    omega
def jd9 (Q : gPg) (b j n k : Nat) : Prop := seR true (Q.2.2.1 b j) n ∧ Lv Q true k b (j + 1) ∧ k ≠ n
def gMo9 (γ : Nat → Nat → Nat) (Q : gPg) (i : Nat) (s1 : Nat → va_E) (s2 : Int) (e1 : Nat → va_E) : Prop :=
  ((∀ k, k < 2048 → (nwL γ s1 k = true ↔ Lv Q true k i (s2 + 1).toNat)) → (∀ n, n < 2000 → egS γ s1 n n = false) → (∀ j k, j < 40 → lvS γ e1 j k = lvS γ s1 j k) ∧ (∀ n k, n < 2000 → k < 2048 → (egS γ e1 n k = true ↔ egS γ s1 n k = true ∨ ∃ j : Nat, (j : Int) ≤ s2 ∧ jd9 Q i j n k))) ∧
  (∀ v, rSd (cB (s1 (γ 9 3))) v → rSd (cB (e1 (γ 9 3))) v) ∧ ∀ j : Nat, (j : Int) ≤ s2 → ∀ v, v < 2000 → usR true (Q.2.2.1 i j) v ∨ seR true (Q.2.2.1 i j) v → rSd (cB (e1 (γ 9 3))) v
theorem us_17 {l : Nat → Int} {op t a b rA rB s : Int32} {v : Nat} (hE : rwF l op t a b rA rB s) (h : usR true l v ∨ seR true l v) : (op.toInt = 21 ∨ op.toInt = 23) ∧ s.toInt = (v : Int) := by
  unfold usR seR at h
  rw [if_pos rfl, if_pos rfl] at h
  obtain ⟨-, -, -, -, e5, e6⟩ := hE
  rcases h with h | h
  · have := e5 h.1; omega
  · have := e6 h.1; omega
theorem se_18 {l : Nat → Int} {op t a b rA rB s : Int32} {v : Nat} (hO : rwO2 l) (hE : rwF l op t a b rA rB s) : seR true l v ↔ op.toInt = 23 ∧ s.toInt = (v : Int) := by
  unfold seR
  rw [if_pos rfl]
  obtain ⟨e1, e2, e3, e4, e5, e6⟩ := hE
  have o1 := hO.1
  constructor
  · intro h
    have := e6 h.1; omega
  · rintro ⟨h1, h2⟩
    have h0 : l 0 ≤ 13 ∨ l 0 = 14 ∨ l 0 = 15 ∨ l 0 = 16 ∨ l 0 = 17 ∨ l 0 = 18 := by omega
    rcases h0 with h0 | h0 | h0 | h0 | h0 | h0
    · have := (e1 h0).1; omega
    · have := (e2 h0).1; omega
    · have := (e3 h0).1; omega
    · have := (e4 h0).1; omega
    · have := (e5 h0).1; omega
    · have := (e6 h0).2.2; exact ⟨h0, by omega⟩
theorem g109_9 {F2 F4 Fe Fb e1 : Nat → va_E} {i x2 : Nat} {l5 x10 : Int32} (hT : RS D I P F γ el) (hm : γ 0 q0 = 10) (hq : rfW γ el F q1 Q) (hO : qOk Q) (hi : i < Q.1) (h0 : 0 ≤ l5.toInt) (hlt : l5.toInt < (γ 2 (γ 14 (el (γ 14 q1) i)) : Int)) (hx2 : x2 = el (γ 14 (el (γ 14 q1) i)) l5.toInt.toNat) (hr : Fe x2 = F x2) (hr2 : F2 x2 = F x2)
    (hst : ∀ b, b ≠ γ 9 3 → F4 b = F2 b) (hsd : (∀ v, rSd (cB (F2 (γ 9 3))) v → rSd (cB (F4 (γ 9 3))) v) ∧ (∀ v : Nat, v < 2000 → ((fI (F2 x2) 0).toInt = 21 ∨ (fI (F2 x2) 0).toInt = 23) → (fI (F2 x2) 4).toInt = (v : Int) → rSd (cB (F4 (γ 9 3))) v)) (h93 : Fb (γ 9 3) = F4 (γ 9 3))
    (hed : (∀ n k, n < 2000 → egS γ F2 n n = false → k < 2048 → (egS γ Fe n k = true ↔ egS γ F4 n k = true ∨ (seR true (Q.2.2.1 i l5.toInt.toNat) n ∧ nwL γ F4 k = true ∧ k ≠ n))) ∧ (∀ k, nwL γ Fe k = nwL γ F4 k) ∧ ∀ i k, i < 40 → lvS γ Fe i k = lvS γ F4 i k)
    (hbk : (∀ k : Nat, nwL γ Fb k = bkS (Fe x2) true (nwL γ Fe) k) ∧ ∀ b, b ∈ P → b ≠ γ 9 2 → Fb b = Fe b) (hx10 : x10.toInt = l5.toInt + (-1)) (ih : gMo9 γ Q i Fb x10.toInt e1) : gMo9 γ Q i F2 l5.toInt e1 := by
  obtain ⟨ih, ihs, ihu⟩ := ih
  have m := qR_m hq hi
  refine ⟨?_, fun v z => ihs v (by rw [h93]; exact hsd.1 v z), fun j hj v hv hu => ?_⟩
  · intro hN hS
    obtain ⟨s1, s2, s3⟩ := st_v hT hm hst
    obtain ⟨e1', e2, e3⟩ := hed
    obtain ⟨b1, b2⟩ := hbk
    obtain ⟨v1, v2⟩ := bk_v hT hm b2
    have hj : l5.toInt.toNat < Q.2.1 i := by omega
    have eN : (l5.toInt + 1).toNat = l5.toInt.toNat + 1 := by omega
    rw [eN] at hN
    have hE : ∀ n k, n < 2000 → k < 2048 → (egS γ Fb n k = true ↔ egS γ F2 n k = true ∨ jd9 Q i l5.toInt.toNat n k) := fun n k hn hk => by
      rw [v1 n k hn, e1' n k hn (hS n hn) hk, s1 n k hn, s2 k, hN k hk]
      exact Iff.rfl
    obtain ⟨i1, i2⟩ := ih (fun k hk => by
      rw [b1 k, hr, hx2, qrow9 hq hO hi (by omega), e2 k, s2 k, hN k hk, show (x10.toInt + 1).toNat = l5.toInt.toNat by omega, Lv_row hi hj]
      exact or_congr_right ⟨fun z => ⟨z.2, z.1⟩, fun z => ⟨z.2, z.1⟩⟩) (fun n hn => by
      rw [← Bool.not_eq_true, hE n n hn (by omega)]
      rintro (z | z)
      · rw [hS n hn] at z; cases z
      · exact z.2.2 rfl)
    refine ⟨fun j k hj => by rw [i1 j k hj, v2 j k hj, e3 j k hj, s3 j k hj], fun n k hn hk => ?_⟩
    rw [i2 n k hn hk, hE n k hn hk]
    constructor
    · rintro ((z | z) | ⟨j, w1, w2⟩)
      · exact Or.inl z
      · exact Or.inr ⟨_, by omega, z⟩
      · exact Or.inr ⟨j, by omega, w2⟩
    · rintro (z | ⟨j, w1, w2⟩)
      · exact Or.inl (Or.inl z)
      · by_cases e : (j : Int) = l5.toInt
        · exact Or.inl (Or.inr (by rw [show l5.toInt.toNat = j by omega]; exact w2))
        · exact Or.inr ⟨j, by omega, w2⟩
  · by_cases e : (j : Int) = l5.toInt
    · refine ihs v ?_
      rw [h93]
      have ej : l5.toInt.toNat = j := by omega
      rw [ej] at hx2
      obtain ⟨-, ⟨rl1, rl2⟩, -⟩ := qR hq hi
      have q := us_17 (rl2 j (by omega)) hu
      rw [← hx2] at q
      exact hsd.2 v hv (by rw [hr2]; exact q.1) (by rw [hr2]; exact q.2)
    · exact ihu j (by omega) v hv hu
theorem g1099 {i c1 kx : Nat} {s1 e1 : Nat → va_E} {l3 s2 : Int32} (hT : RS D I P F γ el) (hm : γ 0 q0 = 10) (hq : rfW γ el F q1 Q) (hO : qOk Q) (hi : i < Q.1) (hB : γ 0 (el (γ 14 q1) i) = 2) (hc1 : c1 = el (γ 14 q1) i) (ha : a2.toInt = 1) (h : tl_RModel_graph_109 D I γ el P F c1 a2 q1 l3 q0 s1 s2 kx e1) : gMo9 γ Q i s1 s2.toInt e1 := by
  obtain ⟨k0, k1, k2, k3⟩ := md_kd hT hm
  obtain ⟨l, nn, p, s, v1, ⟨g1, g2, g3⟩, v3, v4, v5, -⟩ := show rk_2 γ (el (γ 14 q1) i) (F (el (γ 14 q1) i)) from RS_o hT hB
  have kl := (show rk_3 D I γ el F l from RS_o hT v3).2
  have m := qR_m hq hi
  obtain ⟨-, ⟨rl1, rl2⟩, -⟩ := qR hq hi
  subst hc1
  refine h (fun s1 s2 _ e1 => gMo9 γ Q i s1 s2.toInt e1) ?_ ?_ ?_ ?_ ?_ ?_ ?_ ?_ ?_ ?_ ?_
  · intro F_2 l5_2 h1 h2 h3 h4 h5 h6 h7
    refine ⟨?_, fun v z => z, fun j hj => absurd hj (by have := h7; omega)⟩
    intro hN hS
    exact ⟨fun _ _ _ => rfl, fun n k hn hk => ⟨Or.inl, fun z => z.elim id (fun ⟨j, w1, w2⟩ => absurd w1 (by have := h7; omega))⟩⟩
  · intro F_2 l5_2 x1 x2 x3 x4 x5 x6 x7 x8 x9 x10 k e1 h1 h2 h3 h4 h5 h6 h7 h8 h9 h10 h11 h12 h13 h14 h15 h16 h17 h18 h19 h20 h21 h22 h23 h24 h25 h26 h27 h28 h29 ih
    have hF2 := h3
    have ex1 : x1 = l := by rw [← h8, rs0 hF2 hB (by decide), v1]; rfl
    have eL : γ 14 (el (γ 14 q1) i) = l := g1
    have h50 := h7
    have hlt := h4
    have ex2 : x2 = el (γ 14 (el (γ 14 q1) i)) l5_2.toInt.toNat := by rw [h9, ex1, eL]
    have kx2 : γ 0 x2 = 1 := by rw [ex2, eL]; exact (kl _ (by rw [eL] at hlt; omega)).1
    have er2 : F_2 x2 = F x2 := rs0 hF2 kx2 (by decide)
    have hst := st2 h16
    have hsd := std9 (by rw [er2]; exact rs_b9 hT kx2) ha h16
    have er4 : x4 x2 = F x2 := (hst _ (fun e => by rw [e, k3] at kx2; cases kx2)).trans er2
    have rw4 := rl2 l5_2.toInt.toNat (by omega)
    rw [← ex2] at rw4
    have wO := (qB hO hi).1 l5_2.toInt.toNat (by omega)
    have qs := sO9 ha h21
    rw [← h17, ← h19, er4] at qs
    have se := fun v => se_18 (v := v) wO rw4
    refine g109_9 (Fe := x4) hT hm hq hO hi h50 (by omega) ex2 er4 er2 hst hsd h27 ⟨fun n k hn hnn hk => ⟨Or.inl, fun z => z.elim id (fun w => ?_)⟩, fun _ => rfl, fun _ _ _ => rfl⟩ (bk39 h12 hm kx2 ha h28) h29 ih
    have z1 := (se n).mp w.1
    omega
  · intro F_2 l5_2 x1 x2 x3 x4 x5 x6 x7 x8 x9 x10 x11 x12 x13 x14 x15 k e1 h1 h2 h3 h4 h5 h6 h7 h8 h9 h10 h11 h12 h13 h14 h15 h16 h17 h18 h19 h20 h21 h22 h23 h24 h25 h26 h27 h28 h29 h30 h31 h32 h33 h34 h35 h36 h37 ih
    have hF2 := h3
    have ex1 : x1 = l := by rw [← h8, rs0 hF2 hB (by decide), v1]; rfl
    have eL : γ 14 (el (γ 14 q1) i) = l := g1
    have h50 := h7
    have hlt := h4
    have ex2 : x2 = el (γ 14 (el (γ 14 q1) i)) l5_2.toInt.toNat := by rw [h9, ex1, eL]
    have kx2 : γ 0 x2 = 1 := by rw [ex2, eL]; exact (kl _ (by rw [eL] at hlt; omega)).1
    have er2 : F_2 x2 = F x2 := rs0 hF2 kx2 (by decide)
    have hst := st2 h16
    have hsd := std9 (by rw [er2]; exact rs_b9 hT kx2) ha h16
    have er4 : x4 x2 = F x2 := (hst _ (fun e => by rw [e, k3] at kx2; cases kx2)).trans er2
    have rw4 := rl2 l5_2.toInt.toNat (by omega)
    rw [← ex2] at rw4
    have wO := (qB hO hi).1 l5_2.toInt.toNat (by omega)
    have qs := sO9 ha h21
    rw [← h17, ← h19, er4] at qs
    have se := fun v => se_18 (v := v) wO rw4
    have b8 : 0 ≤ x8.toInt ∧ x8.toInt < 2000 := by have z := h20; have z1 := z.2; omega
    obtain ⟨y1, y2⟩ := g210 hT hm b8 h24 (by decide)
    rw [show Int32.toInt 0 = 0 from by decide] at y2
    have k8 := er_kd hT k1 (show x8.toInt.toNat < 2000 by omega)
    have fa := h29
    rw [h26] at fa
    have pa := h27
    rw [h26] at pa
    have pb := h30
    rw [h26] at pb
    have fr1 : ∀ b, b ∈ P → b ≠ γ 11 x8.toInt.toNat → x13 b = x4 b := fun b hb hne => (fa b hb (nm_c hne nm_n)).trans (y1 b hne)
    have c0 : ∀ k : Nat, k < 2048 → (egS γ x13 x8.toInt.toNat k = true ↔ (egS γ x4 x8.toInt.toNat k = true ∨ nwL γ x4 k = true) ∧ (k : Int) ≠ x8.toInt) := fun k hk => by
      have e1 := y2 k hk
      unfold egS at e1 ⊢
      rw [cL_of pa] at e1
      rw [cL_of pb, cl_tr h28 (by omega) k, Bool.and_eq_true, Bool.not_eq_true', decide_eq_false_iff_not, e1]
      exact and_congr_left (fun _ => or_congr_right ⟨fun z => z.2, fun z => ⟨by omega, z⟩⟩)
    have hre : x13 x2 = F x2 := (fr1 _ (hT.1 _ (by omega)) (fun e => by rw [← e, kx2] at k8; exact absurd k8.1 (by decide))).trans er4
    have h93 : x14 (γ 9 3) = x4 (γ 9 3) := (h35).trans (fr1 _ (hT.1 _ (by omega)) (fun e => by rw [← e, k3] at k8; exact absurd k8.1 (by decide)))
    have hst1 := st_v hT hm hst
    have hot := hed_ot hT hm (show x8.toInt.toNat < 2000 by omega) fr1
    refine g109_9 (Fe := x13) hT hm hq hO hi h50 (by omega) ex2 hre er2 hst hsd h93 ⟨fun n k hn hnn hk => ?_, hot.2.1, hot.2.2⟩ (bk39 h31 hm kx2 ha h36) h37 ih
    by_cases en : n = x8.toInt.toNat
    · have e00 : egS γ x4 x8.toInt.toNat x8.toInt.toNat = false := by rw [hst1.1 _ _ (by omega), ← en]; exact hnn
      have s1 : seR true (Q.2.2.1 i l5_2.toInt.toNat) n := (se n).mpr (by omega)
      rw [en, c0 k hk, ← en]
      constructor
      · rintro ⟨z | z, w⟩
        · exact Or.inl z
        · exact Or.inr ⟨s1, z, by omega⟩
      · rintro (z | ⟨-, z, w⟩)
        · refine ⟨Or.inl z, fun q => ?_⟩
          rw [show k = x8.toInt.toNat by omega, en, e00] at z
          cases z
        · exact ⟨Or.inr z, by omega⟩
    · rw [hot.1 n k hn en]
      refine ⟨Or.inl, fun z => z.elim id (fun w => ?_)⟩
      have w1 := (se n).mp w.1
      exact absurd (by omega) en
  · intro F_2 l5_2 x1 x2 x3 x4 x5 x6 x7 x8 x9 x10 k e1 h1 h2 h3 h4 h5 h6 h7 h8 h9 h10 h11 h12 h13 h14 h15 h16 h17 h18 h19 h20 h21 h22 h23 h24 h25 h26 h27 h28 h29 h30 ih
    omega
  · intro F_2 l5_2 x1 x2 x3 x4 x5 x6 x7 x8 x9 x10 x11 x12 x13 x14 x15 k e1 h1 h2 h3 h4 h5 h6 h7 h8 h9 h10 h11 h12 h13 h14 h15 h16 h17 h18 h19 h20 h21 h22 h23 h24 h25 h26 h27 h28 h29 h30 h31 h32 h33 h34 h35 h36 h37 h38 ih
    omega
  · intro F_2 l5_2 x1 x2 x3 x4 x5 x6 x7 x8 x9 x10 x11 k e1 h1 h2 h3 h4 h5 h6 h7 h8 h9 h10 h11 h12 h13 h14 h15 h16 h17 h18 h19 h20 h21 h22 h23 h24 h25 h26 h27 h28 h29 h30 h31 h32 ih
    omega
  · intro F_2 l5_2 x1 x2 x3 x4 x5 x6 x7 x8 x9 x10 x11 x12 x13 x14 x15 x16 k e1 h1 h2 h3 h4 h5 h6 h7 h8 h9 h10 h11 h12 h13 h14 h15 h16 h17 h18 h19 h20 h21 h22 h23 h24 h25 h26 h27 h28 h29 h30 h31 h32 h33 h34 h35 h36 h37 h38 h39 h40 ih
    omega
  · intro F_2 l5_2 x1 x2 x3 x4 x5 x6 x7 x8 x9 x10 x11 k e1 h1 h2 h3 h4 h5 h6 h7 h8 h9 h10 h11 h12 h13 h14 h15 h16 h17 h18 h19 h20 h21 h22 h23 h24 h25 h26 h27 h28 h29 h30 h31 h32 ih
    omega
  · intro F_2 l5_2 x1 x2 x3 x4 x5 x6 x7 x8 x9 x10 x11 x12 x13 x14 x15 x16 x17 k e1 h1 h2 h3 h4 h5 h6 h7 h8 h9 h10 h11 h12 h13 h14 h15 h16 h17 h18 h19 h20 h21 h22 h23 h24 h25 h26 h27 h28 h29 h30 h31 h32 h33 h34 h35 h36 h37 h38 h39 h40 h41 h42 ih
    omega
  · intro F_2 l5_2 x1 x2 x3 x4 x5 x6 x7 x8 x9 x10 x11 x12 x13 x14 x15 x16 x17 x18 x19 x20 x21 x22 x23 k e1 h1 h2 h3 h4 h5 h6 h7 h8 h9 h10 h11 h12 h13 h14 h15 h16 h17 h18 h19 h20 h21 h22 h23 h24 h25 h26 h27 h28 h29 h30 h31 h32 h33 h34 h35 h36 h37 h38 h39 h40 h41 h42 h43 h44 h45 h46 h47 h48 h49 h50 h51 h52 h53 ih
    omega
  · intro F_2 l5_2 x1 x2 x3 x4 x5 x6 x7 x8 x9 x10 x11 x12 x13 x14 x15 x16 x17 x18 x19 k e1 h1 h2 h3 h4 h5 h6 h7 h8 h9 h10 h11 h12 h13 h14 h15 h16 h17 h18 h19 h20 h21 h22 h23 h24 h25 h26 h27 h28 h29 h30 h31 h32 h33 h34 h35 h36 h37 h38 h39 h40 h41 h42 h43 h44 h45 h46 ih
    omega
def gHh9 (γ : Nat → Nat → Nat) (Q : gPg) (Fh : Nat → va_E) (b : Int) : Prop := (∀ i k, i < Q.1 → k < 2048 → (lvS γ Fh i k = true ↔ Lv Q true k i 0)) ∧ (∀ n k, n < 2000 → k < 2048 → (egS γ Fh n k = true ↔ ∃ c j : Nat, (c : Int) < b ∧ c < Q.1 ∧ j < Q.2.1 c ∧ jd9 Q c j n k)) ∧ ∀ c j : Nat, (c : Int) < b → c < Q.1 → j < Q.2.1 c → ∀ v, v < 2000 → usR true (Q.2.2.1 c j) v ∨ seR true (Q.2.2.1 c j) v → rSd (cB (Fh (γ 9 3))) v
theorem ed_no {l : Nat → Int} {g h : Int} {v : Nat} (hG : edG (l 0) g h) (hu : usR true l v ∨ seR true l v) : False := by
  unfold usR seR at hu
  rw [if_pos rfl, if_pos rfl] at hu
  unfold edG at hG
  omega
theorem g569 {s1 e1 : Nat → va_E} {s2 : Int32} {kx : Nat} (hT : RS D I P F γ el) (hm : γ 0 q0 = 10) (hc9 : γ 0 q1 = 9) (hq : rfW γ el F q1 Q) (hO : qOk Q) (hQ4 : Q.1 ≤ 40) (hB2 : ∀ i, i < Q.1 → γ 0 (el (γ 14 q1) i) = 2) (ha : a2.toInt = 1) (h : tl_RModel_graph_56 D I γ el P F a2 q1 q0 s1 s2 kx e1) : 0 ≤ s2.toInt → gHh9 γ Q s1 s2.toInt → gHh9 γ Q e1 (Q.1 : Int) := by
  obtain ⟨k0, k1, k2, k3⟩ := md_kd hT hm
  obtain ⟨lb, lr, rn, md, z1, ⟨z2, z3, z4⟩, -⟩ := show rk_9 γ el q1 (F q1) from RS_o hT hc9
  refine h (fun s1 s2 _ e1 => 0 ≤ s2.toInt → gHh9 γ Q s1 s2.toInt → gHh9 γ Q e1 (Q.1 : Int)) ?_ ?_
  · intro F_1 l3_1 x1 h1 h2 h3 h4 h5 h6 h7
    intro h0 hH
    have e1 : x1.toInt = (Q.1 : Int) := by rw [← h6, rs0 h3 hc9 (by decide)]; exact hq.1
    have hle := h7
    refine ⟨hH.1, fun n k hn hk => ?_, fun c j _ w2 => hH.2.2 c j (by omega) w2⟩
    rw [hH.2.1 n k hn hk]
    exact ⟨fun ⟨c, j, w1, w2, w3⟩ => ⟨c, j, by omega, w2, w3⟩, fun ⟨c, j, w1, w2, w3⟩ => ⟨c, j, by omega, w2, w3⟩⟩
  · intro F_1 l3_1 x1 x2 x3 x4 x5 x6 x7 x8 x9 x10 x11 x12 x13 k e1 h1 h2 h3 h4 h5 h6 h7 h8 h9 h10 h11 h12 h13 h14 h15 h16 h17 h18 h19 h20 h21 h22 h23 h24 h25 h26 h27 h28 h29 h30 h31 h32 h33 h34 ih
    intro h0 hH
    have hs := h3
    have eq1 := rs0 hs hc9 (by decide)
    have e1 : x1.toInt = (Q.1 : Int) := by rw [← h6, eq1]; exact hq.1
    have hlt := h7
    have hi : l3_1.toInt.toNat < Q.1 := by omega
    have ex2 : x2 = γ 14 q1 := by rw [← h8, eq1, z1, z2]; rfl
    have ex3 : x3 = el (γ 14 q1) l3_1.toInt.toNat := by rw [h9, ex2]
    have hB := hB2 _ hi
    rw [← ex3] at hB
    have hT1 := h2
    obtain ⟨l, nn, p, s, v1, ⟨g1, g2, g3⟩, v3, v4, v5, -⟩ := show rk_2 γ x3 (F x3) from RS_o hT hB
    have eB : F_1 x3 = F x3 := rs0 hs hB (by decide)
    have k15 : γ 0 (γ 15 x3) = 1 := by rw [g2]; exact v5
    have eE : F_1 (γ 15 x3) = F (γ 15 x3) := rs0 hs k15 (by decide)
    have m := qR_m hq hi
    obtain ⟨b1, b2⟩ := bh3 hT1 hm hB (fun F1 hF => ⟨rs0 hF hB (by decide), rs0 hF k15 (by decide)⟩) h16
    have n5 : ∀ k, k < 2048 → (nwL γ x5 k = true ↔ Lv Q true k l3_1.toInt.toNat (Q.2.1 l3_1.toInt.toNat)) := fun k hk => by
      rw [b1 k hk, eB, eE, ex3, qbh hq hO hi, Lv_out hi]
      exact ⟨fun z => goX_mo (fun g hg w => (hH.1 g k hg hk).mp w) z, fun z => goX_mo (fun g hg w => (hH.1 g k hg hk).mpr w) z⟩
    have s5 := h13
    have e5B : x5 x3 = F x3 := (b2 _ (fun e => by rw [e, k2] at hB; cases hB)).trans eB
    have e6 : x6 = γ 15 x3 := by rw [← h17, e5B, v1, g2]; rfl
    have hst := st2 h22
    have hsd := std9 (by rw [e6, b2 _ (fun e => by rw [e, k2] at k15; cases k15), eE]; exact rs_b9 hT k15) ha h22
    have e7 : x7 x6 = F (γ 15 x3) := by
      rw [e6, hst _ (fun e => by rw [e, k3] at k15; cases k15), b2 _ (fun e => by rw [e, k2] at k15; cases k15)]
      exact eE
    obtain ⟨s1, s2, s3⟩ := st_v hT hm hst
    obtain ⟨c1, c2⟩ := bk39 h18 hm (by rw [e6]; exact k15) ha h28
    obtain ⟨d1, d2⟩ := bk_v hT hm c2
    obtain ⟨f1, f2⟩ := bk_v hT hm (fun b _ hb => b2 b hb)
    have n8 : ∀ k, k < 2048 → (nwL γ x8 k = true ↔ Lv Q true k l3_1.toInt.toNat (Q.2.1 l3_1.toInt.toNat - 1)) := fun k hk => by
      rw [c1 k, e7, ex3, qend9 hq hO hi, s2 k, n5 k hk, Lv_row (j := Q.2.1 l3_1.toInt.toNat - 1) hi (by omega), show Q.2.1 l3_1.toInt.toNat - 1 + 1 = Q.2.1 l3_1.toInt.toNat by omega]
      exact or_congr_right ⟨fun z => ⟨z.2, z.1⟩, fun z => ⟨z.2, z.1⟩⟩
    have e8 : ∀ n k, n < 2000 → egS γ x8 n k = egS γ F_1 n k := fun n k hn => by rw [d1 n k hn, s1 n k hn, f1 n k hn]
    have l8 : ∀ i k, i < 40 → lvS γ x8 i k = lvS γ F_1 i k := fun i k hi => by rw [d2 i k hi, s3 i k hi, f2 i k hi]
    have e9 : x9 = γ 14 x3 := by
      have q : x8 x3 = F x3 := (c2 _ (hT.1 _ (by omega)) (fun e => by rw [e, k2] at hB; cases hB)).trans ((hst _ (fun e => by rw [e, k3] at hB; cases hB)).trans e5B)
      rw [← h29, q, v1, g1]
      rfl
    have e11 : x11.toInt + 1 = (γ 2 (γ 14 (el (γ 14 q1) l3_1.toInt.toNat)) : Int) := by
      rw [← ex3, ← e9]
      omega
    obtain ⟨ww, wm, wu⟩ := g1099 hT hm hq hO hi (hB2 _ hi) ex3 ha h33
    obtain ⟨w1, w2⟩ := ww (fun k hk => by
      rw [n8 k hk, show (x11.toInt + 1).toNat = Q.2.1 l3_1.toInt.toNat - 1 by omega]) (fun n hn => by
      rw [e8 n n hn, ← Bool.not_eq_true, hH.2.1 n n hn (by omega)]
      rintro ⟨c, j, -, -, -, w⟩
      exact w.2.2 rfl)
    have hG := (qB hO hi).2.2
    refine ih (by omega) ⟨fun i k hi' hk => ?_, fun n k hn hk => ?_, fun c j u1 u2 u3 v hv hu => ?_⟩
    · rw [w1 i k (by omega), l8 i k (by omega)]
      exact hH.1 i k hi' hk
    · rw [w2 n k hn hk, e8 n k hn, hH.2.1 n k hn hk]
      constructor
      · rintro (⟨c, j, u1, u2, u3⟩ | ⟨j, u1, u2⟩)
        · exact ⟨c, j, by omega, u2, u3⟩
        · exact ⟨_, j, by omega, hi, by omega, u2⟩
      · rintro ⟨c, j, u1, u2, u3, u4⟩
        by_cases e : c = l3_1.toInt.toNat
        · subst e
          by_cases e2 : j + 1 = Q.2.1 l3_1.toInt.toNat
          · exfalso
            have y := u4.1
            rw [show j = Q.2.1 l3_1.toInt.toNat - 1 by omega] at y
            exact ed_no hG (Or.inr y)
          · exact Or.inr ⟨j, by omega, u4⟩
        · exact Or.inl ⟨c, j, by omega, u2, u3, u4⟩
    · by_cases e : c = l3_1.toInt.toNat
      · subst e
        by_cases e2 : j + 1 = Q.2.1 l3_1.toInt.toNat
        · rw [show j = Q.2.1 l3_1.toInt.toNat - 1 by omega] at hu
          exact (ed_no hG hu).elim
        · exact wu j (by omega) v hv hu
      · refine wm v ?_
        have h5 := hH.2.2 c j (by omega) u2 u3 v hv hu
        rw [← h15] at h5
        rw [h27]
        exact hsd.1 v h5
theorem g2989 {E : Nat → Nat → Prop} {s1 e1 : Nat → va_E} {s2 : Int32} {kx : Nat} (hT : RS D I P F γ el) (hm : γ 0 q0 = 10) (h : tl_RModel_graph_298 D I γ el P F a2 q1 q0 s1 s2 kx e1) : 0 ≤ s2.toInt → gIv γ E s1 → (∀ m n : Nat, m < 2000 → E m n → rSd (cB (s1 (γ 9 3))) m) → (∀ m n : Nat, (m : Int) < s2.toInt → m < 2000 → n < 2000 → E m n → egS γ s1 n m = true) → (gIv γ E e1 ∧ ∀ m n : Nat, m < 2000 → n < 2000 → E m n → egS γ e1 n m = true) ∧ e1 (γ 9 3) = s1 (γ 9 3) := by
  refine h (fun s1 s2 _ e1 => 0 ≤ s2.toInt → gIv γ E s1 → (∀ m n : Nat, m < 2000 → E m n → rSd (cB (s1 (γ 9 3))) m) → (∀ m n : Nat, (m : Int) < s2.toInt → m < 2000 → n < 2000 → E m n → egS γ s1 n m = true) → (gIv γ E e1 ∧ ∀ m n : Nat, m < 2000 → n < 2000 → E m n → egS γ e1 n m = true) ∧ e1 (γ 9 3) = s1 (γ 9 3)) ?_ ?_ ?_
  · intro F_1 l3_1 h1 h2 h3 h4 h5 h6
    intro h0 hI hS hD
    exact ⟨⟨hI, fun m n hm hn z => hD m n (by have := h6; omega) hm hn z⟩, rfl⟩
  · intro F_1 l3_1 x1 x2 x3 x4 k e1 h1 h2 h3 h4 h5 h6 h7 h8 h9 h10 h11 h12 h13 ih
    intro h0 hI hS hD
    have hlt := h6
    obtain ⟨y1, y2, y3, y4⟩ := g320 hT hm ⟨h0, hlt⟩ h12 (by decide) hI
    rw [show Int32.toInt 0 = 0 from by decide] at y3
    obtain ⟨i1, i2⟩ := ih (by omega) y1 (fun m n hm hE => by rw [y4]; exact hS m n hm hE) (fun m n hm hm2 hn z => by
      by_cases e : m = l3_1.toInt.toNat
      · rw [e]
        exact y3 n hn (by omega) (by rw [← e]; exact z)
      · exact y2 n m hn hm2 (hD m n (by omega) hm2 hn z))
    exact ⟨i1, i2.trans y4⟩
  · intro F_1 l3_1 x1 x2 x3 k e1 h1 h2 h3 h4 h5 h6 h7 h8 h9 h10 h11 h12 ih
    intro h0 hI hS hD
    have hlt := h6
    refine ih (by omega) hI hS (fun m n hm hm2 hn z => ?_)
    by_cases e : m = l3_1.toInt.toNat
    · exfalso
      have w2 := (hS m n hm2 z).2
      rw [cB_of h8] at w2
      have hz : (l3_1.toNatClampNeg : Int) = l3_1.toInt := g_nn h0
      rw [show m = l3_1.toNatClampNeg by omega, ← h9] at w2
      have w3 := h11
      omega
    · exact hD m n (by omega) hm2 hn z
/-- one way -/
def J19 (Q : gPg) (n k : Nat) : Prop := ∃ c j : Nat, c < Q.1 ∧ j < Q.2.1 c ∧ jd9 Q c j n k
/-- the graph of slots: the edges, both ways, and what stands -/
theorem gr_tr9 (hT : RS D I P F γ el) (hm : γ 0 q0 = 10) (hc9 : γ 0 q1 = 9) (hq : rfW γ el F q1 Q) (hO : qOk Q) (hQ4 : Q.1 ≤ 40) (hQ6 : γ 6 (γ 1 q1) = Q.1) (hB2 : ∀ i, i < Q.1 → γ 0 (el (γ 14 q1) i) = 2) (ha : a2.toInt = 1) (h : tr_RModel_graph D I γ el P F q0 q1 a2 F1) : (∀ n k, n < 2000 → k < 2000 → (egS γ F1 n k = true ↔ Jn Q true 2000 n k)) ∧ ∀ v, Sd Q true 2000 v → rSd (cB (F1 (γ 9 3))) v := by
  refine h (fun F1 => (∀ n k, n < 2000 → k < 2000 → (egS γ F1 n k = true ↔ Jn Q true 2000 n k)) ∧ ∀ v, Sd Q true 2000 v → rSd (cB (F1 (γ 9 3))) v) ?_
  · intro x1 x2 x3 x4 h1 h2 h3 h4 h5 h6 h7
    have l1 := fl_tr9 ha hq hO hQ4 hQ6 (fun F1 hF => rs0 hF hc9 (by decide)) h4
    obtain ⟨z1, z2⟩ := g8 hT hm h5 (fun n hn => by rw [show Int32.toInt 0 = 0 from by decide] at hn; omega)
    have hH := g569 hT hm hc9 hq hO hQ4 hB2 ha h6 (by decide) ⟨fun i k hi hk => by rw [z2 i k (by omega)]; exact l1 i k hi hk, fun n k hn hk => by
      rw [show egS γ x2 n k = false from rbt_z (z1 n hn (k / 64) (by omega)), show Int32.toInt 0 = 0 from by decide]
      exact ⟨fun z => (nomatch z), fun ⟨c, j, w, _⟩ => absurd w (by omega)⟩, fun c j w => absurd w (by rw [show Int32.toInt 0 = 0 from by decide]; omega)⟩
    have hE : ∀ n k, n < 2000 → k < 2000 → (egS γ x3 n k = true ↔ J19 Q n k) := fun n k hn hk => by
      rw [hH.2.1 n k hn (by omega)]
      exact ⟨fun ⟨c, j, w1, w2, w3⟩ => ⟨c, j, w2, w3⟩, fun ⟨c, j, w2, w3⟩ => ⟨c, j, by omega, w2, w3⟩⟩
    obtain ⟨⟨i1, i2⟩, i3⟩ := g2989 (E := J19 Q) hT hm h7 (by decide) ⟨fun n k hn hk z => (hE n k hn hk).mpr z, fun n k hn hk z => Or.inl ((hE n k hn hk).mp z)⟩ (fun m n hm ⟨c, j, w1, w2, w3⟩ => hH.2.2 c j (by omega) w1 w2 m hm (Or.inr w3.1)) (fun m n hm => by rw [show Int32.toInt 0 = 0 from by decide] at hm; omega)
    refine ⟨fun n k hn hk => ?_, fun v ⟨hv, c, j, w1, w2, w3⟩ => by rw [i3]; exact hH.2.2 c j (by omega) w1 w2 v hv w3⟩
    constructor
    · intro z
      rcases i1.2 n k hn hk z with ⟨c, j, w1, w2, w3, w4, w5⟩ | ⟨c, j, w1, w2, w3, w4, w5⟩
      · exact ⟨c, j, w1, w2, Or.inl ⟨hn, hk, w3, w4, w5, fun y => Bool.noConfusion y.1⟩⟩
      · exact ⟨c, j, w1, w2, Or.inr ⟨hk, hn, w3, w4, w5, fun y => Bool.noConfusion y.1⟩⟩
    · rintro ⟨c, j, w1, w2, ⟨-, -, w3, w4, w5, -⟩ | ⟨-, -, w3, w4, w5, -⟩⟩
      · exact i1.1 n k hn hk ⟨c, j, w1, w2, w3, w4, w5⟩
      · exact i2 k n hk hn ⟨c, j, w1, w2, w3, w4, w5⟩
end GS9
end
section
/-! a program of the reference, row by row -/
section RFX
variable {D : va_G} {I : FieldType → ClassId} {P P1 : List Nat} {F F1 : Nat → va_E} {γ γ1 el el1 : Nat → Nat → Nat} {f c b j : Nat} {Q R : gPg} {l g : Nat → Int} {op a rA fi se : Int32} {K KF : List Nat}
def edR (l : Nat → Int) (op a rA : Int32) : Prop := (l 0 = 19 → op.toInt = 30) ∧ (l 0 = 20 → op.toInt = 31 ∧ opdE (l 2) (l 3) a rA) ∧ (l 0 = 21 → op.toInt = 32 ∧ opdE (l 2) (l 3) a rA)
def gLX (o : Int) (g : Nat → Int) (f s : Int32) : Prop := (o = 19 → f.toInt = g 0 ∧ s.toInt = g 0) ∧ (o = 20 → f.toInt = g 0 ∧ s.toInt = g 1)
theorem edE_i : edE l g op a rA fi se ↔ edR l op a rA ∧ gLX (l 0) g fi se := by
  constructor
  · rintro ⟨h1, h2, h3⟩
    exact ⟨⟨fun z => (h1 z).1, fun z => ⟨(h2 z).1, (h2 z).2.1⟩, h3⟩, fun z => (h1 z).2, fun z => (h2 z).2.2⟩
  · rintro ⟨⟨h1, h2, h3⟩, h4, h5⟩
    exact ⟨fun z => ⟨h1 z, h4 z⟩, fun z => ⟨(h2 z).1, (h2 z).2, h5 z⟩, h3⟩
/-- the cell e holds the line l: a row, or an end -/
def lnX (r : Bool) (l : Nat → Int) (e : va_E) : Prop := if r = true then rwF l (fI e 0) (fI e 1) (fI e 2) (fI e 3) (fI e 5) (fI e 6) (fI e 4) else edR l (fI e 0) (fI e 2) (fI e 5)
def rwB (Q : gPg) (i j : Nat) : Bool := decide (j + 1 < Q.2.1 i)
def lnQ (Q : gPg) (i j : Nat) (e : va_E) : Prop := lnX (rwB Q i j) (Q.2.2.1 i j) e
def rfX (γ el : Nat → Nat → Nat) (F : Nat → va_E) (c : Nat) (Q : gPg) : Prop := (fI (F c) 3).toInt = (Q.1 : Int) ∧ (∀ i, i < Q.1 → γ 2 (rwL γ el c i) + 1 = Q.2.1 i ∧ gLX (Q.2.2.1 i (Q.2.1 i - 1) 0) (Q.2.2.2 i) (fI (F (el (γ 14 c) i)) 2) (fI (F (el (γ 14 c) i)) 3)) ∧ rPl γ el F c Q.1 (lnQ Q)
theorem rfX_W : rfX γ el F c Q ↔ rfW γ el F c Q := by
  constructor
  · rintro ⟨h1, h2, h3⟩
    refine ⟨h1, trivial, fun i hi => ?_⟩
    obtain ⟨n1, n2⟩ := h2 i hi
    have n1' : γ 2 (γ 14 (el (γ 14 c) i)) + 1 = Q.2.1 i := n1
    refine ⟨by omega, ⟨by omega, fun k hk => ?_⟩, edE_i.mpr ⟨?_, n2⟩⟩
    · have q := h3 i hi k (by show k ≤ γ 2 (γ 14 (el (γ 14 c) i)); omega)
      have e : rAt γ el c i k = el (γ 14 (el (γ 14 c) i)) k := if_pos (show k < γ 2 (γ 14 (el (γ 14 c) i)) by omega)
      rw [e] at q
      unfold lnQ lnX rwB at q
      rw [if_pos (decide_eq_true (by omega))] at q
      exact q
    · have q := h3 i hi (Q.2.1 i - 1) (by show Q.2.1 i - 1 ≤ γ 2 (γ 14 (el (γ 14 c) i)); omega)
      have e : rAt γ el c i (Q.2.1 i - 1) = γ 15 (el (γ 14 c) i) := if_neg (show ¬ Q.2.1 i - 1 < γ 2 (γ 14 (el (γ 14 c) i)) by omega)
      rw [e] at q
      unfold lnQ lnX rwB at q
      rw [if_neg (by rw [decide_eq_true_iff]; omega)] at q
      exact q
  · rintro ⟨h1, -, h3⟩
    have hn : ∀ i, i < Q.1 → γ 2 (γ 14 (el (γ 14 c) i)) + 1 = Q.2.1 i := fun i hi => by
      obtain ⟨n0, ⟨n1, -⟩, -⟩ := h3 i hi
      omega
    refine ⟨h1, fun i hi => ⟨hn i hi, (edE_i.mp (h3 i hi).2.2).2⟩, fun i hi k hk => ?_⟩
    have hk' : k ≤ γ 2 (γ 14 (el (γ 14 c) i)) := hk
    have n := hn i hi
    obtain ⟨n0, ⟨n1, n2⟩, n3⟩ := h3 i hi
    unfold lnQ lnX rwB
    by_cases q : k + 1 < Q.2.1 i
    · have e : rAt γ el c i k = el (γ 14 (el (γ 14 c) i)) k := if_pos (show k < γ 2 (γ 14 (el (γ 14 c) i)) by omega)
      rw [e, if_pos (decide_eq_true q)]
      exact n2 k (by omega)
    · have e : rAt γ el c i k = γ 15 (el (γ 14 c) i) := if_neg (show ¬ k < γ 2 (γ 14 (el (γ 14 c) i)) by omega)
      rw [e, if_neg (by rw [decide_eq_true_iff]; exact q), show k = Q.2.1 i - 1 by omega]
      exact (edE_i.mp n3).1
/-- only what lies within its bounds counts -/
theorem rfX_c (h : rfX γ el F c Q) (h1 : R.1 = Q.1) (h2 : ∀ i, i < Q.1 → R.2.1 i = Q.2.1 i ∧ R.2.2.2 i = Q.2.2.2 i ∧ ∀ j, j < Q.2.1 i → R.2.2.1 i j = Q.2.2.1 i j) : rfX γ el F c R := by
  obtain ⟨a1, a2, a3⟩ := h
  refine ⟨by rw [h1]; exact a1, fun i hi => ?_, fun i hi k hk => ?_⟩
  · rw [h1] at hi
    obtain ⟨e1, e2, e3⟩ := h2 i hi
    have n := (a2 i hi).1
    rw [e1, e2, e3 _ (by omega)]
    exact a2 i hi
  · rw [h1] at hi
    obtain ⟨e1, e2, e3⟩ := h2 i hi
    have n := (a2 i hi).1
    have q := a3 i hi k hk
    unfold lnQ rwB at q ⊢
    rw [e1, e3 k (by omega)]
    exact q
/-- line j of block b another one of its kind -/
def pgSt (Q : gPg) (b j : Nat) (l : Nat → Int) : gPg := (Q.1, Q.2.1, fun d i => if d = b ∧ i = j then l else Q.2.2.1 d i, Q.2.2.2)
theorem rfX_put (hT : RS D I P F γ el) (hc : γ 0 c = 9) (hcf : γ 1 c = f) (h6 : γ 6 f = Q.1) (h : rfX γ el F c Q) (hB2 : ∀ i, i < Q.1 → γ 0 (el (γ 14 c) i) = 2) (hb : b < Q.1) (hj : j < Q.2.1 b) (n : ∀ x, x ≠ rAt γ el c b j → F1 x = F x) (hop : l 0 = Q.2.2.1 b j 0) (hl : lnX (rwB Q b j) l (F1 (rAt γ el c b j))) : rfX γ el F1 c (pgSt Q b j l) := by
  obtain ⟨a1, a2, a3⟩ := h
  have k1 := (rAt_k (j := j) hT hc hcf (show b < γ 6 f by omega)).1
  refine ⟨?_, fun i hi => ⟨(a2 i hi).1, ?_⟩, ?_⟩
  · rw [n c (fun e => by rw [← e, hc] at k1; cases k1)]; exact a1
  · rw [n (el (γ 14 c) i) (fun e => by rw [← e, hB2 i hi] at k1; cases k1)]
    show gLX ((if i = b ∧ Q.2.1 i - 1 = j then l else Q.2.2.1 i (Q.2.1 i - 1)) 0) _ _ _
    by_cases e : i = b ∧ Q.2.1 i - 1 = j
    · rw [if_pos e, hop]
      have q := (a2 i hi).2
      rw [e.2] at q
      rw [← e.1]; exact q
    · rw [if_neg e]; exact (a2 i hi).2
  · have m := (a2 b hb).1
    have a3' : rPl γ el F c (γ 6 f) (lnQ Q) := by rw [h6]; exact a3
    have r := rPl_put (R' := lnQ (pgSt Q b j l)) hT hc hcf a3' n rfl (by omega) (show j ≤ γ 2 (rwL γ el c b) by omega) (fun i k e ne he => by
      show lnX (rwB Q i k) (if i = b ∧ k = j then l else Q.2.2.1 i k) e
      rw [if_neg (fun z => ne.elim (fun y => y z.1) (fun y => y z.2))]
      exact he) (by
      show lnX (rwB Q b j) (if b = b ∧ j = j then l else Q.2.2.1 b j) _
      rw [if_pos ⟨rfl, rfl⟩]
      exact hl)
    rw [h6] at r
    exact r
/-- the shape of a row's cell, writing into it -/
def rwS (e : va_E) : Prop := ∃ op t a b s ra rb : Int32, e = .inr (20, [.int op, .int t, .int a, .int b, .int s, .int ra, .int rb])
theorem rwS_1 {x : Nat} {e : va_E} (h : rk_1 γ x e) : rwS e := by
  obtain ⟨op, t, a, b, s, ra, rb, he, -⟩ := h
  exact ⟨op, t, a, b, s, ra, rb, he⟩
theorem rwS_R {e : va_E} (h : rkR e) : rwS e := by
  obtain ⟨op, t, a, b, s, ra, rb, he, -⟩ := h
  exact ⟨op, t, a, b, s, ra, rb, he⟩
theorem cw_1 {e e1 : va_E} {y : Int32} (h : rwS e) (he : e1 = cF e 1 (.int y)) : rwS e1 ∧ fI e1 0 = fI e 0 ∧ fI e1 1 = y ∧ fI e1 2 = fI e 2 ∧ fI e1 3 = fI e 3 ∧ fI e1 4 = fI e 4 ∧ fI e1 5 = fI e 5 ∧ fI e1 6 = fI e 6 := by
  obtain ⟨op, t, a, b, s, ra, rb, h⟩ := h
  rw [he, h]
  exact ⟨⟨op, y, a, b, s, ra, rb, rfl⟩, rfl, rfl, rfl, rfl, rfl, rfl, rfl⟩
theorem cw_2 {e e1 : va_E} {y : Int32} (h : rwS e) (he : e1 = cF e 2 (.int y)) : rwS e1 ∧ fI e1 0 = fI e 0 ∧ fI e1 1 = fI e 1 ∧ fI e1 2 = y ∧ fI e1 3 = fI e 3 ∧ fI e1 4 = fI e 4 ∧ fI e1 5 = fI e 5 ∧ fI e1 6 = fI e 6 := by
  obtain ⟨op, t, a, b, s, ra, rb, h⟩ := h
  rw [he, h]
  exact ⟨⟨op, t, y, b, s, ra, rb, rfl⟩, rfl, rfl, rfl, rfl, rfl, rfl, rfl⟩
theorem cw_3 {e e1 : va_E} {y : Int32} (h : rwS e) (he : e1 = cF e 3 (.int y)) : rwS e1 ∧ fI e1 0 = fI e 0 ∧ fI e1 1 = fI e 1 ∧ fI e1 2 = fI e 2 ∧ fI e1 3 = y ∧ fI e1 4 = fI e 4 ∧ fI e1 5 = fI e 5 ∧ fI e1 6 = fI e 6 := by
  obtain ⟨op, t, a, b, s, ra, rb, h⟩ := h
  rw [he, h]
  exact ⟨⟨op, t, a, y, s, ra, rb, rfl⟩, rfl, rfl, rfl, rfl, rfl, rfl, rfl⟩
theorem cw_0 {e e1 : va_E} {y : Int32} (h : rwS e) (he : e1 = cF e 0 (.int y)) : rwS e1 ∧ fI e1 0 = y ∧ fI e1 1 = fI e 1 ∧ fI e1 2 = fI e 2 ∧ fI e1 3 = fI e 3 ∧ fI e1 4 = fI e 4 ∧ fI e1 5 = fI e 5 ∧ fI e1 6 = fI e 6 := by
  obtain ⟨op, t, a, b, s, ra, rb, h⟩ := h
  rw [he, h]
  exact ⟨⟨y, t, a, b, s, ra, rb, rfl⟩, rfl, rfl, rfl, rfl, rfl, rfl, rfl⟩
theorem cw_4 {e e1 : va_E} {y : Int32} (h : rwS e) (he : e1 = cF e 4 (.int y)) : rwS e1 ∧ fI e1 0 = fI e 0 ∧ fI e1 1 = fI e 1 ∧ fI e1 2 = fI e 2 ∧ fI e1 3 = fI e 3 ∧ fI e1 4 = y ∧ fI e1 5 = fI e 5 ∧ fI e1 6 = fI e 6 := by
  obtain ⟨op, t, a, b, s, ra, rb, h⟩ := h
  rw [he, h]
  exact ⟨⟨op, t, a, b, y, ra, rb, rfl⟩, rfl, rfl, rfl, rfl, rfl, rfl, rfl⟩
theorem cw_5 {e e1 : va_E} {y : Int32} (h : rwS e) (he : e1 = cF e 5 (.int y)) : rwS e1 ∧ fI e1 0 = fI e 0 ∧ fI e1 1 = fI e 1 ∧ fI e1 2 = fI e 2 ∧ fI e1 3 = fI e 3 ∧ fI e1 4 = fI e 4 ∧ fI e1 5 = y ∧ fI e1 6 = fI e 6 := by
  obtain ⟨op, t, a, b, s, ra, rb, h⟩ := h
  rw [he, h]
  exact ⟨⟨op, t, a, b, s, y, rb, rfl⟩, rfl, rfl, rfl, rfl, rfl, rfl, rfl⟩
/-- a name changed everywhere in a line -/
def lnO2 (r : Bool) (l : Nat → Int) : Prop := if r = true then rwO2 l else (edO2 l ∧ 19 ≤ l 0 ∧ l 0 ≤ 21)
def chA (e e1 : va_E) (w v : Int) : Prop := (((fI e 0).toInt ≠ 20 ∧ (fI e 0).toInt ≠ 21 ∧ (fI e 0).toInt ≠ 30 ∧ (fI e 5).toInt ≠ 0 ∧ (fI e 2).toInt = w) ∧ (fI e1 2).toInt = v) ∨ (((fI e 0).toInt = 20 ∨ (fI e 0).toInt = 21 ∨ (fI e 0).toInt = 30 ∨ (fI e 5).toInt = 0 ∨ (fI e 2).toInt ≠ w) ∧ fI e1 2 = fI e 2)
def chB (e e1 : va_E) (w v : Int) : Prop := ((0 < (fI e 0).toInt ∧ (fI e 0).toInt < 20 ∧ (fI e 6).toInt ≠ 0 ∧ (fI e 3).toInt = w) ∧ (fI e1 3).toInt = v) ∨ (((fI e 0).toInt ≤ 0 ∨ 20 ≤ (fI e 0).toInt ∨ (fI e 6).toInt = 0 ∨ (fI e 3).toInt ≠ w) ∧ fI e1 3 = fI e 3)
def chT (e e1 : va_E) (w v : Int) : Prop := (((fI e 0).toInt ≤ 21 ∧ (fI e 1).toInt = w) ∧ (fI e1 1).toInt = v) ∨ ((21 < (fI e 0).toInt ∨ (fI e 1).toInt ≠ w) ∧ fI e1 1 = fI e 1)
theorem rnV_c {w v x : Int} : (x = w ∧ rnV w v x = v) ∨ (x ≠ w ∧ rnV w v x = x) := by
  unfold rnV
  by_cases c : x = w
  · rw [if_pos c]; exact Or.inl ⟨c, rfl⟩
  · rw [if_neg c]; exact Or.inr ⟨c, rfl⟩
theorem rn_A {e e1 : va_E} {w v x y : Int} (hw : 0 ≤ w) (hv : 0 ≤ v) (o1 : (fI e 0).toInt ≠ 20) (o2 : (fI e 0).toInt ≠ 21) (o3 : (fI e 0).toInt ≠ 30) (h5 : fI e1 5 = fI e 5) (hA : chA e e1 w v) (h : opdE x y (fI e 2) (fI e 5)) : opdE (rnV w v x) y (fI e1 2) (fI e1 5) := by
  rw [h5]
  have r := rnV_c (w := w) (v := v) (x := x)
  rcases h with ⟨a1, a2, a3⟩ | ⟨a1, a2, a3⟩
  · refine Or.inl ⟨a1, ?_, by omega⟩
    rcases hA with ⟨⟨-, -, -, -, b5⟩, b6⟩ | ⟨b5, b6⟩
    · omega
    · rw [b6]; omega
  · refine Or.inr ⟨a1, by omega, ?_⟩
    rcases hA with ⟨⟨-, -, -, b4, b5⟩, b6⟩ | ⟨b5, b6⟩
    · omega
    · rw [b6]; exact a3
theorem rn_B {e e1 : va_E} {w v x y : Int} (hw : 0 ≤ w) (hv : 0 ≤ v) (o1 : 0 < (fI e 0).toInt) (o2 : (fI e 0).toInt < 20) (h6 : fI e1 6 = fI e 6) (hB : chB e e1 w v) (h : opdE x y (fI e 3) (fI e 6)) : opdE (rnV w v x) y (fI e1 3) (fI e1 6) := by
  rw [h6]
  have r := rnV_c (w := w) (v := v) (x := x)
  rcases h with ⟨a1, a2, a3⟩ | ⟨a1, a2, a3⟩
  · refine Or.inl ⟨a1, ?_, by omega⟩
    rcases hB with ⟨⟨-, -, -, b5⟩, b6⟩ | ⟨b5, b6⟩
    · omega
    · rw [b6]; omega
  · refine Or.inr ⟨a1, by omega, ?_⟩
    rcases hB with ⟨⟨-, -, b4, b5⟩, b6⟩ | ⟨b5, b6⟩
    · omega
    · rw [b6]; exact a3
theorem rn_T {e e1 : va_E} {w v x : Int} (o1 : (fI e 0).toInt ≤ 21) (hT : chT e e1 w v) (h : (fI e 1).toInt = x) : (fI e1 1).toInt = rnV w v x := by
  have r := rnV_c (w := w) (v := v) (x := x)
  rcases hT with ⟨⟨-, b5⟩, b6⟩ | ⟨b5, b6⟩
  · omega
  · rw [b6]; omega
theorem rn_ln {r : Bool} {e e1 : va_E} {w v : Int} (hw : 0 ≤ w) (hv : 0 ≤ v) (hO : lnO2 r l) (h : lnX r l e) (h0 : fI e1 0 = fI e 0) (h4 : fI e1 4 = fI e 4) (h5 : fI e1 5 = fI e 5) (h6 : fI e1 6 = fI e 6) (hA : chA e e1 w v) (hB : chB e e1 w v) (hT : chT e e1 w v) : lnX r (rnL w v l) e1 := by
  have q0 : rnL w v l 0 = l 0 := rfl
  have q1 : rnL w v l 1 = rnV w v (l 1) := rfl
  have q2 : rnL w v l 2 = rnV w v (l 2) := rfl
  have q3 : rnL w v l 3 = l 3 := rfl
  have q4 : rnL w v l 4 = rnV w v (l 4) := rfl
  have q5 : rnL w v l 5 = l 5 := rfl
  unfold lnX at h ⊢
  unfold lnO2 at hO
  cases r with
  | false =>
    rw [if_neg (by decide)] at h hO ⊢
    obtain ⟨e1', e2', e3'⟩ := h
    obtain ⟨-, o5, o6⟩ := hO
    unfold edR
    rw [q0, q2, q3, h0]
    refine ⟨e1', fun z => ⟨(e2' z).1, ?_⟩, fun z => ⟨(e3' z).1, ?_⟩⟩
    · have p := (e2' z).1
      exact rn_A hw hv (by omega) (by omega) (by omega) h5 hA (e2' z).2
    · have p := (e3' z).1
      exact rn_A hw hv (by omega) (by omega) (by omega) h5 hA (e3' z).2
  | true =>
    rw [if_pos rfl] at h hO ⊢
    obtain ⟨e1', e2', e3', e4', e5', e6'⟩ := h
    obtain ⟨o1, -⟩ := hO
    unfold rwF
    rw [q0, q1, q2, q3, q4, q5, h0, h4]
    refine ⟨fun z => ?_, fun z => ?_, fun z => ?_, fun z => ?_, fun z => ?_, fun z => ?_⟩
    · obtain ⟨p1, p2, p3, p4⟩ := e1' z
      exact ⟨p1, rn_T (by omega) hT p2, rn_A hw hv (by omega) (by omega) (by omega) h5 hA p3, rn_B hw hv (by omega) (by omega) h6 hB p4⟩
    · obtain ⟨p1, p2, p3⟩ := e2' z
      exact ⟨p1, rn_T (by omega) hT p2, rn_A hw hv (by omega) (by omega) (by omega) h5 hA p3⟩
    · obtain ⟨p1, p2⟩ := e3' z
      exact ⟨p1, rn_T (by omega) hT p2⟩
    · obtain ⟨p1, p2⟩ := e4' z
      exact ⟨p1, rn_A hw hv (by omega) (by omega) (by omega) h5 hA p2⟩
    · obtain ⟨p1, p2, p3⟩ := e5' z
      exact ⟨p1, rn_T (by omega) hT p2, p3⟩
    · obtain ⟨p1, p2, p3⟩ := e6' z
      exact ⟨p1, rn_A hw hv (by omega) (by omega) (by omega) h5 hA p2, p3⟩
/-- rows in front of line j of block b renamed -/
def pgRm (Q : gPg) (w v : Int) (b j : Nat) : gPg := (Q.1, Q.2.1, fun d i => if d < b ∨ (d = b ∧ i < j) then rnL w v (Q.2.2.1 d i) else Q.2.2.1 d i, Q.2.2.2)
theorem pgRm_l {w v : Int} : (pgRm Q w v b j).2.2.1 b j = Q.2.2.1 b j := if_neg (by omega)
theorem pgRm_s {w v : Int} : pgSt (pgRm Q w v b j) b j (rnL w v (Q.2.2.1 b j)) = pgRm Q w v b (j + 1) := by
  unfold pgSt pgRm
  congr 3
  funext d i
  show (if d = b ∧ i = j then rnL w v (Q.2.2.1 b j) else (if d < b ∨ (d = b ∧ i < j) then rnL w v (Q.2.2.1 d i) else Q.2.2.1 d i)) = if d < b ∨ (d = b ∧ i < j + 1) then rnL w v (Q.2.2.1 d i) else Q.2.2.1 d i
  by_cases e : d = b ∧ i = j
  · rw [if_pos e, if_pos (by omega), e.1, e.2]
  · rw [if_neg e]
    by_cases q : d < b ∨ (d = b ∧ i < j)
    · rw [if_pos q, if_pos (by omega)]
    · rw [if_neg q, if_neg (by omega)]
theorem qk_l (hO : qOk Q) (hb : b < Q.1) (hj : j < Q.2.1 b) : lnO2 (rwB Q b j) (Q.2.2.1 b j) := by
  obtain ⟨h0, h1, h2, h3⟩ := hO.2 b hb
  unfold lnO2 rwB
  by_cases e : j + 1 < Q.2.1 b
  · rw [if_pos (decide_eq_true e)]; exact h1 j e
  · rw [if_neg (by rw [decide_eq_true_iff]; exact e)]
    rw [show Q.2.1 b - 1 = j by omega] at h2 h3
    refine ⟨h2, ?_⟩
    rcases h3 with h3 | h3 | h3 <;> omega
end RFX
end
section
/-! a program of the reference behind a row taken out, put in, made -/
section RFY
variable {D : va_G} {I : FieldType → ClassId} {P P1 : List Nat} {F F1 : Nat → va_E} {γ γ1 el el1 : Nat → Nat → Nat} {f c b k x lst dc ds : Nat} {Q : gPg} {l : Nat → Int} {K KF : List Nat} {R R' : Nat → Nat → va_E → Prop}
theorem hB2_ (hT : RS D I P F γ el) (hc : γ 0 c = 9) (hcf : γ 1 c = f) (h6 : γ 6 f = Q.1) : ∀ i, i < Q.1 → γ 0 (el (γ 14 c) i) = 2 := fun i hi => (rBk_at hT hc hcf (show i < γ 6 f by omega)).2.1
/-- blocks, their goals and lists stay -/
theorem rfY_b (hT : RS D I P F γ el) (hc : γ 0 c = 9) (hcf : γ 1 c = f) (h6 : γ 6 f = Q.1) (hs : rSk f K KF D I P F γ el P1 F1 γ1 el1) (h2 : 2 ∉ KF) (s2 : el1 (γ 14 c) = el (γ 14 c)) : γ1 14 c = γ 14 c ∧ ∀ i, i < Q.1 → rwL γ1 el1 c i = rwL γ el c i ∧ el1 (γ1 14 c) i = el (γ 14 c) i ∧ F1 (el (γ 14 c) i) = F (el (γ 14 c) i) ∧ γ1 15 (el (γ 14 c) i) = γ 15 (el (γ 14 c) i) := by
  have s1 := (rSk_s hs (show rKd γ c 9 from hc) (by decide)).2.1
  refine ⟨s1, fun i hi => ?_⟩
  have b2 := hB2_ hT hc hcf h6 i hi
  have s3 := rSk_s hs (show rKd γ (el (γ 14 c) i) 2 from b2) (by decide)
  exact ⟨by unfold rwL; rw [s1, s2, s3.2.1], by rw [s1, s2], rSk_F hs (show rKd γ _ 2 from b2) (by decide) h2, s3.2.2.1⟩
/-- a row taken out -/
theorem rPl_dg {i0 : Nat} (hT : RS D I P F γ el) (hc : γ 0 c = 9) (hcf : γ 1 c = f) (hq : rDq D I P F γ el f lst k F1 γ1 el1) (hl : γ 14 (el (γ 14 c) i0) = lst) (hi0 : i0 < γ 6 f) (hk : k < γ 2 lst) (h : rPl γ el F c (γ 6 f) R) (h1 : ∀ i j e, i ≠ i0 → R i j e → R' i j e) (h2 : ∀ j e, j < k → R i0 j e → R' i0 j e) (h3 : ∀ j e, k ≤ j → R i0 (j + 1) e → R' i0 j e) : rPl γ1 el1 F1 c (γ1 6 f) R' := by
  obtain ⟨q1, q3, q4, q5, -, -, q8, -⟩ := hq
  have hs := rSk_of q1
  intro i hi j hj
  rw [q8.1] at hi
  obtain ⟨b1, b2, b3, b4, b5, b6, b7, b8, b9, b10, b11⟩ := rBk_at hT hc hcf hi
  obtain ⟨c1, c2, c3, c4, c5, c6, c7, c8, c9, c10, c11⟩ := rBk_at hT hc hcf hi0
  obtain ⟨a21, a4, a41, a5, a51⟩ := rc_at hT hc hcf
  have hl' : rwL γ el c i0 = lst := hl
  rw [hl'] at c4 c5 c6 c11
  have s1 := (rSk_s hs (show rKd γ c 9 from hc) (by decide)).2.1
  obtain ⟨-, s2⟩ := q5 (γ 14 c) (by omega) (fun e => by rw [e] at a4; omega)
  have s3 := rSk_s hs (show rKd γ (el (γ 14 c) i) 2 from b2) (by decide)
  have el_ : rwL γ1 el1 c i = rwL γ el c i := by unfold rwL; rw [s1, s2, s3.2.1]
  have e15 : γ1 15 (el1 (γ1 14 c) i) = γ 15 (el (γ 14 c) i) := by rw [s1, s2, s3.2.2.1]
  have F1r : ∀ j, F1 (rAt γ el c i j) = F (rAt γ el c i j) := fun j => rSk_F hs (show rKd γ _ 1 from (rAt_k hT hc hcf hi).1) (by decide) (by decide)
  rw [el_] at hj
  by_cases ei : i = i0
  · subst ei
    rw [hl', q3] at hj
    have hF := F1r
    unfold rAt at hF ⊢
    rw [el_, hl', q3, q4, e15]
    rw [hl'] at hF
    have hh : ∀ j, j ≤ γ 2 lst → R i j (F (if j < γ 2 lst then el lst j else γ 15 (el (γ 14 c) i))) := fun j hj2 => by
      have z := h i hi j (by rw [hl']; exact hj2)
      unfold rAt at z
      rw [hl'] at z
      exact z
    by_cases t1 : j < k
    · rw [if_pos (by omega), if_pos t1]
      have z := hh j (by omega)
      have z2 := hF j
      rw [if_pos (by omega)] at z z2
      rw [z2]
      exact h2 j _ t1 z
    · have z := h3 j _ (by omega) (hh (j + 1) (by omega))
      have z2 := hF (j + 1)
      by_cases t3 : j < γ 2 lst - 1
      · rw [if_pos t3, if_neg t1]
        rw [if_pos (by omega)] at z z2
        rw [z2]
        exact z
      · rw [if_neg t3]
        rw [if_neg (by omega)] at z z2
        rw [z2]
        exact z
  · have hne : rwL γ el c i ≠ lst := fun e => by
      rw [e, c5] at b5
      rw [← b5, c3] at b3
      exact ei b3.symm
    obtain ⟨l1, l2⟩ := q5 _ (by rw [b4]; decide) hne
    have ea : rAt γ1 el1 c i j = rAt γ el c i j := by unfold rAt; rw [el_, l1, l2, e15]
    rw [l1] at hj
    rw [ea, F1r]
    exact h1 i j _ ei (h i hi j hj)
theorem rfX_del (hT : RS D I P F γ el) (hc : γ 0 c = 9) (hcf : γ 1 c = f) (h6 : γ 6 f = Q.1) (h : rfX γ el F c Q) (hq : rDq D I P F γ el f (rwL γ el c b) k F1 γ1 el1) (hb : b < Q.1) (hk : k + 1 < Q.2.1 b) : rfX γ1 el1 F1 c (pgDr Q b k) ∧ γ1 6 f = Q.1 := by
  obtain ⟨a1, a2, a3⟩ := h
  have hq0 := hq
  obtain ⟨q1, q3, q4, q5, -, -, q8, -⟩ := hq
  have hs := rSk_of q1
  obtain ⟨a21, a4, a41, a5, a51⟩ := rc_at hT hc hcf
  have bk := fun i (hi : i < Q.1) => rBk_at hT hc hcf (show i < γ 6 f by omega)
  have nl : γ 14 c ≠ rwL γ el c b := fun e => by have := (bk b hb).2.2.2.1; rw [← e, a4] at this; cases this
  obtain ⟨-, s2⟩ := q5 (γ 14 c) (by omega) nl
  obtain ⟨t1, t2⟩ := rfY_b hT hc hcf h6 hs (by decide) s2
  have m := (a2 b hb).1
  have n6 : γ1 6 f = Q.1 := q8.1.trans h6
  have ne : ∀ i, i < Q.1 → i ≠ b → rwL γ el c i ≠ rwL γ el c b := fun i hi hib e => by
    have x1 := (bk i hi).2.2.2.2.1
    have x2 := (bk b hb).2.2.2.2.1
    rw [e, x2] at x1
    have y1 := (bk i hi).2.2.1
    have y2 := (bk b hb).2.2.1
    rw [← x1, y2] at y1
    exact hib y1.symm
  refine ⟨⟨?_, fun i hi => ?_, ?_⟩, n6⟩
  · rw [rSk_F hs (show rKd γ c 9 from hc) (by decide) (by decide)]; exact a1
  · have hi' : i < Q.1 := hi
    obtain ⟨u1, u2, u3, u4⟩ := t2 i hi'
    obtain ⟨m1, m2⟩ := a2 i hi'
    rw [u1, u2, u3]
    show γ1 2 (rwL γ el c i) + 1 = (if i = b then Q.2.1 i - 1 else Q.2.1 i) ∧ gLX (Q.2.2.1 i (if i = b ∧ k ≤ (if i = b then Q.2.1 i - 1 else Q.2.1 i) - 1 then (if i = b then Q.2.1 i - 1 else Q.2.1 i) - 1 + 1 else (if i = b then Q.2.1 i - 1 else Q.2.1 i) - 1) 0) (Q.2.2.2 i) _ _
    by_cases e : i = b
    · subst e
      rw [if_pos rfl, q3, if_pos ⟨rfl, by omega⟩, show Q.2.1 i - 1 - 1 + 1 = Q.2.1 i - 1 by omega]
      exact ⟨by omega, m2⟩
    · rw [if_neg e, if_neg (fun z => e z.1), (q5 _ (by rw [(bk i hi').2.2.2.1]; decide) (ne i hi' e)).1]
      exact ⟨m1, m2⟩
  · have a3' : rPl γ el F c (γ 6 f) (lnQ Q) := by rw [h6]; exact a3
    have r := rPl_dg (R' := lnQ (pgDr Q b k)) hT hc hcf hq0 rfl (show b < γ 6 f by omega) (show k < γ 2 (rwL γ el c b) by omega) a3' (fun i j e hi he => by
      show lnX (decide (j + 1 < if i = b then Q.2.1 i - 1 else Q.2.1 i)) (Q.2.2.1 i (if i = b ∧ k ≤ j then j + 1 else j)) e
      rw [if_neg hi, if_neg (fun z => hi z.1)]
      exact he) (fun j e hj he => by
      show lnX (decide (j + 1 < if b = b then Q.2.1 b - 1 else Q.2.1 b)) (Q.2.2.1 b (if b = b ∧ k ≤ j then j + 1 else j)) e
      rw [if_pos rfl, if_neg (fun z => by omega), show decide (j + 1 < Q.2.1 b - 1) = decide (j + 1 < Q.2.1 b) from decide_eq_decide.mpr (by omega)]
      exact he) (fun j e hj he => by
      show lnX (decide (j + 1 < if b = b then Q.2.1 b - 1 else Q.2.1 b)) (Q.2.2.1 b (if b = b ∧ k ≤ j then j + 1 else j)) e
      rw [if_pos rfl, if_pos ⟨rfl, hj⟩, show decide (j + 1 < Q.2.1 b - 1) = decide (j + 1 + 1 < Q.2.1 b) from decide_eq_decide.mpr (by omega)]
      exact he)
    rw [n6] at r
    exact r
/-- a row put in -/
def pgIns (Q : gPg) (b k : Nat) (l : Nat → Int) : gPg := (Q.1, fun d => if d = b then Q.2.1 d + 1 else Q.2.1 d, fun d i => if d = b then (if i < k then Q.2.2.1 d i else if i = k then l else Q.2.2.1 d (i - 1)) else Q.2.2.1 d i, Q.2.2.2)
theorem rfX_ins (hT : RS D I P F γ el) (hc : γ 0 c = 9) (hcf : γ 1 c = f) (h6 : γ 6 f = Q.1) (h : rfX γ el F c Q) (hq : rIq D I P F γ el f (rwL γ el c b) k x P1 F1 γ1 el1 dc ds) (hb : b < Q.1) (hk : k < Q.2.1 b) (hl : lnX true l (F x)) : rfX γ1 el1 F1 c (pgIns Q b k l) ∧ γ1 6 f = Q.1 := by
  obtain ⟨a1, a2, a3⟩ := h
  have hq0 := hq
  obtain ⟨q1, q2, q3, q4, q5, -, -, q8, q9, -⟩ := hq
  have hs := rSk_of q1
  obtain ⟨a21, a4, a41, a5, a51⟩ := rc_at hT hc hcf
  have bk := fun i (hi : i < Q.1) => rBk_at hT hc hcf (show i < γ 6 f by omega)
  have nl : γ 14 c ≠ rwL γ el c b := fun e => by have := (bk b hb).2.2.2.1; rw [← e, a4] at this; cases this
  obtain ⟨-, s2⟩ := q5 (γ 14 c) (by omega) nl
  obtain ⟨t1, t2⟩ := rfY_b hT hc hcf h6 hs (by decide) s2
  have m := (a2 b hb).1
  have n6 : γ1 6 f = Q.1 := q8.1.trans h6
  have ne : ∀ i, i < Q.1 → i ≠ b → rwL γ el c i ≠ rwL γ el c b := fun i hi hib e => by
    have x1 := (bk i hi).2.2.2.2.1
    have x2 := (bk b hb).2.2.2.2.1
    rw [e, x2] at x1
    have y1 := (bk i hi).2.2.1
    have y2 := (bk b hb).2.2.1
    rw [← x1, y2] at y1
    exact hib y1.symm
  refine ⟨⟨?_, fun i hi => ?_, ?_⟩, n6⟩
  · rw [rSk_F hs (show rKd γ c 9 from hc) (by decide) (by decide)]; exact a1
  · have hi' : i < Q.1 := hi
    obtain ⟨u1, u2, u3, u4⟩ := t2 i hi'
    obtain ⟨m1, m2⟩ := a2 i hi'
    rw [u1, u2, u3]
    show γ1 2 (rwL γ el c i) + 1 = (if i = b then Q.2.1 i + 1 else Q.2.1 i) ∧ gLX ((if i = b then (if (if i = b then Q.2.1 i + 1 else Q.2.1 i) - 1 < k then Q.2.2.1 i ((if i = b then Q.2.1 i + 1 else Q.2.1 i) - 1) else if (if i = b then Q.2.1 i + 1 else Q.2.1 i) - 1 = k then l else Q.2.2.1 i ((if i = b then Q.2.1 i + 1 else Q.2.1 i) - 1 - 1)) else Q.2.2.1 i ((if i = b then Q.2.1 i + 1 else Q.2.1 i) - 1)) 0) (Q.2.2.2 i) _ _
    by_cases e : i = b
    · subst e
      rw [if_pos rfl, if_pos rfl, q3, if_neg (by omega), if_neg (by omega), show Q.2.1 i + 1 - 1 - 1 = Q.2.1 i - 1 by omega]
      exact ⟨by omega, m2⟩
    · rw [if_neg e, if_neg e, (q5 _ (by rw [(bk i hi').2.2.2.1]; decide) (ne i hi' e)).1]
      exact ⟨m1, m2⟩
  · have a3' : rPl γ el F c (γ 6 f) (lnQ Q) := by rw [h6]; exact a3
    have r := rPl_ins (R' := lnQ (pgIns Q b k l)) hT hc hcf hq0 rfl (show b < γ 6 f by omega) (show k ≤ γ 2 (rwL γ el c b) by omega) a3' (fun i j e hi he => by
      show lnX (decide (j + 1 < if i = b then Q.2.1 i + 1 else Q.2.1 i)) (if i = b then (if j < k then Q.2.2.1 i j else if j = k then l else Q.2.2.1 i (j - 1)) else Q.2.2.1 i j) e
      rw [if_neg hi, if_neg hi]
      exact he) (fun j e hj he => by
      show lnX (decide (j + 1 < if b = b then Q.2.1 b + 1 else Q.2.1 b)) (if b = b then (if j < k then Q.2.2.1 b j else if j = k then l else Q.2.2.1 b (j - 1)) else Q.2.2.1 b j) e
      rw [if_pos rfl, if_pos rfl, if_pos hj, show decide (j + 1 < Q.2.1 b + 1) = decide (j + 1 < Q.2.1 b) from decide_eq_decide.mpr (by omega)]
      exact he) (by
      show lnX (decide (k + 1 < if b = b then Q.2.1 b + 1 else Q.2.1 b)) (if b = b then (if k < k then Q.2.2.1 b k else if k = k then l else Q.2.2.1 b (k - 1)) else Q.2.2.1 b k) (F x)
      rw [if_pos rfl, if_pos rfl, if_neg (Nat.lt_irrefl k), if_pos rfl, decide_eq_true (show k + 1 < Q.2.1 b + 1 by omega)]
      exact hl) (fun j e hj he => by
      show lnX (decide (j + 1 + 1 < if b = b then Q.2.1 b + 1 else Q.2.1 b)) (if b = b then (if j + 1 < k then Q.2.2.1 b (j + 1) else if j + 1 = k then l else Q.2.2.1 b (j + 1 - 1)) else Q.2.2.1 b (j + 1)) e
      rw [if_pos rfl, if_pos rfl, if_neg (by omega), if_neg (by omega), show j + 1 - 1 = j from rfl, show decide (j + 1 + 1 < Q.2.1 b + 1) = decide (j + 1 < Q.2.1 b) from decide_eq_decide.mpr (by omega)]
      exact he)
    rw [n6] at r
    exact r
/-- a row made -/
theorem rfX_rw (hT : RS D I P F γ el) (hc : γ 0 c = 9) (hcf : γ 1 c = f) (h6 : γ 6 f = Q.1) (h : rfX γ el F c Q) (hq : rRq D I P F γ el f c P1 F1 γ1 el1 x dc ds) : rfX γ1 el1 F1 c Q ∧ γ1 6 f = Q.1 := by
  obtain ⟨a1, a2, a3⟩ := h
  have hq0 := hq
  obtain ⟨q1, -, -, -, -, -, -, q8, q9, -, ⟨-, -, qm⟩, -⟩ := hq
  have hs := rSk_of q1
  obtain ⟨a21, a4, a41, a5, a51⟩ := rc_at hT hc hcf
  have bk := fun i (hi : i < Q.1) => rBk_at hT hc hcf (show i < γ 6 f by omega)
  obtain ⟨-, s2⟩ := q9 (γ 14 c) (by omega) (by omega)
  obtain ⟨t1, t2⟩ := rfY_b hT hc hcf h6 hs (by decide) s2
  have n6 : γ1 6 f = Q.1 := q8.1.trans h6
  refine ⟨⟨qm.trans a1, fun i hi => ?_, ?_⟩, n6⟩
  · obtain ⟨u1, u2, u3, u4⟩ := t2 i hi
    rw [u1, u2, u3, (q9 _ (by rw [(bk i hi).2.2.2.1]; decide) (by rw [(bk i hi).2.2.2.1]; decide)).1]
    exact a2 i hi
  · have a3' : rPl γ el F c (γ 6 f) (lnQ Q) := by rw [h6]; exact a3
    have r := rPl_row hT hc hcf hq0 a3'
    rw [n6] at r
    exact r
/-- cells without rows, blocks and the program changed -/
theorem rfX_fr (hT : RS D I P F γ el) (hc : γ 0 c = 9) (hcf : γ 1 c = f) (h6 : γ 6 f = Q.1) (h : rfX γ el F c Q) (hF : ∀ a, γ 0 a = 1 ∨ γ 0 a = 2 ∨ γ 0 a = 9 → F1 a = F a) : rfX γ el F1 c Q := by
  obtain ⟨a1, a2, a3⟩ := h
  refine ⟨by rw [hF c (Or.inr (Or.inr hc))]; exact a1, fun i hi => ?_, ?_⟩
  · rw [hF _ (Or.inr (Or.inl (hB2_ hT hc hcf h6 i hi)))]; exact a2 i hi
  · have a3' : rPl γ el F c (γ 6 f) (lnQ Q) := by rw [h6]; exact a3
    have r := rPl_fr hT hc hcf a3' (fun a ha _ => hF a (Or.inl ha))
    rw [h6] at r
    exact r
theorem rfX_rs {W : List Nat} (hT : RS D I P F γ el) (hc : γ 0 c = 9) (hcf : γ 1 c = f) (h6 : γ 6 f = Q.1) (h : rfX γ el F c Q) (hs : rStr γ W F F1) (hW : 1 ∉ W ∧ 2 ∉ W ∧ 9 ∉ W) : rfX γ el F1 c Q := rfX_fr hT hc hcf h6 h (fun a ha => by
  rcases ha with ha | ha | ha
  · exact hs a (by omega) (by omega) (by rw [ha]; exact hW.1)
  · exact hs a (by omega) (by omega) (by rw [ha]; exact hW.2.1)
  · exact hs a (by omega) (by omega) (by rw [ha]; exact hW.2.2))
end RFY
end
section
/-! merging: what it keeps of a program's form -/
section RFZ
variable {Q : gPg} {b k j : Nat} {w v : Int} {l : Nat → Int} {op t a bb rA rB s : Int32}
theorem qOk_dr (h : qOk Q) (hb : b < Q.1) (hk : k + 1 < Q.2.1 b) : qOk (pgDr Q b k) := by
  refine ⟨h.1, fun c hc => ?_⟩
  obtain ⟨h0, h1, h2, h3⟩ := h.2 c hc
  show blC2 (if c = b then Q.2.1 c - 1 else Q.2.1 c) (fun i => Q.2.2.1 c (if c = b ∧ k ≤ i then i + 1 else i)) (Q.2.2.2 c)
  by_cases e : c = b
  · subst e
    rw [if_pos rfl]
    have el : (if c = c ∧ k ≤ Q.2.1 c - 1 - 1 then Q.2.1 c - 1 - 1 + 1 else Q.2.1 c - 1 - 1) = Q.2.1 c - 1 := by rw [if_pos ⟨rfl, by omega⟩]; omega
    refine ⟨by omega, fun j hj => h1 _ ?_, ?_, ?_⟩
    · split <;> omega
    · show edO2 (Q.2.2.1 c (if c = c ∧ k ≤ Q.2.1 c - 1 - 1 then Q.2.1 c - 1 - 1 + 1 else Q.2.1 c - 1 - 1))
      rw [el]; exact h2
    · show edG (Q.2.2.1 c (if c = c ∧ k ≤ Q.2.1 c - 1 - 1 then Q.2.1 c - 1 - 1 + 1 else Q.2.1 c - 1 - 1) 0) _ _
      rw [el]; exact h3
  · rw [if_neg e]
    have el : ∀ i, (if c = b ∧ k ≤ i then i + 1 else i) = i := fun i => if_neg (fun z => e z.1)
    refine ⟨h0, fun j hj => ?_, ?_, ?_⟩
    · show rwO2 (Q.2.2.1 c (if c = b ∧ k ≤ j then j + 1 else j))
      rw [el]; exact h1 j hj
    · show edO2 (Q.2.2.1 c (if c = b ∧ k ≤ Q.2.1 c - 1 then Q.2.1 c - 1 + 1 else Q.2.1 c - 1))
      rw [el]; exact h2
    · show edG (Q.2.2.1 c (if c = b ∧ k ≤ Q.2.1 c - 1 then Q.2.1 c - 1 + 1 else Q.2.1 c - 1) 0) _ _
      rw [el]; exact h3
theorem rnV_b {x : Int} (hw : 0 ≤ w) (hv : 0 ≤ v) (hv2 : v ≤ 1999) : (x = -1 → rnV w v x = -1) ∧ (0 ≤ x → 0 ≤ rnV w v x) ∧ (x ≤ 1999 → rnV w v x ≤ 1999) ∧ (-1 ≤ x → -1 ≤ rnV w v x) := by
  unfold rnV
  by_cases c : x = w
  · rw [if_pos c]; exact ⟨fun z => by omega, fun _ => hv, fun _ => hv2, fun _ => by omega⟩
  · rw [if_neg c]; exact ⟨id, id, id, id⟩
theorem rwO2_rn (hw : 0 ≤ w) (hv : 0 ≤ v) (hv2 : v ≤ 1999) (h : rwO2 l) : rwO2 (rnL w v l) := by
  obtain ⟨o1, o2, o3, o4, o5, o6, o7⟩ := h
  have q1 := rnV_b (x := l 1) hw hv hv2
  have q2 := rnV_b (x := l 2) hw hv hv2
  have q4 := rnV_b (x := l 4) hw hv hv2
  refine ⟨o1, ⟨q2.2.2.2 o2.1, q2.2.2.1 o2.2⟩, ⟨q4.2.2.2 o3.1, q4.2.2.1 o3.2⟩, fun z => ⟨q1.2.1 (o4 z).1, q1.2.2.1 (o4 z).2⟩, fun z => q1.1 (o5 z), fun z => q2.1 (o6 z), fun z => q4.1 (o7 z)⟩
theorem edO2_rn (hw : 0 ≤ w) (hv : 0 ≤ v) (hv2 : v ≤ 1999) (h : edO2 l) : edO2 (rnL w v l) := by
  obtain ⟨o1, o2, o3, o4⟩ := h
  have q1 := rnV_b (x := l 1) hw hv hv2
  have q2 := rnV_b (x := l 2) hw hv hv2
  have q4 := rnV_b (x := l 4) hw hv hv2
  exact ⟨q1.1 o1, ⟨q2.2.2.2 o2.1, q2.2.2.1 o2.2⟩, q4.1 o3, fun z => q2.1 (o4 z)⟩
theorem qOk_rn (hw : 0 ≤ w) (hv : 0 ≤ v) (hv2 : v ≤ 1999) (h : qOk Q) : qOk (pgRn Q w v) := by
  refine ⟨h.1, fun c hc => ?_⟩
  obtain ⟨h0, h1, h2, h3⟩ := h.2 c hc
  exact ⟨h0, fun j hj => rwO2_rn hw hv hv2 (h1 j hj), edO2_rn hw hv hv2 h2, h3⟩
theorem mg_lt (hO : qOk Q) {k : Int} (h : mgb Q k b j) : j + 1 < Q.2.1 b := by
  obtain ⟨hb, hj, h0, -⟩ := h
  obtain ⟨-, -, -, h3⟩ := hO.2 b hb
  refine Classical.byContradiction fun n => ?_
  rw [show Q.2.1 b - 1 = j by omega] at h3
  rcases h3 with h3 | h3 | h3 <;> omega
theorem mg_b (hO : qOk Q) {k : Int} (h : mgb Q k b j) : 0 ≤ Q.2.2.1 b j 1 ∧ Q.2.2.1 b j 1 ≤ 1999 ∧ 0 ≤ Q.2.2.1 b j 2 ∧ Q.2.2.1 b j 2 ≤ 1999 := by
  have hl := mg_lt hO h
  obtain ⟨hb, hj, h0, h1, h2, -⟩ := h
  obtain ⟨-, g1, -, -⟩ := hO.2 b hb
  obtain ⟨o1, o2, o3, o4, -⟩ := g1 j hl
  have := o4 (Or.inl (by omega))
  omega
theorem qOk_mg (hO : qOk Q) {k : Int} (h : mgb Q k b j) : qOk (mg1 Q b j) := by
  have q := mg_b hO h
  exact qOk_rn (by omega) (by omega) (by omega) (qOk_dr hO h.1 (mg_lt hO h))
theorem rn_id : rnL w w l = l := by
  funext f
  unfold rnL rnV
  split
  · split
    · next h => exact h.symm
    · rfl
  · rfl
theorem mg_row (hO : rwO2 l) (h : rwF l op t a bb rA rB s) (hb : rA.toInt = 0 ∨ rA.toInt = 1) : (op.toInt = 0 ↔ l 0 = 14) ∧ (l 0 = 14 → t.toInt = l 1 ∧ ((rA.toInt = 0 ∧ l 2 = -1) ∨ (rA.toInt ≠ 0 ∧ a.toInt = l 2 ∧ 0 ≤ l 2))) := by
  obtain ⟨e1, e2, e3, e4, e5, e6⟩ := h
  obtain ⟨o1, o2, o3, o4, o5, o6, o7⟩ := hO
  unfold opdE at e1 e2 e4 e6
  have hx : l 0 ≤ 13 ∨ l 0 = 14 ∨ l 0 = 15 ∨ l 0 = 16 ∨ l 0 = 17 ∨ l 0 = 18 := by omega
  rcases hx with hx | hx | hx | hx | hx | hx
  · have p := (e1 hx).1
    exact ⟨by omega, fun z => by omega⟩
  · obtain ⟨p1, p2, p3⟩ := e2 hx
    exact ⟨by omega, fun _ => ⟨p2, by omega⟩⟩
  · have p := (e3 hx).1
    exact ⟨by omega, fun z => by omega⟩
  · have p := (e4 hx).1
    exact ⟨by omega, fun z => by omega⟩
  · have p := (e5 hx).1
    exact ⟨by omega, fun z => by omega⟩
  · have p := (e6 hx).1
    exact ⟨by omega, fun z => by omega⟩
end RFZ
end
section
/-! loads and stores put into a program, in its middle -/
section SPM
variable {so : Nat → Int} {R Q : gPg} {S T : gSp6} {b i j d : Nat} {l lc : Nat → Int}
/-- lines 0 to i of block b done: S; the rest as it was -/
def mid (S : gSp6) (R : gPg) (b i : Nat) : gPg := (R.1, fun d => if d < b then S.1.2.1 d else if d = b then S.1.2.1 b + (R.2.1 b - i) else R.2.1 d, fun d j => if d < b then S.1.2.2.1 d j else if d = b then (if j < S.1.2.1 b then S.1.2.2.1 b j else R.2.2.1 b (j - S.1.2.1 b + i)) else R.2.2.1 d j, R.2.2.2)
/-- lines that agree within what counts -/
def pgAq (Q R : gPg) : Prop := R.1 = Q.1 ∧ ∀ i, i < Q.1 → R.2.1 i = Q.2.1 i ∧ R.2.2.2 i = Q.2.2.2 i ∧ ∀ j, j < Q.2.1 i → R.2.2.1 i j = Q.2.2.1 i j
theorem mid_len : (mid S R b i).2.1 b = S.1.2.1 b + (R.2.1 b - i) := by
  show (if b < b then S.1.2.1 b else if b = b then S.1.2.1 b + (R.2.1 b - i) else R.2.1 b) = _
  rw [if_neg (Nat.lt_irrefl b), if_pos rfl]
theorem mid_cur : (mid S R b i).2.2.1 b (S.1.2.1 b) = R.2.2.1 b i := by
  show (if b < b then S.1.2.2.1 b (S.1.2.1 b) else if b = b then (if S.1.2.1 b < S.1.2.1 b then S.1.2.2.1 b (S.1.2.1 b) else R.2.2.1 b (S.1.2.1 b - S.1.2.1 b + i)) else R.2.2.1 b (S.1.2.1 b)) = _
  rw [if_neg (Nat.lt_irrefl b), if_pos rfl, if_neg (Nat.lt_irrefl _), show S.1.2.1 b - S.1.2.1 b + i = i by omega]
/-- pgL in the last block -/
theorem L_len (h : S.1.1 = b + 1) : (pgL S.1 l).2.1 b = S.1.2.1 b + 1 := by
  show (if b + 1 = S.1.1 then S.1.2.1 b + 1 else S.1.2.1 b) = _
  rw [if_pos h.symm]
theorem L_oth (h : S.1.1 = b + 1) (hd : d < b) : (pgL S.1 l).2.1 d = S.1.2.1 d ∧ (pgL S.1 l).2.2.1 d = S.1.2.2.1 d := by
  refine ⟨?_, funext fun j => ?_⟩
  · show (if d + 1 = S.1.1 then S.1.2.1 d + 1 else S.1.2.1 d) = _
    rw [if_neg (by omega)]
  · show (if d + 1 = S.1.1 ∧ j = S.1.2.1 d then l else S.1.2.2.1 d j) = _
    rw [if_neg (fun z => by omega)]
theorem L_ln (h : S.1.1 = b + 1) : (pgL S.1 l).2.2.1 b j = if j = S.1.2.1 b then l else S.1.2.2.1 b j := by
  show (if b + 1 = S.1.1 ∧ j = S.1.2.1 b then l else S.1.2.2.1 b j) = _
  by_cases c : j = S.1.2.1 b
  · rw [if_pos ⟨h.symm, c⟩, if_pos c]
  · rw [if_neg (fun z => c z.2), if_neg c]
/-- a line put in front of the current one -/
theorem mid_ins {n : Nat} (h : S.1.1 = b + 1) (hi : i < R.2.1 b) (hb : b < R.1) : pgAq (pgIns (pgSt (mid S R b i) b (S.1.2.1 b) lc) b (S.1.2.1 b) l) (pgSt (mid (pgL S.1 l, n) R b i) b (S.1.2.1 b + 1) lc) := by
  refine ⟨rfl, fun d hd => ?_⟩
  have e0 : (pgL S.1 l).2.1 b = S.1.2.1 b + 1 := L_len h
  rcases Nat.lt_trichotomy d b with q | q | q
  · obtain ⟨o1, o2⟩ := L_oth (l := l) h q
    refine ⟨?_, rfl, fun j hj => ?_⟩
    · show (if d < b then (pgL S.1 l).2.1 d else _) = (if d = b then (if d < b then S.1.2.1 d else _) + 1 else (if d < b then S.1.2.1 d else _))
      rw [if_pos q, if_neg (by omega), if_pos q, o1]
    · show (if d = b ∧ j = S.1.2.1 b + 1 then lc else (if d < b then (pgL S.1 l).2.2.1 d j else _)) = (if d = b then _ else (if d = b ∧ j = S.1.2.1 b then lc else (if d < b then S.1.2.2.1 d j else _)))
      rw [if_neg (fun z => by omega), if_pos q, if_neg (by omega), if_neg (fun z => by omega), if_pos q, o2]
  · subst q
    refine ⟨?_, rfl, fun j hj => ?_⟩
    · show (if d < d then _ else if d = d then (pgL S.1 l).2.1 d + (R.2.1 d - i) else _) = (if d = d then (if d < d then _ else if d = d then S.1.2.1 d + (R.2.1 d - i) else _) + 1 else _)
      rw [if_neg (Nat.lt_irrefl d), if_pos rfl, if_pos rfl, if_neg (Nat.lt_irrefl d), if_pos rfl, e0]
      omega
    · show (if d = d ∧ j = S.1.2.1 d + 1 then lc else (if d < d then _ else if d = d then (if j < (pgL S.1 l).2.1 d then (pgL S.1 l).2.2.1 d j else R.2.2.1 d (j - (pgL S.1 l).2.1 d + i)) else _)) = (if d = d then (if j < S.1.2.1 d then (if d = d ∧ j = S.1.2.1 d then lc else (if d < d then _ else if d = d then (if j < S.1.2.1 d then S.1.2.2.1 d j else R.2.2.1 d (j - S.1.2.1 d + i)) else _)) else if j = S.1.2.1 d then l else (if d = d ∧ j - 1 = S.1.2.1 d then lc else (if d < d then _ else if d = d then (if j - 1 < S.1.2.1 d then S.1.2.2.1 d (j - 1) else R.2.2.1 d (j - 1 - S.1.2.1 d + i)) else _))) else _)
      simp only [if_neg (Nat.lt_irrefl d), if_true, true_and, e0]
      rw [L_ln h]
      by_cases c1 : j < S.1.2.1 d
      · rw [if_neg (by omega), if_pos (by omega), if_neg (by omega), if_pos c1, if_neg (by omega), if_pos c1]
      · by_cases c2 : j = S.1.2.1 d
        · rw [if_neg (by omega), if_pos (by omega), if_pos c2, if_neg c1, if_pos c2]
        · have a4 : ¬ j < S.1.2.1 d + 1 := by omega
          by_cases c3 : j = S.1.2.1 d + 1
          · have a3 : j - 1 = S.1.2.1 d := by omega
            simp only [if_neg c1, if_neg c2, if_pos c3, if_pos a3, if_neg a4]
          · have a3 : ¬ j - 1 = S.1.2.1 d := by omega
            have a5 : ¬ j - 1 < S.1.2.1 d := by omega
            have e9 : j - (S.1.2.1 d + 1) + i = j - 1 - S.1.2.1 d + i := by omega
            simp only [if_neg c1, if_neg c2, if_neg c3, if_neg a3, if_neg a4, if_neg a5, e9]
  · refine ⟨?_, rfl, fun j hj => ?_⟩
    · show (if d < b then _ else if d = b then _ else R.2.1 d) = (if d = b then _ else (if d < b then _ else if d = b then _ else R.2.1 d))
      rw [if_neg (by omega), if_neg (by omega), if_neg (by omega), if_neg (by omega), if_neg (by omega)]
    · show (if d = b ∧ j = S.1.2.1 b + 1 then lc else (if d < b then _ else if d = b then _ else R.2.2.1 d j)) = (if d = b then _ else (if d = b ∧ j = S.1.2.1 b then lc else (if d < b then _ else if d = b then _ else R.2.2.1 d j)))
      rw [if_neg (fun z => by omega), if_neg (by omega), if_neg (by omega), if_neg (by omega), if_neg (fun z => by omega), if_neg (by omega), if_neg (by omega)]
/-- the current line done -/
theorem mid_nxt {n : Nat} (h : S.1.1 = b + 1) (hi : i < R.2.1 b) : pgAq (pgSt (mid S R b i) b (S.1.2.1 b) l) (mid (pgL S.1 l, n) R b (i + 1)) := by
  refine ⟨rfl, fun d hd => ?_⟩
  have e0 : (pgL S.1 l).2.1 b = S.1.2.1 b + 1 := L_len h
  rcases Nat.lt_trichotomy d b with q | q | q
  · obtain ⟨o1, o2⟩ := L_oth (l := l) h q
    refine ⟨?_, rfl, fun j hj => ?_⟩
    · show (if d < b then (pgL S.1 l).2.1 d else _) = (if d < b then S.1.2.1 d else _)
      rw [if_pos q, if_pos q, o1]
    · show (if d < b then (pgL S.1 l).2.2.1 d j else _) = (if d = b ∧ j = S.1.2.1 b then l else (if d < b then S.1.2.2.1 d j else _))
      rw [if_pos q, if_neg (fun z => by omega), if_pos q, o2]
  · subst q
    refine ⟨?_, rfl, fun j hj => ?_⟩
    · show (if d < d then _ else if d = d then (pgL S.1 l).2.1 d + (R.2.1 d - (i + 1)) else _) = (if d < d then _ else if d = d then S.1.2.1 d + (R.2.1 d - i) else _)
      rw [if_neg (Nat.lt_irrefl d), if_pos rfl, if_neg (Nat.lt_irrefl d), if_pos rfl, e0]
      omega
    · show (if d < d then _ else if d = d then (if j < (pgL S.1 l).2.1 d then (pgL S.1 l).2.2.1 d j else R.2.2.1 d (j - (pgL S.1 l).2.1 d + (i + 1))) else _) = (if d = d ∧ j = S.1.2.1 d then l else (if d < d then _ else if d = d then (if j < S.1.2.1 d then S.1.2.2.1 d j else R.2.2.1 d (j - S.1.2.1 d + i)) else _))
      simp only [if_neg (Nat.lt_irrefl d), if_true, true_and, e0]
      rw [L_ln h]
      by_cases c1 : j < S.1.2.1 d
      · rw [if_pos (by omega), if_neg (by omega), if_neg (by omega), if_pos c1]
      · by_cases c2 : j = S.1.2.1 d
        · rw [if_pos (by omega), if_pos c2, if_pos c2]
        · rw [if_neg (by omega), if_neg c2, if_neg c1, show j - (S.1.2.1 d + 1) + (i + 1) = j - S.1.2.1 d + i by omega]
  · refine ⟨?_, rfl, fun j hj => ?_⟩
    · show (if d < b then _ else if d = b then _ else R.2.1 d) = (if d < b then _ else if d = b then _ else R.2.1 d)
      rw [if_neg (by omega), if_neg (by omega), if_neg (by omega), if_neg (by omega)]
    · show (if d < b then _ else if d = b then _ else R.2.2.1 d j) = (if d = b ∧ j = S.1.2.1 b then l else (if d < b then _ else if d = b then _ else R.2.2.1 d j))
      rw [if_neg (by omega), if_neg (by omega), if_neg (fun z => by omega), if_neg (by omega), if_neg (by omega)]
/-- a line behind the current one, which is done (a store) -/
theorem mid_sto {n : Nat} (h : S.1.1 = b + 1) (hi : i + 1 < R.2.1 b) : pgAq (pgIns (pgSt (mid S R b i) b (S.1.2.1 b) lc) b (S.1.2.1 b + 1) l) (mid (pgL (pgL S.1 lc) l, n) R b (i + 1)) := by
  have h1 : (pgL S.1 lc, n).1.1 = b + 1 := h
  have e1 : (pgL S.1 lc).2.1 b = S.1.2.1 b + 1 := L_len h
  have e2 : (pgL (pgL S.1 lc) l).2.1 b = S.1.2.1 b + 2 := by rw [L_len (S := (pgL S.1 lc, n)) h1, e1]
  refine ⟨rfl, fun d hd => ?_⟩
  rcases Nat.lt_trichotomy d b with q | q | q
  · obtain ⟨o1, o2⟩ := L_oth (l := lc) h q
    obtain ⟨o3, o4⟩ := L_oth (S := (pgL S.1 lc, n)) (l := l) h1 q
    refine ⟨?_, rfl, fun j hj => ?_⟩
    · show (if d < b then (pgL (pgL S.1 lc) l).2.1 d else _) = (if d = b then (if d < b then S.1.2.1 d else _) + 1 else (if d < b then S.1.2.1 d else _))
      rw [if_pos q, if_neg (by omega), if_pos q, o3, o1]
    · show (if d < b then (pgL (pgL S.1 lc) l).2.2.1 d j else _) = (if d = b then _ else (if d = b ∧ j = S.1.2.1 b then lc else (if d < b then S.1.2.2.1 d j else _)))
      rw [if_pos q, if_neg (by omega), if_neg (fun z => by omega), if_pos q, o4, o2]
  · subst q
    refine ⟨?_, rfl, fun j hj => ?_⟩
    · show (if d < d then _ else if d = d then (pgL (pgL S.1 lc) l).2.1 d + (R.2.1 d - (i + 1)) else _) = (if d = d then (if d < d then _ else if d = d then S.1.2.1 d + (R.2.1 d - i) else _) + 1 else _)
      rw [if_neg (Nat.lt_irrefl d), if_pos rfl, if_pos rfl, if_neg (Nat.lt_irrefl d), if_pos rfl, e2]
      omega
    · show (if d < d then _ else if d = d then (if j < (pgL (pgL S.1 lc) l).2.1 d then (pgL (pgL S.1 lc) l).2.2.1 d j else R.2.2.1 d (j - (pgL (pgL S.1 lc) l).2.1 d + (i + 1))) else _) = (if d = d then (if j < S.1.2.1 d + 1 then (if d = d ∧ j = S.1.2.1 d then lc else (if d < d then _ else if d = d then (if j < S.1.2.1 d then S.1.2.2.1 d j else R.2.2.1 d (j - S.1.2.1 d + i)) else _)) else if j = S.1.2.1 d + 1 then l else (if d = d ∧ j - 1 = S.1.2.1 d then lc else (if d < d then _ else if d = d then (if j - 1 < S.1.2.1 d then S.1.2.2.1 d (j - 1) else R.2.2.1 d (j - 1 - S.1.2.1 d + i)) else _))) else _)
      simp only [if_neg (Nat.lt_irrefl d), if_true, true_and, e2]
      rw [L_ln (S := (pgL S.1 lc, n)) h1, e1, L_ln h]
      by_cases c1 : j < S.1.2.1 d
      · rw [if_pos (by omega), if_neg (by omega), if_neg (by omega), if_pos (by omega), if_neg (by omega), if_pos c1]
      · by_cases c2 : j = S.1.2.1 d
        · rw [if_pos (by omega), if_neg (by omega), if_pos c2, if_pos (by omega), if_pos c2]
        · by_cases c3 : j = S.1.2.1 d + 1
          · rw [if_pos (by omega), if_pos c3, if_neg (by omega), if_pos c3]
          · rw [if_neg (by omega), if_neg (by omega), if_neg c3, if_neg (by omega), if_neg (by omega), show j - (S.1.2.1 d + 2) + (i + 1) = j - 1 - S.1.2.1 d + i by omega]
  · refine ⟨?_, rfl, fun j hj => ?_⟩
    · show (if d < b then _ else if d = b then _ else R.2.1 d) = (if d = b then _ else (if d < b then _ else if d = b then _ else R.2.1 d))
      rw [if_neg (by omega), if_neg (by omega), if_neg (by omega), if_neg (by omega), if_neg (by omega)]
    · show (if d < b then _ else if d = b then _ else R.2.2.1 d j) = (if d = b then _ else (if d = b ∧ j = S.1.2.1 b then lc else (if d < b then _ else if d = b then _ else R.2.2.1 d j)))
      rw [if_neg (by omega), if_neg (by omega), if_neg (by omega), if_neg (fun z => by omega), if_neg (by omega), if_neg (by omega)]
theorem rfX_A {γ el : Nat → Nat → Nat} {F : Nat → va_E} {c : Nat} (h : rfX γ el F c Q) (ha : pgAq Q R) : rfX γ el F c R := rfX_c h ha.1 ha.2
end SPM
section SPN
variable {γ el : Nat → Nat → Nat} {F : Nat → va_E} {c : Nat} {Q R : gPg} {so : Nat → Int} {l l2 : Nat → Int} {S : gSp6} {e : va_E} {r : Bool} {b i j : Nat}
theorem lnX_6 (h : lnX r l e) (h6 : ∀ f, f < 6 → l2 f = l f) : lnX r l2 e := by
  unfold lnX at h ⊢
  have e0 := h6 0 (by decide)
  have e1 := h6 1 (by decide)
  have e2 := h6 2 (by decide)
  have e3 := h6 3 (by decide)
  have e4 := h6 4 (by decide)
  have e5 := h6 5 (by decide)
  cases r with
  | false =>
    rw [if_neg (by decide)] at h ⊢
    unfold edR at h ⊢
    rw [e0, e2, e3]; exact h
  | true =>
    rw [if_pos rfl] at h ⊢
    unfold rwF at h ⊢
    rw [e0, e1, e2, e3, e4, e5]; exact h
theorem rfX_6 (h : rfX γ el F c Q) (h1 : R.1 = Q.1) (h2 : ∀ i, i < Q.1 → R.2.1 i = Q.2.1 i ∧ R.2.2.2 i = Q.2.2.2 i ∧ ∀ j, j < Q.2.1 i → ∀ f, f < 6 → R.2.2.1 i j f = Q.2.2.1 i j f) : rfX γ el F c R := by
  obtain ⟨a1, a2, a3⟩ := h
  refine ⟨by rw [h1]; exact a1, fun i hi => ?_, fun i hi k hk => ?_⟩
  · rw [h1] at hi
    obtain ⟨e1, e2, e3⟩ := h2 i hi
    have n := (a2 i hi).1
    rw [e1, e2, e3 _ (by omega) 0 (by decide)]
    exact a2 i hi
  · rw [h1] at hi
    obtain ⟨e1, e2, e3⟩ := h2 i hi
    have n := (a2 i hi).1
    have q := a3 i hi k hk
    unfold lnQ rwB at q ⊢
    rw [e1]
    exact lnX_6 q (fun f hf => e3 k (by omega) f hf)
theorem mk6 {f : Nat} (hf : f < 6) : mkL (l 0) (l 1) (l 2) (l 3) (l 4) (l 5) f = l f := by
  match f, hf with
  | 0, _ => rfl
  | 1, _ => rfl
  | 2, _ => rfl
  | 3, _ => rfl
  | 4, _ => rfl
  | 5, _ => rfl
/-- the current line as it is -/
theorem rfX_cur (h : rfX γ el F c Q) (hl : ∀ f, f < 6 → l f = Q.2.2.1 b j f) : rfX γ el F c (pgSt Q b j l) := rfX_6 h rfl (fun i hi => ⟨rfl, rfl, fun k hk f hf => by
  show (if i = b ∧ k = j then l else Q.2.2.1 i k) f = Q.2.2.1 i k f
  by_cases e : i = b ∧ k = j
  · rw [if_pos e, hl f hf, e.1, e.2]
  · rw [if_neg e]⟩)
theorem pgSt_2 : pgSt (pgSt Q b j l) b j l2 = pgSt Q b j l2 := by
  unfold pgSt
  congr 3
  funext d k
  by_cases e : d = b ∧ k = j
  · rw [if_pos e, if_pos e]
  · rw [if_neg e, if_neg e]; exact if_neg e
theorem pgSt_l : (pgSt Q b j l).2.2.1 b j = l := if_pos ⟨rfl, rfl⟩
theorem ldN_b {x : Int} (h : S.1.1 = b + 1) : (ldN so x S).1.1 = b + 1 := by
  unfold ldN
  split
  · exact h
  · exact h
theorem spR_b (h : S.1.1 = b + 1) : (spR so l S).1.1 = b + 1 := by
  unfold spR
  split
  · exact ldN_b h
  · exact ldN_b (ldN_b h)
end SPN
end
section
/-! the current line: what it uses, what is written into it -/
section SLN
variable {l : Nat → Int} {e e1 : va_E} {r : Bool} {y : Int32} {t : Int} {S : gSp6} {R : gPg} {b i : Nat}
theorem lnU_X (hO : lnO2 r l) (h : lnX r l e) : lnU l (fI e 0) (fI e 1) (fI e 2) (fI e 3) (fI e 5) (fI e 6) := by
  unfold lnX at h
  unfold lnO2 at hO
  cases r with
  | true =>
    rw [if_pos rfl] at h hO
    exact lnU_r hO h
  | false =>
    rw [if_neg (by decide)] at h hO
    obtain ⟨e1, e2, e3⟩ := h
    obtain ⟨⟨o1, o2, o3, o4⟩, o5, o6⟩ := hO
    unfold opdE at e2 e3
    have hx : l 0 = 19 ∨ l 0 = 20 ∨ l 0 = 21 := by omega
    rcases hx with hx | hx | hx
    · have p := e1 hx
      have q := o4 hx
      clear e1 e2 e3
      exact ⟨by omega, by omega, by omega⟩
    · obtain ⟨p1, p2⟩ := e2 hx
      clear e1 e2 e3
      exact ⟨by omega, by omega, by omega⟩
    · obtain ⟨p1, p2⟩ := e3 hx
      clear e1 e2 e3
      exact ⟨by omega, by omega, by omega⟩
theorem set_A (hO : lnO2 r l) (h : lnX r l e) (hs : rwS e) (he : e1 = cF e 2 (.int y)) (hu : 0 ≤ l 2) (hy : y.toInt = t) (ht : 0 ≤ t) : lnX r (mkL (l 0) (l 1) t (l 3) (l 4) (l 5)) e1 := by
  obtain ⟨-, f0, f1, f2, f3, f4, f5, f6⟩ := cw_2 hs he
  unfold lnX at h ⊢
  unfold lnO2 at hO
  cases r with
  | true =>
    rw [if_pos rfl] at h hO ⊢
    rw [f0, f1, f2, f3, f4, f5, f6]
    obtain ⟨e1, e2, e3, e4, e5, e6⟩ := h
    obtain ⟨o1, o2, o3, o4, o5, o6, o7⟩ := hO
    unfold opdE at e1 e2 e4 e6
    refine ⟨fun (z : l 0 ≤ 13) => ?_, fun (z : l 0 = 14) => ?_, fun (z : l 0 = 15) => e3 z, fun (z : l 0 = 16) => ?_, fun (z : l 0 = 17) => e5 z, fun (z : l 0 = 18) => ?_⟩
    · obtain ⟨p1, p2, p3, p4⟩ := e1 z
      exact ⟨p1, p2, Or.inl ⟨by omega, hy, ht⟩, p4⟩
    · obtain ⟨p1, p2, p3⟩ := e2 z
      exact ⟨p1, p2, Or.inl ⟨by omega, hy, ht⟩⟩
    · obtain ⟨p1, p3⟩ := e4 z
      exact ⟨p1, Or.inl ⟨by omega, hy, ht⟩⟩
    · obtain ⟨p1, p3, p4⟩ := e6 z
      exact ⟨p1, Or.inl ⟨by omega, hy, ht⟩, p4⟩
  | false =>
    rw [if_neg (by decide)] at h hO ⊢
    rw [f0, f2, f5]
    obtain ⟨e1, e2, e3⟩ := h
    unfold opdE at e2 e3
    refine ⟨fun (z : l 0 = 19) => e1 z, fun (z : l 0 = 20) => ?_, fun (z : l 0 = 21) => ?_⟩
    · obtain ⟨p1, p2⟩ := e2 z
      exact ⟨p1, Or.inl ⟨by omega, hy, ht⟩⟩
    · obtain ⟨p1, p2⟩ := e3 z
      exact ⟨p1, Or.inl ⟨by omega, hy, ht⟩⟩
theorem set_B (hO : lnO2 r l) (h : lnX r l e) (hs : rwS e) (he : e1 = cF e 3 (.int y)) (hu : 0 ≤ l 4) (hy : y.toInt = t) (ht : 0 ≤ t) : lnX r (mkL (l 0) (l 1) (l 2) (l 3) t (l 5)) e1 := by
  obtain ⟨-, f0, f1, f2, f3, f4, f5, f6⟩ := cw_3 hs he
  unfold lnX at h ⊢
  unfold lnO2 at hO
  cases r with
  | true =>
    rw [if_pos rfl] at h hO ⊢
    rw [f0, f1, f2, f3, f4, f5, f6]
    obtain ⟨e1, e2, e3, e4, e5, e6⟩ := h
    obtain ⟨o1, o2, o3, o4, o5, o6, o7⟩ := hO
    refine ⟨fun (z : l 0 ≤ 13) => ?_, fun (z : l 0 = 14) => e2 z, fun (z : l 0 = 15) => e3 z, fun (z : l 0 = 16) => e4 z, fun (z : l 0 = 17) => e5 z, fun (z : l 0 = 18) => e6 z⟩
    obtain ⟨p1, p2, p3, p4⟩ := e1 z
    unfold opdE at p4
    exact ⟨p1, p2, p3, Or.inl ⟨by omega, hy, ht⟩⟩
  | false =>
    rw [if_neg (by decide)] at hO
    have := hO.1.2.2.1
    omega
theorem set_T (hO : lnO2 r l) (h : lnX r l e) (hs : rwS e) (he : e1 = cF e 1 (.int y)) (hu : 0 ≤ l 1) (hy : y.toInt = t) : lnX r (mkL (l 0) t (l 2) (l 3) (l 4) (l 5)) e1 := by
  obtain ⟨-, f0, f1, f2, f3, f4, f5, f6⟩ := cw_1 hs he
  unfold lnX at h ⊢
  unfold lnO2 at hO
  cases r with
  | true =>
    rw [if_pos rfl] at h hO ⊢
    rw [f0, f1, f2, f3, f4, f5, f6]
    obtain ⟨e1, e2, e3, e4, e5, e6⟩ := h
    obtain ⟨o1, o2, o3, o4, o5, o6, o7⟩ := hO
    refine ⟨fun (z : l 0 ≤ 13) => ?_, fun (z : l 0 = 14) => ?_, fun (z : l 0 = 15) => ?_, fun (z : l 0 = 16) => e4 z, fun (z : l 0 = 17) => ?_, fun (z : l 0 = 18) => e6 z⟩
    · obtain ⟨p1, p2, p3, p4⟩ := e1 z
      exact ⟨p1, hy, p3, p4⟩
    · obtain ⟨p1, p2, p3⟩ := e2 z
      exact ⟨p1, hy, p3⟩
    · obtain ⟨p1, p2⟩ := e3 z
      exact ⟨p1, hy⟩
    · obtain ⟨p1, p2, p3⟩ := e5 z
      exact ⟨p1, hy, p3⟩
  | false =>
    rw [if_neg (by decide)] at hO
    have := hO.1.1
    omega
theorem lnO2_A (hO : lnO2 r l) (hu : 0 ≤ l 2) (ht : 0 ≤ t) (ht2 : t ≤ 1999) : lnO2 r (mkL (l 0) (l 1) t (l 3) (l 4) (l 5)) := by
  unfold lnO2 at hO ⊢
  cases r with
  | true =>
    rw [if_pos rfl] at hO ⊢
    obtain ⟨o1, o2, o3, o4, o5, o6, o7⟩ := hO
    refine ⟨o1, ⟨by show -1 ≤ t; omega, ht2⟩, o3, o4, o5, fun (z : l 0 = 15 ∨ l 0 = 17) => ?_, o7⟩
    have := o6 z
    omega
  | false =>
    rw [if_neg (by decide)] at hO ⊢
    obtain ⟨⟨o1, o2, o3, o4⟩, o5, o6⟩ := hO
    refine ⟨⟨o1, ⟨by show -1 ≤ t; omega, ht2⟩, o3, fun (z : l 0 = 19) => ?_⟩, o5, o6⟩
    have := o4 z
    omega
theorem lnO2_B (hO : lnO2 r l) (hu : 0 ≤ l 4) (ht : 0 ≤ t) (ht2 : t ≤ 1999) : lnO2 r (mkL (l 0) (l 1) (l 2) (l 3) t (l 5)) := by
  unfold lnO2 at hO ⊢
  cases r with
  | true =>
    rw [if_pos rfl] at hO ⊢
    obtain ⟨o1, o2, o3, o4, o5, o6, o7⟩ := hO
    refine ⟨o1, o2, ⟨by show -1 ≤ t; omega, ht2⟩, o4, o5, o6, fun (z : 14 ≤ l 0) => ?_⟩
    have := o7 z
    omega
  | false =>
    rw [if_neg (by decide)] at hO
    have := hO.1.2.2.1
    omega
theorem rwB_mid (hi : i < R.2.1 b) : rwB (mid S R b i) b (S.1.2.1 b) = rwB R b i := by
  unfold rwB
  rw [mid_len]
  exact decide_eq_decide.mpr (by omega)
end SLN
section SLO
variable {l l2 : Nat → Int} {e : va_E} {r : Bool} {so : Nat → Int} {S : gSp6} {n : Nat}
theorem lnO2_6 (hO : lnO2 r l) (h6 : ∀ f, f < 6 → l2 f = l f) : lnO2 r l2 := by
  have e0 := h6 0 (by decide)
  have e1 := h6 1 (by decide)
  have e2 := h6 2 (by decide)
  have e4 := h6 4 (by decide)
  unfold lnO2 rwO2 edO2 at hO ⊢
  rw [e0, e1, e2, e4]
  exact hO
theorem lnO2_b (hO : lnO2 r l) : (-1 ≤ l 1 ∧ l 1 ≤ 1999) ∧ (-1 ≤ l 2 ∧ l 2 ≤ 1999) ∧ (-1 ≤ l 4 ∧ l 4 ≤ 1999) := by
  unfold lnO2 at hO
  cases r with
  | true =>
    rw [if_pos rfl] at hO
    obtain ⟨o1, o2, o3, o4, o5, o6, o7⟩ := hO
    refine ⟨?_, o2, o3⟩
    by_cases c : l 0 ≤ 15 ∨ l 0 = 17
    · have := o4 c; omega
    · have := o5 (by omega); omega
  | false =>
    rw [if_neg (by decide)] at hO
    obtain ⟨⟨o1, o2, o3, o4⟩, -⟩ := hO
    exact ⟨by omega, o2, by omega⟩
theorem lnO2_le1 (hO : lnO2 r l) : l 1 ≤ 1999 := (lnO2_b hO).1.2
theorem lnO2_le2 (hO : lnO2 r l) : l 2 ≤ 1999 := (lnO2_b hO).2.1.2
theorem lnO2_le4 (hO : lnO2 r l) : l 4 ≤ 1999 := (lnO2_b hO).2.2.2
theorem lnO2_ge4 (hO : lnO2 r l) : -1 ≤ l 4 := (lnO2_b hO).2.2.1
theorem slf_p {x : Int} (h : ¬ slf so x = -1) : 0 ≤ x ∧ x < 100 := by
  unfold slf at h
  by_cases c : 0 ≤ x ∧ x < 100
  · exact c
  · rw [if_neg c] at h; exact absurd rfl h
theorem lnO2_V (hO : lnO2 r l) (h1 : 100 ≤ n) (h2 : n ≤ 1999) : lnO2 r (mkL (l 0) (l 1) (ldV so (l 2) n) (l 3) (l 4) (l 5)) := by
  unfold ldV
  by_cases c : slf so (l 2) = -1
  · rw [if_pos c]; exact lnO2_6 hO (fun f hf => mk6 hf)
  · rw [if_neg c]; exact lnO2_A hO (slf_p c).1 (by omega) (by omega)
theorem lnO2_W (hO : lnO2 r l) (h1 : 100 ≤ S.2) (h2 : (spR so l S).2 ≤ 720) : lnO2 r (mkL (l 0) (l 1) (ldV so (l 2) S.2) (l 3) (spV so l S) (l 5)) := by
  have n1 : S.2 ≤ (spR so l S).2 ∧ (ldN so (l 2) S).2 ≤ (spR so l S).2 := by
    unfold spR
    split
    · exact ⟨ldN_le, Nat.le_refl _⟩
    · exact ⟨Nat.le_trans ldN_le ldN_le, ldN_le⟩
  have n2 : S.2 ≤ (ldN so (l 2) S).2 := ldN_le
  have hV := lnO2_V (so := so) hO h1 (by omega)
  unfold spV
  by_cases c : l 4 = l 2
  · rw [if_pos c]
    by_cases d : slf so (l 2) = -1
    · have e : ldV so (l 2) S.2 = l 2 := if_pos d
      rw [e] at hV ⊢
      rw [c] at hV
      exact hV
    · have e : ldV so (l 2) S.2 = (S.2 : Int) := if_neg d
      rw [e] at hV ⊢
      exact lnO2_B (l := mkL (l 0) (l 1) (S.2 : Int) (l 3) (l 4) (l 5)) hV (by show 0 ≤ l 4; rw [c]; exact (slf_p d).1) (by omega) (by omega)
  · rw [if_neg c]
    by_cases d : slf so (l 4) = -1
    · rw [show ldV so (l 4) (ldN so (l 2) S).2 = l 4 from if_pos d]
      exact hV
    · rw [show ldV so (l 4) (ldN so (l 2) S).2 = ((ldN so (l 2) S).2 : Int) from if_neg d]
      exact lnO2_B (l := mkL (l 0) (l 1) (ldV so (l 2) S.2) (l 3) (l 4) (l 5)) hV (by show 0 ≤ l 4; exact (slf_p d).1) (by omega) (by omega)
theorem lnX_17 (hO : lnO2 r l) (h : lnX r l e) (h21 : (fI e 0).toInt = 21) : l 0 = 17 := by
  unfold lnX at h
  unfold lnO2 at hO
  cases r with
  | true =>
    rw [if_pos rfl] at h hO
    obtain ⟨e1, e2, e3, e4, e5, e6⟩ := h
    have o1 := hO.1
    refine Classical.byContradiction fun n => ?_
    have hx : l 0 ≤ 13 ∨ l 0 = 14 ∨ l 0 = 15 ∨ l 0 = 16 ∨ l 0 = 18 := by omega
    rcases hx with hx | hx | hx | hx | hx
    · have := (e1 hx).1; omega
    · have := (e2 hx).1; omega
    · have := (e3 hx).1; omega
    · have := (e4 hx).1; omega
    · have := (e6 hx).1; omega
  | false =>
    rw [if_neg (by decide)] at h hO
    obtain ⟨e1, e2, e3⟩ := h
    have o5 := hO.2
    have hx : l 0 = 19 ∨ l 0 = 20 ∨ l 0 = 21 := by omega
    rcases hx with hx | hx | hx
    · have := e1 hx; omega
    · have := (e2 hx).1; omega
    · have := (e3 hx).1; omega
end SLO
section SLR
variable {D : va_G} {I : FieldType → ClassId} {P : List Nat} {F F1 F2 F3 F4 : Nat → va_E} {γ el : Nat → Nat → Nat} {q y m : Nat} {x s : Int32}
theorem rs_7 (hT : RS D I P F γ el) (k : γ 0 y = 1) (n : ∀ b, b ≠ y → F1 b = F b) (e : F1 y = cF (F y) 1 (.int x)) (h0 : 0 ≤ x.toInt) (h1 : x.toInt ≤ 1999) : RS D I P F1 γ el := by
  refine RS_ow (W := [y]) hT rSub_rf (fun b _ hb => n b (fun z => hb (z ▸ List.mem_cons_self))) (wm_c (Or.inr ?_) wm_n)
  rw [k]
  refine ⟨by decide, ?_⟩
  obtain ⟨op, t, a, b, s', ra, rb, he, r1, r2, r3⟩ := show rk_1 γ y (F y) from RS_o hT k
  exact ⟨op, x, a, b, s', ra, rb, by rw [e, he]; rfl, r1, ⟨h0, h1⟩, r3⟩
theorem rs_9 (hT : RS D I P F γ el) (hm : γ 0 m = 10) (n : ∀ b, b ≠ m → F1 b = F b) (e : F1 m = cF (F m) 14 (.int x)) (h0 : 0 ≤ x.toInt) (h1 : x.toInt ≤ 2000) : RS D I P F1 γ el := by
  obtain ⟨r28, r35, v9, v10, v11, v12, v13, v14, v23, v24, v25, v26, v27, v30, v32, v33, v34, he, ⟨m1, m2, m3, m4, m5⟩, hK, hM2⟩ := rk10_m (show rk_10 γ (F m) from RS_o hT hm)
  rw [he] at e
  exact RS_md hT hm n (v14 := x) e ⟨m1, m2, m3, ⟨h0, h1⟩, m5⟩ hK hM2
theorem rs_20 (hT : RS D I P F γ el) (k : γ 0 y = 101) (n : ∀ b, b ≠ y → F4 b = F b) (e1 : F1 y = cF (F y) 0 (.int 23)) (e2 : F2 y = cF (F1 y) 4 (.int s)) (e3 : F3 y = cF (F2 y) 2 (.int x)) (e4 : F4 y = cF (F3 y) 5 (.int 1)) (s0 : 0 ≤ s.toInt) (s1 : s.toInt ≤ 1999) (h0 : 0 ≤ x.toInt) (h1 : x.toInt ≤ 1999) : RS D I P F4 γ el := by
  refine RS_ow (W := [y]) hT rSub_rf (fun b _ hb => n b (fun z => hb (z ▸ List.mem_cons_self))) (wm_c (Or.inr (fit_101 k ?_)) wm_n)
  obtain ⟨op, t, a, b, s', ra, rb, he, r1, r2, r3, r4, r5, r6, r7, r8⟩ := show rkR (F y) from RS_o hT k
  exact ⟨23, t, x, b, s, 1, rb, by rw [e4, e3, e2, e1, he]; rfl, ⟨by decide, by decide⟩, r2, ⟨s0, s1⟩, ⟨by decide, by decide⟩, r5, Or.inr (by decide), Or.inr ⟨h0, h1⟩, r8⟩
end SLR
end
section
section NXR
variable {D : va_G} {I : FieldType → ClassId} {P : List Nat} {F : Nat → va_E} {γ el : Nat → Nat → Nat} {q0 : Nat} {Q : gPg}
theorem md_kd9 (hT : RS D I P F γ el) (hm : γ 0 q0 = 10) : γ 0 (γ 9 3) = 14 ∧ γ 0 (γ 9 5) = 17 ∧ γ 0 (γ 9 15) = 18 ∧ γ 0 (γ 9 16) = 19 ∧ γ 0 (γ 9 17) = 20 ∧ γ 0 (γ 9 18) = 15 ∧ γ 0 (γ 9 19) = 21 ∧ ∀ n, n < 2000 → γ 0 (γ 11 n) = 36 := by
  obtain ⟨r28, r35, v9, v10, v11, v12, v13, v14, v23, v24, v25, v26, v27, v30, v32, v33, v34, he, hM1, hK, hM2⟩ := rk10_m (show rk_10 γ (F q0) from RS_o hT hm)
  obtain ⟨-, -, -, k1, -, k3, -, k5, -, -, -, k15, k16, k17, k18, k19, -⟩ := hK
  exact ⟨k3, k5, k15, k16, k17, k18, k19, fun n hn => (er_kd hT k1 hn).1⟩
theorem rn2_tl {a1 : Int32} {s1 : Int32} {k : Nat} {e1 : Int32} (h : tl_RModel_next_2 D I γ el F q0 a1 s1 k e1) : ∀ i : Nat, s1.toInt = (i : Int) → (∀ u, u < i → (rSd (cB (F (γ 9 18)))) u → a1.toInt ≤ ((cB (F (γ 9 16))) u).toInt) → (k = 36 → ∀ u, (rSd (cB (F (γ 9 18)))) u → a1.toInt ≤ ((cB (F (γ 9 16))) u).toInt) ∧ (k = 28 → ∃ v : Nat, e1.toInt = (v : Int) ∧ (rSd (cB (F (γ 9 18)))) v ∧ ((cB (F (γ 9 16))) v).toInt < a1.toInt ∧ ∀ u, u < v → (rSd (cB (F (γ 9 18)))) u → a1.toInt ≤ ((cB (F (γ 9 16))) u).toInt) := by
  refine h (fun s1 k e1 => ∀ i : Nat, s1.toInt = (i : Int) → (∀ u, u < i → (rSd (cB (F (γ 9 18)))) u → a1.toInt ≤ ((cB (F (γ 9 16))) u).toInt) → (k = 36 → ∀ u, (rSd (cB (F (γ 9 18)))) u → a1.toInt ≤ ((cB (F (γ 9 16))) u).toInt) ∧ (k = 28 → ∃ v : Nat, e1.toInt = (v : Int) ∧ (rSd (cB (F (γ 9 18)))) v ∧ ((cB (F (γ 9 16))) v).toInt < a1.toInt ∧ ∀ u, u < v → (rSd (cB (F (γ 9 18)))) u → a1.toInt ≤ ((cB (F (γ 9 16))) u).toInt)) ?_ ?_ ?_ ?_
  · intro l2_1 h1 h2
    intro i hi hl
    exact ⟨fun _ u hu => hl u (by have := hu.1; omega) hu, fun z => (nomatch z)⟩
  · intro l2_1 x1 x2 x3 k e1 h1 h2 h3 h4 h5 h6 h7 h8 ih
    intro i hi hl
    have e1 : (rSd (cB (F (γ 9 18)))) = rSd x1 := by rw [cB_of h4]
    rw [nnE hi] at h5
    have bx := h6.1
    have by' := h6.2
    refine ih (i + 1) (by omega) (fun u hu ht => ?_)
    by_cases e : u = i
    · rw [e1, e] at ht
      have := ht.2
      rw [← h5] at this
      omega
    · exact hl u (by omega) ht
  · intro l2_1 x1 x2 x3 x4 x5 k e1 h1 h2 h3 h4 h5 h6 h7 h8 h9 h10 h11 h12 ih
    intro i hi hl
    have e1 : (rSd (cB (F (γ 9 18)))) = rSd x1 := by rw [cB_of h4]
    rw [nnE hi] at h5
    have bx := h6.1
    have by' := h6.2
    have e2 : (cB (F (γ 9 16))) = x3 := cB_of h9
    have ti : (rSd (cB (F (γ 9 18)))) i := by rw [e1]; exact ⟨by omega, by rw [← h5]; omega⟩
    rw [nnE hi] at h10
    refine ih (i + 1) (by omega) (fun u hu ht => ?_)
    by_cases e : u = i
    · rw [e, e2, ← h10]; exact h11
    · exact hl u (by omega) ht
  · intro l2_1 x1 x2 x3 x4 h1 h2 h3 h4 h5 h6 h7 h8 h9 h10 h11
    intro i hi hl
    have e1 : (rSd (cB (F (γ 9 18)))) = rSd x1 := by rw [cB_of h4]
    rw [nnE hi] at h5
    have bx := h6.1
    have by' := h6.2
    have e2 : (cB (F (γ 9 16))) = x3 := cB_of h9
    have ti : (rSd (cB (F (γ 9 18)))) i := by rw [e1]; exact ⟨by omega, by rw [← h5]; omega⟩
    rw [nnE hi] at h10
    exact ⟨fun z => (nomatch z), fun _ => ⟨i, hi, ti, by rw [e2, ← h10]; exact h11, hl⟩⟩
theorem rn40_tl {s1 : Int32} {s2 : Int32} {k : Nat} {e1 : Int32} (h : tl_RModel_next_40 D I γ el F q0 s1 s2 k e1) : ∀ i : Nat, s1.toInt = (i : Int) → ((bsF (rSd (cB (F (γ 9 18)))) (cB (F (γ 9 5))) (cB (F (γ 9 16))) i = none ∧ s2.toInt < 0) ∨ ∃ b : Nat, bsF (rSd (cB (F (γ 9 18)))) (cB (F (γ 9 5))) (cB (F (γ 9 16))) i = some b ∧ s2.toInt = (b : Int) ∧ b < i) → ((bsF (rSd (cB (F (γ 9 18)))) (cB (F (γ 9 5))) (cB (F (γ 9 16))) 2000 = none ∧ e1.toInt < 0) ∨ ∃ b : Nat, bsF (rSd (cB (F (γ 9 18)))) (cB (F (γ 9 5))) (cB (F (γ 9 16))) 2000 = some b ∧ e1.toInt = (b : Int) ∧ b < 2000) := by
  refine h (fun s1 s2 _ e1 => ∀ i : Nat, s1.toInt = (i : Int) → ((bsF (rSd (cB (F (γ 9 18)))) (cB (F (γ 9 5))) (cB (F (γ 9 16))) i = none ∧ s2.toInt < 0) ∨ ∃ b : Nat, bsF (rSd (cB (F (γ 9 18)))) (cB (F (γ 9 5))) (cB (F (γ 9 16))) i = some b ∧ s2.toInt = (b : Int) ∧ b < i) → ((bsF (rSd (cB (F (γ 9 18)))) (cB (F (γ 9 5))) (cB (F (γ 9 16))) 2000 = none ∧ e1.toInt < 0) ∨ ∃ b : Nat, bsF (rSd (cB (F (γ 9 18)))) (cB (F (γ 9 5))) (cB (F (γ 9 16))) 2000 = some b ∧ e1.toInt = (b : Int) ∧ b < 2000)) ?_ ?_ ?_ ?_ ?_ ?_ ?_ ?_ ?_ ?_
  · intro l3_1 l2_1 h1 h2 h3 h4 h5
    intro i hi hs
    have e : i = 2000 := by have := h1.2; omega
    rw [e] at hs
    exact hs
  · intro l3_1 l2_1 x1 x2 x3 x4 x5 x6 x7 x8 x9 x10 x11 x12 x13 x14 x15 x16 k e1 h1 h2 h3 h4 h5 h6 h7 h8 h9 h10 h11 h12 h13 h14 h15 h16 h17 h18 h19 h20 h21 h22 h23 h24 h25 h26 h27 h28 h29 h30 ih
    intro i hi hs
    have e1 : (rSd (cB (F (γ 9 18)))) = rSd x1 := by rw [cB_of h7]
    rw [nnE hi] at h8
    have bx := h9.1
    have by' := h9.2
    have ti : (rSd (cB (F (γ 9 18)))) i := by rw [e1]; exact ⟨by omega, by rw [← h8]; omega⟩
    refine ih (i + 1) (by omega) ?_
    rcases hs with ⟨-, b2⟩ | ⟨b, b1, b2, b3⟩
    · omega
    have ew : (cB (F (γ 9 5))) = x3 := cB_of h15
    have el' : (cB (F (γ 9 16))) = x6 := cB_of h19
    rw [nnE hi] at h16 h25
    rw [nnE b2] at h20 h23
    rw [h28, h22, h27, h17, h21, h24, h26, h16, h20, h23, h25, ← ew, ← el'] at h29
    have ch : ¬ chp (cB (F (γ 9 5))) (cB (F (γ 9 16))) i b := fun z => by unfold chp at z; omega
    exact Or.inr ⟨b, bsF_2 ti b1 (Or.inr ch), b2, by omega⟩
  · intro l3_1 l2_1 x1 x2 x3 x4 x5 x6 x7 x8 x9 x10 x11 x12 x13 x14 x15 x16 k e1 h1 h2 h3 h4 h5 h6 h7 h8 h9 h10 h11 h12 h13 h14 h15 h16 h17 h18 h19 h20 h21 h22 h23 h24 h25 h26 h27 h28 h29 h30 ih
    intro i hi hs
    have e1 : (rSd (cB (F (γ 9 18)))) = rSd x1 := by rw [cB_of h7]
    rw [nnE hi] at h8
    have bx := h9.1
    have by' := h9.2
    have ti : (rSd (cB (F (γ 9 18)))) i := by rw [e1]; exact ⟨by omega, by rw [← h8]; omega⟩
    refine ih (i + 1) (by omega) ?_
    rcases hs with ⟨-, b2⟩ | ⟨b, b1, b2, b3⟩
    · omega
    have ew : (cB (F (γ 9 5))) = x3 := cB_of h15
    have el' : (cB (F (γ 9 16))) = x6 := cB_of h19
    rw [nnE hi] at h16 h25
    rw [nnE b2] at h20 h23
    rw [h28, h22, h27, h17, h21, h24, h26, h16, h20, h23, h25, ← ew, ← el'] at h29
    have ch : chp (cB (F (γ 9 5))) (cB (F (γ 9 16))) i b := h29
    exact Or.inr ⟨i, bsF_3 ti b1 (fun z => z.elim (fun y => by omega) (fun y => y ch)), hi, Nat.lt_succ_self i⟩
  · intro l3_1 l2_1 x1 x2 x3 x4 x5 x6 x7 x8 x9 x10 x11 x12 x13 x14 x15 x16 k e1 h1 h2 h3 h4 h5 h6 h7 h8 h9 h10 h11 h12 h13 h14 h15 h16 h17 h18 h19 h20 h21 h22 h23 h24 h25 h26 h27 h28 h29 h30 ih
    intro i hi hs
    have e1 : (rSd (cB (F (γ 9 18)))) = rSd x1 := by rw [cB_of h7]
    rw [nnE hi] at h8
    have bx := h9.1
    have by' := h9.2
    have ti : (rSd (cB (F (γ 9 18)))) i := by rw [e1]; exact ⟨by omega, by rw [← h8]; omega⟩
    refine ih (i + 1) (by omega) ?_
    rcases hs with ⟨-, b2⟩ | ⟨b, b1, b2, b3⟩
    · omega
    have ew : (cB (F (γ 9 5))) = x3 := cB_of h15
    have el' : (cB (F (γ 9 16))) = x6 := cB_of h19
    rw [nnE hi] at h16 h25
    rw [nnE b2] at h20 h23
    rw [h28, h22, h27, h17, h21, h24, h26, h16, h20, h23, h25, ← ew, ← el'] at h29
    have ch : ¬ chp (cB (F (γ 9 5))) (cB (F (γ 9 16))) i b := fun z => by unfold chp at z; omega
    omega
  · intro l3_1 l2_1 x1 x2 x3 x4 x5 x6 x7 x8 x9 x10 x11 x12 x13 x14 x15 x16 k e1 h1 h2 h3 h4 h5 h6 h7 h8 h9 h10 h11 h12 h13 h14 h15 h16 h17 h18 h19 h20 h21 h22 h23 h24 h25 h26 h27 h28 h29 h30 ih
    intro i hi hs
    have e1 : (rSd (cB (F (γ 9 18)))) = rSd x1 := by rw [cB_of h7]
    rw [nnE hi] at h8
    have bx := h9.1
    have by' := h9.2
    have ti : (rSd (cB (F (γ 9 18)))) i := by rw [e1]; exact ⟨by omega, by rw [← h8]; omega⟩
    refine ih (i + 1) (by omega) ?_
    rcases hs with ⟨-, b2⟩ | ⟨b, b1, b2, b3⟩
    · omega
    have ew : (cB (F (γ 9 5))) = x3 := cB_of h15
    have el' : (cB (F (γ 9 16))) = x6 := cB_of h19
    rw [nnE hi] at h16 h25
    rw [nnE b2] at h20 h23
    rw [h28, h22, h27, h17, h21, h24, h26, h16, h20, h23, h25, ← ew, ← el'] at h29
    have ch : chp (cB (F (γ 9 5))) (cB (F (γ 9 16))) i b := h29
    exact Or.inr ⟨i, bsF_3 ti b1 (fun z => z.elim (fun y => by omega) (fun y => y ch)), hi, Nat.lt_succ_self i⟩
  · intro l3_1 l2_1 x1 x2 x3 k e1 h1 h2 h3 h4 h5 h6 h7 h8 h9 h10 h11 h12 h13 h14 ih
    intro i hi hs
    have e1 : (rSd (cB (F (γ 9 18)))) = rSd x1 := by rw [cB_of h7]
    rw [nnE hi] at h8
    have bx := h9.1
    have by' := h9.2
    have ti : (rSd (cB (F (γ 9 18)))) i := by rw [e1]; exact ⟨by omega, by rw [← h8]; omega⟩
    refine ih (i + 1) (by omega) ?_
    rcases hs with ⟨-, b2⟩ | ⟨b, b1, b2, b3⟩
    · omega
    exact Or.inr ⟨b, bsF_2 ti b1 (Or.inl (by omega)), b2, by omega⟩
  · intro l3_1 l2_1 x1 x2 x3 x4 x5 x6 x7 x8 x9 x10 x11 x12 x13 x14 x15 x16 k e1 h1 h2 h3 h4 h5 h6 h7 h8 h9 h10 h11 h12 h13 h14 h15 h16 h17 h18 h19 h20 h21 h22 h23 h24 h25 h26 h27 h28 h29 h30 ih
    intro i hi hs
    have e1 : (rSd (cB (F (γ 9 18)))) = rSd x1 := by rw [cB_of h7]
    rw [nnE hi] at h8
    have bx := h9.1
    have by' := h9.2
    have ti : (rSd (cB (F (γ 9 18)))) i := by rw [e1]; exact ⟨by omega, by rw [← h8]; omega⟩
    refine ih (i + 1) (by omega) ?_
    rcases hs with ⟨-, b2⟩ | ⟨b, b1, b2, b3⟩
    · omega
    have ew : (cB (F (γ 9 5))) = x3 := cB_of h15
    have el' : (cB (F (γ 9 16))) = x6 := cB_of h19
    rw [nnE hi] at h16 h25
    rw [nnE b2] at h20 h23
    rw [h28, h22, h27, h17, h21, h24, h26, h16, h20, h23, h25, ← ew, ← el'] at h29
    have ch : ¬ chp (cB (F (γ 9 5))) (cB (F (γ 9 16))) i b := fun z => by unfold chp at z; omega
    exact Or.inr ⟨b, bsF_2 ti b1 (Or.inr ch), b2, by omega⟩
  · intro l3_1 l2_1 x1 x2 x3 x4 x5 x6 x7 x8 x9 x10 x11 x12 x13 x14 x15 x16 k e1 h1 h2 h3 h4 h5 h6 h7 h8 h9 h10 h11 h12 h13 h14 h15 h16 h17 h18 h19 h20 h21 h22 h23 h24 h25 h26 h27 h28 h29 h30 ih
    intro i hi hs
    have e1 : (rSd (cB (F (γ 9 18)))) = rSd x1 := by rw [cB_of h7]
    rw [nnE hi] at h8
    have bx := h9.1
    have by' := h9.2
    have ti : (rSd (cB (F (γ 9 18)))) i := by rw [e1]; exact ⟨by omega, by rw [← h8]; omega⟩
    refine ih (i + 1) (by omega) ?_
    rcases hs with ⟨-, b2⟩ | ⟨b, b1, b2, b3⟩
    · omega
    have ew : (cB (F (γ 9 5))) = x3 := cB_of h15
    have el' : (cB (F (γ 9 16))) = x6 := cB_of h19
    rw [nnE hi] at h16 h25
    rw [nnE b2] at h20 h23
    rw [h28, h22, h27, h17, h21, h24, h26, h16, h20, h23, h25, ← ew, ← el'] at h29
    have ch : chp (cB (F (γ 9 5))) (cB (F (γ 9 16))) i b := h29
    exact Or.inr ⟨i, bsF_3 ti b1 (fun z => z.elim (fun y => by omega) (fun y => y ch)), hi, Nat.lt_succ_self i⟩
  · intro l3_1 l2_1 x1 x2 x3 k e1 h1 h2 h3 h4 h5 h6 h7 h8 h9 h10 h11 h12 ih
    intro i hi hs
    have e1 : (rSd (cB (F (γ 9 18)))) = rSd x1 := by rw [cB_of h7]
    rw [nnE hi] at h8
    have bx := h9.1
    have by' := h9.2
    have ti : (rSd (cB (F (γ 9 18)))) i := by rw [e1]; exact ⟨by omega, by rw [← h8]; omega⟩
    refine ih (i + 1) (by omega) ?_
    rcases hs with ⟨b1, -⟩ | ⟨b, -, b2, -⟩
    · exact Or.inr ⟨i, bsF_1 ti b1, hi, Nat.lt_succ_self i⟩
    · omega
  · intro l3_1 l2_1 x1 x2 x3 k e1 h1 h2 h3 h4 h5 h6 h7 h8 h9 h10 h11 ih
    intro i hi hs
    have e1 : (rSd (cB (F (γ 9 18)))) = rSd x1 := by rw [cB_of h7]
    rw [nnE hi] at h8
    have bx := h9.1
    have by' := h9.2
    have nt : ¬ (rSd (cB (F (γ 9 18)))) i := by
      rw [e1]
      intro z
      have := z.2
      rw [← h8] at this
      omega
    refine ih (i + 1) (by omega) ?_
    rw [bsF_0 nt]
    exact hs.imp id (fun ⟨b, b1, b2, b3⟩ => ⟨b, b1, b2, by omega⟩)
theorem bsF_no {T : Nat → Prop} {w lf : Nat → Int32} : ∀ n, bsF T w lf n = none → ∀ v, v < n → ¬ T v
  | 0, _, v, hv => absurd hv (Nat.not_lt_zero v)
  | n + 1, h, v, hv => by
    by_cases c : T n
    · cases e : bsF T w lf n with
      | none => rw [bsF_1 c e] at h; cases h
      | some d =>
        by_cases g : (100 ≤ n ∧ d < 100) ∨ ¬ chp w lf n d
        · rw [bsF_2 c e g] at h; cases h
        · rw [bsF_3 c e g] at h; cases h
    · rw [bsF_0 c] at h
      by_cases e : v = n
      · rw [e]; exact c
      · exact bsF_no n h v (by omega)
theorem rnx_tr {a1 : Int32} {o1 : Int32} (h : tr_RModel_next D I γ el F q0 a1 o1) : (o1.toInt < 0 ∧ ∀ v, ¬ (rSd (cB (F (γ 9 18)))) v) ∨ ∃ v : Nat, o1.toInt = (v : Int) ∧ (rSd (cB (F (γ 9 18)))) v ∧ isNx (rSd (cB (F (γ 9 18)))) (cB (F (γ 9 5))) (cB (F (γ 9 16))) a1.toInt v := by
  refine h (fun o1 => (o1.toInt < 0 ∧ ∀ v, ¬ (rSd (cB (F (γ 9 18)))) v) ∨ ∃ v : Nat, o1.toInt = (v : Int) ∧ (rSd (cB (F (γ 9 18)))) v ∧ isNx (rSd (cB (F (γ 9 18)))) (cB (F (γ 9 5))) (cB (F (γ 9 16))) a1.toInt v) ?_ ?_
  · intro x1 h1 h2
    have q := (rn2_tl h1 0 (by decide) (fun u hu => absurd hu (Nat.not_lt_zero u))).1 rfl
    rcases rn40_tl h2 0 (by decide) (Or.inl ⟨rfl, by decide⟩) with ⟨b1, b2⟩ | ⟨b, b1, b2, b3⟩
    · exact Or.inl ⟨b2, fun v hv => bsF_no 2000 b1 v hv.1 hv⟩
    · exact Or.inr ⟨b, b2, bsF_in 2000 b1, Or.inr ⟨q, b1⟩⟩
  · intro x1 h1
    obtain ⟨v, q1, q2, q3, q4⟩ := (rn2_tl h1 0 (by decide) (fun u hu => absurd hu (Nat.not_lt_zero u))).2 rfl
    exact Or.inr ⟨v, q1, q2, Or.inl ⟨q2, q3, q4⟩⟩
theorem rc2_tl {s1 : Nat → va_E} {s2 : Int32} {k : Nat} {e1 : Nat → va_E} (hT : RS D I P F γ el) (hm : γ 0 q0 = 10) (h : tl_RModel_colours_2 D I γ el P F q0 s1 s2 k e1) : ∀ i : Nat, s2.toInt = (i : Int) → i ≤ 2000 → (∀ v, v < i → ((rSd (cB (s1 (γ 9 18)))) v ↔ rSd (cB (s1 (γ 9 3))) v) ∧ (rSd (cB (s1 (γ 9 3))) v → ((cB (s1 (γ 9 16))) v).toInt = bsm (cL (s1 (γ 11 v))) 0 32) ∧ ((cB (s1 (γ 9 17))) v).toInt = -1) → (∀ v, v < 2000 → ((rSd (cB (e1 (γ 9 18)))) v ↔ rSd (cB (e1 (γ 9 3))) v) ∧ (rSd (cB (e1 (γ 9 3))) v → ((cB (e1 (γ 9 16))) v).toInt = bsm (cL (e1 (γ 11 v))) 0 32) ∧ ((cB (e1 (γ 9 17))) v).toInt = -1) ∧ ∀ b, b ≠ γ 9 16 → b ≠ γ 9 17 → b ≠ γ 9 18 → e1 b = s1 b := by
  obtain ⟨k3, k5, k15, k16, k17, k18, k19, k11⟩ := md_kd9 hT hm
  have n1 : γ 9 16 ≠ γ 9 18 := fun e => (by rw [e, k18] at k16; exact absurd k16 (by decide))
  have n2 : γ 9 17 ≠ γ 9 18 := fun e => (by rw [e, k18] at k17; exact absurd k17 (by decide))
  have n3 : γ 9 16 ≠ γ 9 17 := fun e => (by rw [e, k17] at k16; exact absurd k16 (by decide))
  have n4 : γ 9 3 ≠ γ 9 16 := fun e => (by rw [e, k16] at k3; exact absurd k3 (by decide))
  have n5 : γ 9 3 ≠ γ 9 17 := fun e => (by rw [e, k17] at k3; exact absurd k3 (by decide))
  have n6 : γ 9 3 ≠ γ 9 18 := fun e => (by rw [e, k18] at k3; exact absurd k3 (by decide))
  have n7 : ∀ v, v < 2000 → γ 11 v ≠ γ 9 16 ∧ γ 11 v ≠ γ 9 17 ∧ γ 11 v ≠ γ 9 18 := fun v hv => by
    have q := k11 v hv
    exact ⟨fun e => (by rw [e, k16] at q; exact absurd q (by decide)), fun e => (by rw [e, k17] at q; exact absurd q (by decide)), fun e => (by rw [e, k18] at q; exact absurd q (by decide))⟩
  refine h (fun s1 s2 _ e1 => ∀ i : Nat, s2.toInt = (i : Int) → i ≤ 2000 → (∀ v, v < i → ((rSd (cB (s1 (γ 9 18)))) v ↔ rSd (cB (s1 (γ 9 3))) v) ∧ (rSd (cB (s1 (γ 9 3))) v → ((cB (s1 (γ 9 16))) v).toInt = bsm (cL (s1 (γ 11 v))) 0 32) ∧ ((cB (s1 (γ 9 17))) v).toInt = -1) → (∀ v, v < 2000 → ((rSd (cB (e1 (γ 9 18)))) v ↔ rSd (cB (e1 (γ 9 3))) v) ∧ (rSd (cB (e1 (γ 9 3))) v → ((cB (e1 (γ 9 16))) v).toInt = bsm (cL (e1 (γ 11 v))) 0 32) ∧ ((cB (e1 (γ 9 17))) v).toInt = -1) ∧ ∀ b, b ≠ γ 9 16 → b ≠ γ 9 17 → b ≠ γ 9 18 → e1 b = s1 b) ?_ ?_ ?_
  · intro F_1 l2_1 h1 h2 h3 h4 h5 h6 h7
    intro i hi hi2 hv
    have e : i = 2000 := by omega
    rw [e] at hv
    exact ⟨hv, fun _ _ _ _ => rfl⟩
  · intro F_1 l2_1 x1 x2 x3 x4 x5 x6 x7 x8 x9 x10 x11 x12 k e1 h1 h2 h3 h4 h5 h6 h7 h8 h9 h10 h11 h12 h13 h14 h15 h16 h17 h18 h19 h20 h21 h22 h23 h24 h25 h26 h27 h28 h29 h30 ih
    intro i hi hi2 hv
    have hi3 : i < 2000 := by omega
    have en := nnE hi
    rw [en] at h11 h14 h22 h27
    have fr : ∀ b, b ≠ γ 9 16 → b ≠ γ 9 17 → b ≠ γ 9 18 → x11 b = F_1 b := fun b b1 b2 b3 => by rw [h28 b b2, h23 b b1, h15 b b3]
    have s0 : (cB (x11 (γ 9 3))) = x1 := by rw [fr _ n4 n5 n6]; exact cB_of h10
    have s1 : (cB (F_1 (γ 9 3))) = x1 := cB_of h10
    have c8 : cB (x11 (γ 9 18)) = x4 := by rw [h28 _ n2.symm, h23 _ n1.symm]; exact cB_of h16
    have c6 : (cB (x11 (γ 9 16))) = x7 := by rw [h28 _ n3]; exact cB_of h24
    have c7 : (cB (x11 (γ 9 17))) = x10 := cB_of h29
    have o8 : cB (F_1 (γ 9 18)) = x3 := cB_of h13
    have o6 : (cB (F_1 (γ 9 16))) = x6 := by rw [← h15 _ n1]; exact cB_of h21
    have o7 : (cB (F_1 (γ 9 17))) = x9 := by rw [← h15 _ n2, ← h23 _ n3.symm]; exact cB_of h26
    have b1 := h12.1
    have b2 := h12.2
    have nar : (vp_nar .boolean x2).toInt = x2.toInt := by
      have q : x2.toInt = 0 ∨ x2.toInt = 1 := by omega
      rcases q with q | q
      · rw [show x2 = 0 from Int32.toInt_inj.mp q]; decide
      · rw [show x2 = 1 from Int32.toInt_inj.mp q]; decide
    obtain ⟨r1, r2⟩ := ih (i + 1) (by omega) (by omega) (fun v hv1 => by
      rw [s0, c8, c6, c7, fr _ (n7 v (by omega)).1 (n7 v (by omega)).2.1 (n7 v (by omega)).2.2]
      by_cases e : v = i
      · rw [e, h14, h22, h27]
        refine ⟨⟨fun z => ⟨hi3, ?_⟩, fun z => ⟨hi3, ?_⟩⟩, fun z => ?_, ?_⟩
        · have y := z.2
          rw [updE, nar] at y
          rw [← h11]; exact y
        · have y := z.2
          rw [updE, nar]
          rw [← h11] at y; exact y
        · have y := z.2
          rw [← h11] at y
          rw [updE]
          omega
        · rw [updE]; decide
      · have q := hv v (by omega)
        rw [s1, o8, o6, o7] at q
        rw [h14, h22, h27]
        refine ⟨⟨fun z => q.1.mp ⟨z.1, ?_⟩, fun z => ⟨z.1, ?_⟩⟩, fun z => ?_, ?_⟩
        · have y := z.2
          rw [updN e] at y; exact y
        · have y := (q.1.mpr z).2
          rw [updN e]; exact y
        · rw [updN e]; exact q.2.1 z
        · rw [updN e]; exact q.2.2)
    refine ⟨r1, fun b b1 b2 b3 => (r2 b b1 b2 b3).trans (fr b b1 b2 b3)⟩
  · intro F_1 l2_1 x1 x2 x3 x4 x5 x6 x7 x8 x9 x10 x11 x12 x13 x14 x15 k e1 h1 h2 h3 h4 h5 h6 h7 h8 h9 h10 h11 h12 h13 h14 h15 h16 h17 h18 h19 h20 h21 h22 h23 h24 h25 h26 h27 h28 h29 h30 h31 h32 h33 h34 ih
    intro i hi hi2 hv
    have hi3 : i < 2000 := by omega
    have en := nnE hi
    rw [en] at h11 h14 h26 h31
    have fr : ∀ b, b ≠ γ 9 16 → b ≠ γ 9 17 → b ≠ γ 9 18 → x14 b = F_1 b := fun b b1 b2 b3 => by rw [h32 b b2, h27 b b1, h15 b b3]
    have s0 : (cB (x14 (γ 9 3))) = x1 := by rw [fr _ n4 n5 n6]; exact cB_of h10
    have s1 : (cB (F_1 (γ 9 3))) = x1 := cB_of h10
    have c8 : cB (x14 (γ 9 18)) = x4 := by rw [h32 _ n2.symm, h27 _ n1.symm]; exact cB_of h16
    have c6 : (cB (x14 (γ 9 16))) = x10 := by rw [h32 _ n3]; exact cB_of h28
    have c7 : (cB (x14 (γ 9 17))) = x13 := cB_of h33
    have o8 : cB (F_1 (γ 9 18)) = x3 := cB_of h13
    have o6 : (cB (F_1 (γ 9 16))) = x9 := by rw [← h15 _ n1]; exact cB_of h25
    have o7 : (cB (F_1 (γ 9 17))) = x12 := by rw [← h15 _ n2, ← h27 _ n3.symm]; exact cB_of h30
    have b1 := h12.1
    have b2 := h12.2
    have nar : (vp_nar .boolean x2).toInt = x2.toInt := by
      have q : x2.toInt = 0 ∨ x2.toInt = 1 := by omega
      rcases q with q | q
      · rw [show x2 = 0 from Int32.toInt_inj.mp q]; decide
      · rw [show x2 = 1 from Int32.toInt_inj.mp q]; decide
    obtain ⟨r1, r2⟩ := ih (i + 1) (by omega) (by omega) (fun v hv1 => by
      rw [s0, c8, c6, c7, fr _ (n7 v (by omega)).1 (n7 v (by omega)).2.1 (n7 v (by omega)).2.2]
      by_cases e : v = i
      · rw [e, h14, h26, h31]
        refine ⟨⟨fun z => ⟨hi3, ?_⟩, fun z => ⟨hi3, ?_⟩⟩, fun z => ?_, ?_⟩
        · have y := z.2
          rw [updE, nar] at y
          rw [← h11]; exact y
        · have y := z.2
          rw [updE, nar]
          rw [← h11] at y; exact y
        · have y := z.2
          rw [← h11] at y
          rw [updE]
          rw [co_tr h24]
          have en2 : l2_1.toInt.toNat = i := by rw [hi]; rfl
          rw [en2] at h22
          rw [h22] at h23
          rw [h15 _ (n7 i hi3).2.2] at h23
          rw [h23]
          rfl
        · rw [updE]; decide
      · have q := hv v (by omega)
        rw [s1, o8, o6, o7] at q
        rw [h14, h26, h31]
        refine ⟨⟨fun z => q.1.mp ⟨z.1, ?_⟩, fun z => ⟨z.1, ?_⟩⟩, fun z => ?_, ?_⟩
        · have y := z.2
          rw [updN e] at y; exact y
        · have y := (q.1.mpr z).2
          rw [updN e]; exact y
        · rw [updN e]; exact q.2.1 z
        · rw [updN e]; exact q.2.2)
    refine ⟨r1, fun b b1 b2 b3 => (r2 b b1 b2 b3).trans (fr b b1 b2 b3)⟩
theorem rc94_tl {c1 : Int32} {F_1 : Nat → va_E} {l3_1 : Int32} {s1 : Nat → va_E} {s2 : Int32} {k : Nat} {e1 : Nat → va_E} {v : Nat} (hT : RS D I P F γ el) (hm : γ 0 q0 = 10) (hv : l3_1.toInt = (v : Int)) (hv2 : v < 2000) (h : tl_RModel_colours_94 D I γ el P F c1 F_1 q0 l3_1 s1 s2 k e1) : ∀ i : Nat, s2.toInt = (i : Int) → i ≤ 2000 → (∀ q, (i ≤ q ∧ q < 2000 ∧ egS γ s1 v q = true → (cB (e1 (γ 9 16))) q = (cB (s1 (γ 9 16))) q - 1) ∧ (¬ (i ≤ q ∧ q < 2000 ∧ egS γ s1 v q = true) → (cB (e1 (γ 9 16))) q = (cB (s1 (γ 9 16))) q)) ∧ ∀ b, b ≠ γ 9 16 → e1 b = s1 b := by
  obtain ⟨k3, k5, k15, k16, k17, k18, k19, k11⟩ := md_kd9 hT hm
  have nv : γ 11 v ≠ γ 9 16 := fun e => by have q := k11 v hv2; rw [e, k16] at q; cases q
  refine h (fun s1 s2 _ e1 => ∀ i : Nat, s2.toInt = (i : Int) → i ≤ 2000 → (∀ q, (i ≤ q ∧ q < 2000 ∧ egS γ s1 v q = true → (cB (e1 (γ 9 16))) q = (cB (s1 (γ 9 16))) q - 1) ∧ (¬ (i ≤ q ∧ q < 2000 ∧ egS γ s1 v q = true) → (cB (e1 (γ 9 16))) q = (cB (s1 (γ 9 16))) q)) ∧ ∀ b, b ≠ γ 9 16 → e1 b = s1 b) ?_ ?_ ?_
  · intro F_2 l4_2 h1 h2 h3 h4 h5 h6 h7 h8 h9
    intro i hi hi2
    exact ⟨fun q => ⟨fun z => by omega, fun _ => rfl⟩, fun _ _ => rfl⟩
  · intro F_2 l4_2 x1 x2 x3 k e1 h1 h2 h3 h4 h5 h6 h7 h8 h9 h10 h11 h12 h13 h14 ih
    intro i hi hi2
    have hi3 : i < 2000 := by omega
    have ev : l3_1.toInt.toNat = v := by rw [hv]; rfl
    rw [ev] at h11
    rw [h11] at h12
    have hb := ha_tr (by omega) h13
    rw [show l4_2.toInt.toNat = i by rw [hi]; rfl] at hb
    have eb : egS γ F_2 v i = rbt x2 i := by unfold egS; rw [h12]; rfl
    rcases hb with ⟨-, hb⟩ | ⟨hb, -⟩
    case inr => exact absurd hb (by decide)
    obtain ⟨r1, r2⟩ := ih (i + 1) (by omega) (by omega)
    refine ⟨fun q => ⟨fun z => ?_, fun z => ?_⟩, r2⟩
    · refine (r1 q).1 ⟨?_, z.2⟩
      by_cases e : q = i
      · have y := z.2.2
        rw [e, eb, hb] at y; cases y
      · omega
    · exact (r1 q).2 (fun y => z ⟨by omega, y.2⟩)
  · intro F_2 l4_2 x1 x2 x3 x4 x5 x6 x7 x8 k e1 h1 h2 h3 h4 h5 h6 h7 h8 h9 h10 h11 h12 h13 h14 h15 h16 h17 h18 h19 h20 h21 ih
    intro i hi hi2
    have hi3 : i < 2000 := by omega
    have ev : l3_1.toInt.toNat = v := by rw [hv]; rfl
    rw [ev] at h11
    rw [h11] at h12
    have hb := ha_tr (by omega) h13
    rw [show l4_2.toInt.toNat = i by rw [hi]; rfl] at hb
    have eb : egS γ F_2 v i = rbt x2 i := by unfold egS; rw [h12]; rfl
    rcases hb with ⟨hb, -⟩ | ⟨-, hb⟩
    case inl => exact absurd hb (by decide)
    rw [nnE hi] at h16 h18
    have c7 : (cB (x7 (γ 9 16))) = x6 := cB_of h20
    have c2 : (cB (F_2 (γ 9 16))) = x3 := cB_of h15
    have ee : ∀ q, egS γ x7 v q = egS γ F_2 v q := fun q => by unfold egS; rw [h19 _ nv]
    obtain ⟨r1, r2⟩ := ih (i + 1) (by omega) (by omega)
    refine ⟨fun q => ?_, fun b hb => (r2 b hb).trans (h19 b hb)⟩
    obtain ⟨p1, p2⟩ := r1 q
    rw [c7, ee] at p1 p2
    rw [c2]
    by_cases e : q = i
    · refine ⟨fun _ => ?_, fun y => absurd ⟨by omega, by omega, by rw [e, eb]; exact hb⟩ y⟩
      rw [p2 (fun y => by omega), h18, e, updE, h17, h16]
    · refine ⟨fun y => ?_, fun y => ?_⟩
      · rw [p1 ⟨by omega, y.2⟩, h18, updN e]
      · rw [p2 (fun x => y ⟨by omega, x.2⟩), h18, updN e]
theorem rc70_tl {a1 : Int32} {s1 : Nat → va_E} {s2 : Int32} {s3 : Int32} {k : Nat} {e1 : Int32} {e2 : Nat → va_E} (hT : RS D I P F γ el) (hm : γ 0 q0 = 10) (h : tl_RModel_colours_70 D I γ el P F q0 a1 s1 s2 s3 k e1 e2) : ∀ (T : Nat → Prop) (m : Nat), s3.toInt = (m : Int) → (∀ n k, n < 2000 → k < 2000 → (egS γ s1 n k = true ↔ JJ Q n k)) → (∀ v, (rSd (cB (s1 (γ 9 18)))) v ↔ T v) → ((s2.toInt < 0 ∧ ∀ v, ¬ T v) ∨ ∃ v : Nat, s2.toInt = (v : Int) ∧ T v ∧ isNx T (cB (s1 (γ 9 5))) (cB (s1 (γ 9 16))) a1.toInt v) → ∃ (n : Nat) (p : Nat → Nat), TA (JJ Q) (cB (s1 (γ 9 5))) a1.toInt n T (cB (s1 (γ 9 16))) p ∧ e1.toInt = ((m + n : Nat) : Int) ∧ (∀ i, i < m → (cB (e2 (γ 9 15))) i = (cB (s1 (γ 9 15))) i) ∧ (∀ i, i < n → ((cB (e2 (γ 9 15))) (m + i)).toInt = (p i : Int) ∧ p i < 2000) ∧ ∀ b, b ≠ γ 9 15 → b ≠ γ 9 16 → b ≠ γ 9 18 → e2 b = s1 b := by
  obtain ⟨k3, k5, k15, k16, k17, k18, k19, k11⟩ := md_kd9 hT hm
  have n1 : γ 9 16 ≠ γ 9 18 := fun e => (by rw [e, k18] at k16; exact absurd k16 (by decide))
  have n2 : γ 9 15 ≠ γ 9 18 := fun e => (by rw [e, k18] at k15; exact absurd k15 (by decide))
  have n3 : γ 9 15 ≠ γ 9 16 := fun e => (by rw [e, k16] at k15; exact absurd k15 (by decide))
  have n4 : γ 9 5 ≠ γ 9 15 ∧ γ 9 5 ≠ γ 9 16 ∧ γ 9 5 ≠ γ 9 18 := ⟨fun e => (by rw [e, k15] at k5; exact absurd k5 (by decide)), fun e => (by rw [e, k16] at k5; exact absurd k5 (by decide)), fun e => (by rw [e, k18] at k5; exact absurd k5 (by decide))⟩
  have n7 : ∀ v, v < 2000 → γ 11 v ≠ γ 9 15 ∧ γ 11 v ≠ γ 9 16 ∧ γ 11 v ≠ γ 9 18 := fun v hv => by
    have q := k11 v hv
    exact ⟨fun e => (by rw [e, k15] at q; exact absurd q (by decide)), fun e => (by rw [e, k16] at q; exact absurd q (by decide)), fun e => (by rw [e, k18] at q; exact absurd q (by decide))⟩
  refine h (fun s1 s2 s3 _ e1 e2 => ∀ (T : Nat → Prop) (m : Nat), s3.toInt = (m : Int) → (∀ n k, n < 2000 → k < 2000 → (egS γ s1 n k = true ↔ JJ Q n k)) → (∀ v, (rSd (cB (s1 (γ 9 18)))) v ↔ T v) → ((s2.toInt < 0 ∧ ∀ v, ¬ T v) ∨ ∃ v : Nat, s2.toInt = (v : Int) ∧ T v ∧ isNx T (cB (s1 (γ 9 5))) (cB (s1 (γ 9 16))) a1.toInt v) → ∃ (n : Nat) (p : Nat → Nat), TA (JJ Q) (cB (s1 (γ 9 5))) a1.toInt n T (cB (s1 (γ 9 16))) p ∧ e1.toInt = ((m + n : Nat) : Int) ∧ (∀ i, i < m → (cB (e2 (γ 9 15))) i = (cB (s1 (γ 9 15))) i) ∧ (∀ i, i < n → ((cB (e2 (γ 9 15))) (m + i)).toInt = (p i : Int) ∧ p i < 2000) ∧ ∀ b, b ≠ γ 9 15 → b ≠ γ 9 16 → b ≠ γ 9 18 → e2 b = s1 b) ?_ ?_
  · intro F_1 l3_1 l2_1 h1 h2 h3 h4 h5 h6 h7 h8 h9 h10 h11
    intro T m hm2 hG hTT hn
    rcases hn with ⟨-, hn⟩ | ⟨v, hn, -⟩
    · exact ⟨0, fun _ => 0, hn, by omega, fun _ _ => rfl, fun i hi => absurd hi (Nat.not_lt_zero i), fun _ _ _ _ => rfl⟩
    · omega
  · intro F_1 l3_1 l2_1 x1 x2 x3 x4 x5 x6 x7 x8 x9 k e1 e2 h1 h2 h3 h4 h5 h6 h7 h8 h9 h10 h11 h12 h13 h14 h15 h16 h17 h18 h19 h20 h21 h22 h23 h24 h25 h26 h27 ih
    intro T m hm2 hG hTT hn
    rcases hn with ⟨hn, -⟩ | ⟨v, hn, hn2, hn3⟩
    · omega
    have v2 : v < 2000 := ((hTT v).mpr hn2).1
    have em := nnE hm2
    have ev := nnE hn
    rw [em] at h14
    rw [ev] at h20
    have f3 := h15
    have f7 := h21
    have c15 : (cB (F_1 (γ 9 15))) = x1 := cB_of h13
    have d15 : (cB (x7 (γ 9 15))) = x2 := by rw [f7 _ n2]; exact cB_of h16
    have c18 : cB (F_1 (γ 9 18)) = x5 := by rw [← f3 _ n2.symm]; exact cB_of h19
    have d18 : cB (x7 (γ 9 18)) = x6 := cB_of h22
    have d16 : (cB (x7 (γ 9 16))) = (cB (F_1 (γ 9 16))) := by rw [f7 _ n1, f3 _ n3.symm]
    have d5 : (cB (x7 (γ 9 5))) = (cB (F_1 (γ 9 5))) := by rw [f7 _ n4.2.2, f3 _ n4.1]
    have dE : ∀ n k, n < 2000 → egS γ x7 n k = egS γ F_1 n k := fun n k hn => by unfold egS; rw [f7 _ (n7 n hn).2.2, f3 _ (n7 n hn).1]
    obtain ⟨l1, l2⟩ := rc94_tl hT hm hn v2 h23 0 (by decide) (Nat.zero_le _)
    have e18 : cB (x8 (γ 9 18)) = x6 := by rw [l2 _ n1.symm]; exact d18
    have e15 : (cB (x8 (γ 9 15))) = x2 := by rw [l2 _ n3]; exact d15
    have e5 : (cB (x8 (γ 9 5))) = (cB (F_1 (γ 9 5))) := by rw [l2 _ n4.2.1]; exact d5
    have eE : ∀ n k, n < 2000 → egS γ x8 n k = egS γ F_1 n k := fun n k hn => by
      rw [← dE n k hn]
      unfold egS
      rw [l2 _ (n7 n hn).2.1]
    have nz : (vp_nar .boolean 0).toInt = 0 := by decide
    have th : ∀ u, (rSd (cB (x8 (γ 9 18)))) u ↔ (T u ∧ u ≠ v) := fun u => by
      rw [e18, ← hTT u, c18, h20]
      by_cases e : u = v
      · rw [e]
        refine ⟨fun z => ?_, fun z => absurd rfl z.2⟩
        have y := z.2
        rw [updE, nz] at y; cases y
      · refine ⟨fun z => ⟨⟨z.1, ?_⟩, e⟩, fun z => ⟨z.1.1, ?_⟩⟩
        · have y := z.2
          rw [updN e] at y; exact y
        · rw [updN e]; exact z.1.2
    have lf' : ∀ u, (T u ∧ u ≠ v) → (cB (F_1 (γ 9 5))) u = (cB (F_1 (γ 9 5))) u ∧ (cB (x8 (γ 9 16))) u = lfD (JJ Q) (cB (F_1 (γ 9 16))) v u := fun u hu => by
      refine ⟨rfl, ?_⟩
      have u2 : u < 2000 := ((hTT u).mpr hu.1).1
      obtain ⟨a1, a2⟩ := l1 u
      rw [d16, dE v u v2] at a1 a2
      have g := hG v u v2 u2
      unfold lfD
      by_cases c : JJ Q v u
      · rw [if_pos c]; exact a1 ⟨Nat.zero_le _, u2, g.mpr c⟩
      · rw [if_neg c]; exact a2 (fun z => c (g.mp z.2.2))
    have nx := rnx_tr h27
    have eT : (rSd (cB (x8 (γ 9 18)))) = (fun u => T u ∧ u ≠ v) := funext (fun u => propext (th u))
    rw [eT, e5] at nx
    obtain ⟨n, p, r1, r2, r3, r4, r5⟩ := ih (fun u => T u ∧ u ≠ v) (m + 1) (by omega) (fun a c ha hc => by rw [eE a c ha]; exact hG a c ha hc) (fun u => th u) (by rw [e5]; exact nx)
    rw [e5] at r1
    refine ⟨n + 1, fun l => if l = 0 then v else p (l - 1), ⟨hn2, hn3, TA_c lf' r1⟩, by omega, fun l hl => ?_, fun l hl => ?_, fun b b1 b2 b3 => ?_⟩
    · rw [r3 l (by omega), e15, c15, h14, updN (by omega)]
    · by_cases c : l = 0
      · rw [c]
        dsimp only
        rw [if_pos rfl, Nat.add_zero, r3 m (Nat.lt_succ_self m), e15, h14, updE]
        exact ⟨hn, v2⟩
      · dsimp only
        rw [if_neg c]
        have r := r4 (l - 1) (by omega)
        rw [show m + 1 + (l - 1) = m + l by omega] at r
        exact r
    · rw [r5 b b1 b2 b3, l2 b b2, f7 b b3, f3 b b1]
theorem rc165_tl {F_1 : Nat → va_E} {c1 : Int32} {s1 : Int32} {s2 : Int64} {k : Nat} {e1 : Int64} {v : Nat} (hv : c1.toInt = (v : Int)) (h : tl_RModel_colours_165 D I γ el F_1 q0 c1 s1 s2 k e1) : ∀ i : Nat, s1.toInt = (i : Int) → i ≤ 2000 → ∀ c : Nat, c < 64 → (e1.toBitVec.getLsbD c = true ↔ s2.toBitVec.getLsbD c = true ∨ ∃ u, (i ≤ u ∧ u < 2000 ∧ egS γ F_1 v u = true) ∧ ((cB (F_1 (γ 9 17))) u).toInt = (c : Int)) := by
  refine h (fun s1 s2 _ e1 => ∀ i : Nat, s1.toInt = (i : Int) → i ≤ 2000 → ∀ c : Nat, c < 64 → (e1.toBitVec.getLsbD c = true ↔ s2.toBitVec.getLsbD c = true ∨ ∃ u, (i ≤ u ∧ u < 2000 ∧ egS γ F_1 v u = true) ∧ ((cB (F_1 (γ 9 17))) u).toInt = (c : Int))) ?_ ?_ ?_ ?_
  · intro l7_2 l5_2 h1 h2 h3
    intro i hi hi2 c hc
    exact ⟨Or.inl, fun z => z.elim id (fun ⟨u, y, _⟩ => by omega)⟩
  · intro l7_2 l5_2 x1 x2 x3 k e1 h1 h2 h3 h4 h5 h6 h7 h8 h9 ih
    intro i hi hi2 c hc
    have hi3 : i < 2000 := by omega
    have cc : (cB (F_1 (γ 9 17))) = x1 := cB_of h5
    rw [nnE hi] at h6
    rw [ih (i + 1) (by omega) (by omega) c hc]
    refine ⟨fun z => z.imp id (fun ⟨u, y, x⟩ => ⟨u, ⟨by omega, y.2⟩, x⟩), fun z => z.imp id (fun ⟨u, y, x⟩ => ⟨u, ⟨?_, y.2⟩, x⟩)⟩
    by_cases e : u = i
    · rw [e, cc, ← h6] at x; omega
    · omega
  · intro l7_2 l5_2 x1 x2 x3 x4 x5 k e1 h1 h2 h3 h4 h5 h6 h7 h8 h9 h10 h11 h12 h13 ih
    intro i hi hi2 c hc
    have hi3 : i < 2000 := by omega
    have cc : (cB (F_1 (γ 9 17))) = x1 := cB_of h5
    rw [nnE hi] at h6
    rw [show c1.toInt.toNat = v by rw [hv]; rfl] at h10
    rw [h10] at h11
    have hb := ha_tr (by omega) h12
    rw [show l7_2.toInt.toNat = i by rw [hi]; rfl] at hb
    have eb : egS γ F_1 v i = rbt x4 i := by unfold egS; rw [h11]; rfl
    rcases hb with ⟨-, hb⟩ | ⟨hb, -⟩
    case inr => exact absurd hb (by decide)
    rw [ih (i + 1) (by omega) (by omega) c hc]
    refine ⟨fun z => z.imp id (fun ⟨u, y, x⟩ => ⟨u, ⟨by omega, y.2⟩, x⟩), fun z => z.imp id (fun ⟨u, y, x⟩ => ⟨u, ⟨?_, y.2⟩, x⟩)⟩
    by_cases e : u = i
    · have w := y.2.2
      rw [e, eb, hb] at w; cases w
    · omega
  · intro l7_2 l5_2 x1 x2 x3 x4 x5 x6 x7 k e1 h1 h2 h3 h4 h5 h6 h7 h8 h9 h10 h11 h12 h13 h14 h15 ih
    intro i hi hi2 c hc
    have hi3 : i < 2000 := by omega
    have cc : (cB (F_1 (γ 9 17))) = x1 := cB_of h5
    rw [nnE hi] at h6
    rw [show c1.toInt.toNat = v by rw [hv]; rfl] at h10
    rw [h10] at h11
    have hb := ha_tr (by omega) h12
    rw [show l7_2.toInt.toNat = i by rw [hi]; rfl] at hb
    have eb : egS γ F_1 v i = rbt x4 i := by unfold egS; rw [h11]; rfl
    rcases hb with ⟨hb, -⟩ | ⟨-, hb⟩
    case inl => exact absurd hb (by decide)
    have b2 := h7.2
    have em : x2.toInt = ((x2.toInt.toNat : Nat) : Int) := (Int.toNat_of_nonneg (by omega)).symm
    rw [ih (i + 1) (by omega) (by omega) c hc, bit_or h14, Bool.or_eq_true, lb_shlM h13 em c hc, decide_eq_true_iff]
    constructor
    · rintro ((k | k) | ⟨u, y, x⟩)
      · exact Or.inl k
      · exact Or.inr ⟨i, ⟨Nat.le_refl _, hi3, by rw [eb]; exact hb⟩, by rw [cc, ← h6]; omega⟩
      · exact Or.inr ⟨u, ⟨by omega, y.2⟩, x⟩
    · rintro (k | ⟨u, y, x⟩)
      · exact Or.inl (Or.inl k)
      · by_cases e : u = i
        · rw [e, cc, ← h6] at x
          exact Or.inl (Or.inr (by omega))
        · exact Or.inr ⟨u, ⟨by omega, y.2⟩, x⟩
theorem rc144_tl {a1 : Int32} {s1 : Nat → va_E} {s2 : Int32} {s3 : Int32} {k : Nat} {e1 : Int32} {e2 : Nat → va_E} {n : Nat} {p : Nat → Nat} (hT : RS D I P F γ el) (hm : γ 0 q0 = 10) (hk : 0 ≤ a1.toInt) (hk2 : a1.toInt ≤ 32) (h : tl_RModel_colours_144 D I γ el P F q0 a1 s1 s2 s3 k e1 e2) : ∀ t : Nat, t ≤ n → s3.toInt = (n : Int) - (t : Int) → (∀ n k, n < 2000 → k < 2000 → (egS γ s1 n k = true ↔ JJ Q n k)) → (∀ i, i < n → ((cB (s1 (γ 9 15))) i).toInt = (p i : Int) ∧ p i < 2000) → (∀ u, u < 2000 → ((cB (s1 (γ 9 17))) u).toInt = clN (JJ Q) a1.toInt p n t u) → (s2.toInt = 0 ↔ ¬ bdN (JJ Q) a1.toInt p n t) → 0 ≤ s2.toInt → (∀ u, u < 2000 → ((cB (e2 (γ 9 17))) u).toInt = clN (JJ Q) a1.toInt p n n u) ∧ (e1.toInt = 0 ↔ ¬ bdN (JJ Q) a1.toInt p n n) ∧ ∀ b, b ≠ γ 9 17 → e2 b = s1 b := by
  obtain ⟨k3, k5, k15, k16, k17, k18, k19, k11⟩ := md_kd9 hT hm
  have n1 : γ 9 15 ≠ γ 9 17 := fun e => (by rw [e, k17] at k15; exact absurd k15 (by decide))
  have n7 : ∀ v, v < 2000 → γ 11 v ≠ γ 9 17 := fun v hv e => by have q := k11 v hv; rw [e, k17] at q; cases q
  refine h (fun s1 s2 s3 _ e1 e2 => ∀ t : Nat, t ≤ n → s3.toInt = (n : Int) - (t : Int) → (∀ n k, n < 2000 → k < 2000 → (egS γ s1 n k = true ↔ JJ Q n k)) → (∀ i, i < n → ((cB (s1 (γ 9 15))) i).toInt = (p i : Int) ∧ p i < 2000) → (∀ u, u < 2000 → ((cB (s1 (γ 9 17))) u).toInt = clN (JJ Q) a1.toInt p n t u) → (s2.toInt = 0 ↔ ¬ bdN (JJ Q) a1.toInt p n t) → 0 ≤ s2.toInt → (∀ u, u < 2000 → ((cB (e2 (γ 9 17))) u).toInt = clN (JJ Q) a1.toInt p n n u) ∧ (e1.toInt = 0 ↔ ¬ bdN (JJ Q) a1.toInt p n n) ∧ ∀ b, b ≠ γ 9 17 → e2 b = s1 b) ?_ ?_ ?_
  · intro F_1 l3_1 l2_1 h1 h2 h3 h4 h5 h6 h7 h8 h9
    intro t ht hs hG hp hc hb hb0
    have e : t = n := by omega
    rw [e] at hc hb
    exact ⟨hc, hb, fun _ _ => rfl⟩
  · intro F_1 l3_1 l2_1 x1 x2 x3 x4 x5 x6 x7 k e1 e2 h1 h2 h3 h4 h5 h6 h7 h8 h9 h10 h11 h12 h13 h14 h15 h16 h17 h18 h19 ih
    intro t ht hs hG hp hc hb hb0
    have htn : t < n := by omega
    have c15 : (cB (F_1 (γ 9 15))) = x2 := cB_of h12
    have e1 : x1.toNatClampNeg = n - 1 - t := nnE (by omega)
    obtain ⟨p1, p2⟩ := hp (n - 1 - t) (by omega)
    rw [e1] at h13
    rw [c15, ← h13] at p1
    have ca := rc165_tl p1 h15 0 (by decide) (Nat.zero_le _)
    have ca2 : ∀ c : Nat, c < 64 → (x4.toBitVec.getLsbD c = true ↔ ∃ u, JJ Q (p (n - 1 - t)) u ∧ clN (JJ Q) a1.toInt p n t u = (c : Int)) := fun c hc2 => by
      rw [ca c hc2]
      have zz : (0 : Int64).toBitVec.getLsbD c = false := by simp
      rw [zz]
      refine ⟨fun z => z.elim (fun y => (nomatch y)) (fun ⟨u, y, x⟩ => ⟨u, (hG _ u p2 y.2.1).mp y.2.2, by rw [← hc u y.2.1]; exact x⟩), fun ⟨u, y, x⟩ => ?_⟩
      have u2 := (JJ_lt y).2
      exact Or.inr ⟨u, ⟨Nat.zero_le _, u2, (hG _ u p2 u2).mpr y⟩, by rw [hc u u2]; exact x⟩
    obtain ⟨z0, z1, z3, z4⟩ := h17
    have lc : lcl (JJ Q) (clN (JJ Q) a1.toInt p n t) (p (n - 1 - t)) = x6.toInt.toNat := by
      refine lcl_e ⟨fun u k1 k2 => ?_, fun d hd => ?_⟩
      · have q : x4.toBitVec.getLsbD x6.toInt.toNat = true := (ca2 _ (by omega)).mpr ⟨u, k1, k2⟩
        rw [bit_not h16 _ (by omega), q] at z3
        cases z3
      · have q := z4 d hd
        rw [bit_not h16 d (by omega)] at q
        have q2 : x4.toBitVec.getLsbD d = true := by
          cases e : x4.toBitVec.getLsbD d
          · rw [e] at q; cases q
          · rfl
        exact (ca2 d (by omega)).mp q2
    have bs : bdN (JJ Q) a1.toInt p n (t + 1) ↔ bdN (JJ Q) a1.toInt p n t ∨ a1.toInt ≤ x6.toInt := by
      constructor
      · rintro ⟨s, s1, s2⟩
        by_cases e : s = t
        · rw [e, lc] at s2; exact Or.inr (by omega)
        · exact Or.inl ⟨s, by omega, s2⟩
      · rintro (⟨s, s1, s2⟩ | s2)
        · exact ⟨s, by omega, s2⟩
        · exact ⟨t, Nat.lt_succ_self t, by rw [lc]; omega⟩
    have cs : ∀ u, clN (JJ Q) a1.toInt p n (t + 1) u = @ite Int (u = p (n - 1 - t) ∧ (x6.toInt.toNat : Int) < a1.toInt) (Classical.propDecidable _) (x6.toInt.toNat : Int) (clN (JJ Q) a1.toInt p n t u) := fun u => by
      show @ite Int (u = p (n - 1 - t) ∧ (lcl (JJ Q) (clN (JJ Q) a1.toInt p n t) (p (n - 1 - t)) : Int) < a1.toInt) (Classical.propDecidable _) (lcl (JJ Q) (clN (JJ Q) a1.toInt p n t) (p (n - 1 - t)) : Int) (clN (JJ Q) a1.toInt p n t u) = _
      rw [lc]
    exact ih (t + 1) (by omega) (by omega) hG hp (fun u hu => by
      rw [cs u, if_neg (fun y => by omega)]
      exact hc u hu) ⟨fun y => by omega, fun y => absurd (bs.mpr (Or.inr (by omega))) y⟩ (by omega)
  · intro F_1 l3_1 l2_1 x1 x2 x3 x4 x5 x6 x7 x8 x9 k e1 e2 h1 h2 h3 h4 h5 h6 h7 h8 h9 h10 h11 h12 h13 h14 h15 h16 h17 h18 h19 h20 h21 h22 h23 ih
    intro t ht hs hG hp hc hb hb0
    have htn : t < n := by omega
    have c15 : (cB (F_1 (γ 9 15))) = x2 := cB_of h12
    have e1 : x1.toNatClampNeg = n - 1 - t := nnE (by omega)
    obtain ⟨p1, p2⟩ := hp (n - 1 - t) (by omega)
    rw [e1] at h13
    rw [c15, ← h13] at p1
    have ca := rc165_tl p1 h15 0 (by decide) (Nat.zero_le _)
    have ca2 : ∀ c : Nat, c < 64 → (x4.toBitVec.getLsbD c = true ↔ ∃ u, JJ Q (p (n - 1 - t)) u ∧ clN (JJ Q) a1.toInt p n t u = (c : Int)) := fun c hc2 => by
      rw [ca c hc2]
      have zz : (0 : Int64).toBitVec.getLsbD c = false := by simp
      rw [zz]
      refine ⟨fun z => z.elim (fun y => (nomatch y)) (fun ⟨u, y, x⟩ => ⟨u, (hG _ u p2 y.2.1).mp y.2.2, by rw [← hc u y.2.1]; exact x⟩), fun ⟨u, y, x⟩ => ?_⟩
      have u2 := (JJ_lt y).2
      exact Or.inr ⟨u, ⟨Nat.zero_le _, u2, (hG _ u p2 u2).mpr y⟩, by rw [hc u u2]; exact x⟩
    obtain ⟨z0, z1, z3, z4⟩ := h17
    have lc : lcl (JJ Q) (clN (JJ Q) a1.toInt p n t) (p (n - 1 - t)) = x6.toInt.toNat := by
      refine lcl_e ⟨fun u k1 k2 => ?_, fun d hd => ?_⟩
      · have q : x4.toBitVec.getLsbD x6.toInt.toNat = true := (ca2 _ (by omega)).mpr ⟨u, k1, k2⟩
        rw [bit_not h16 _ (by omega), q] at z3
        cases z3
      · have q := z4 d hd
        rw [bit_not h16 d (by omega)] at q
        have q2 : x4.toBitVec.getLsbD d = true := by
          cases e : x4.toBitVec.getLsbD d
          · rw [e] at q; cases q
          · rfl
        exact (ca2 d (by omega)).mp q2
    have bs : bdN (JJ Q) a1.toInt p n (t + 1) ↔ bdN (JJ Q) a1.toInt p n t ∨ a1.toInt ≤ x6.toInt := by
      constructor
      · rintro ⟨s, s1, s2⟩
        by_cases e : s = t
        · rw [e, lc] at s2; exact Or.inr (by omega)
        · exact Or.inl ⟨s, by omega, s2⟩
      · rintro (⟨s, s1, s2⟩ | s2)
        · exact ⟨s, by omega, s2⟩
        · exact ⟨t, Nat.lt_succ_self t, by rw [lc]; omega⟩
    have cs : ∀ u, clN (JJ Q) a1.toInt p n (t + 1) u = @ite Int (u = p (n - 1 - t) ∧ (x6.toInt.toNat : Int) < a1.toInt) (Classical.propDecidable _) (x6.toInt.toNat : Int) (clN (JJ Q) a1.toInt p n t u) := fun u => by
      show @ite Int (u = p (n - 1 - t) ∧ (lcl (JJ Q) (clN (JJ Q) a1.toInt p n t) (p (n - 1 - t)) : Int) < a1.toInt) (Classical.propDecidable _) (lcl (JJ Q) (clN (JJ Q) a1.toInt p n t) (p (n - 1 - t)) : Int) (clN (JJ Q) a1.toInt p n t u) = _
      rw [lc]
    have c9 : (cB (x9 (γ 9 17))) = x8 := cB_of h23
    have c7 : (cB (F_1 (γ 9 17))) = x7 := cB_of h20
    have c5 : (cB (x9 (γ 9 15))) = (cB (F_1 (γ 9 15))) := by rw [h22 _ n1]
    obtain ⟨r1, r2, r3⟩ := ih (t + 1) (by omega) (by omega) (fun a c ha hc2 => by
      have q := hG a c ha hc2
      unfold egS at q ⊢
      rw [h22 _ (n7 a ha)]; exact q) (by rw [c5]; exact hp) (fun u hu => by
      rw [cs u, c9, h21, nnE p1]
      by_cases c : u = p (n - 1 - t)
      · rw [if_pos ⟨c, by omega⟩, c, updE]; omega
      · rw [if_neg (fun y => c y.1), updN c, ← c7]; exact hc u hu) (hb.trans ⟨fun y w => y ((bs.mp w).elim id (fun e => by omega)), fun y w => y (bs.mpr (Or.inl w))⟩) hb0
    exact ⟨r1, r2, fun b hb1 => (r3 b hb1).trans (h22 b hb1)⟩
theorem lb_W_hi {f : Nat → Int64} {y : Nat} (h : lb_W f 32 32 2000) (hy : 2000 ≤ y) (hy2 : y < 64 * 32) : ¬ gbit f y = true := fun z => by
  have q := h (y / 64) (by omega) (y % 64) (Nat.mod_lt _ (by decide)) z
  have e : ((y / 64 : Nat) : Int) % 32 = 31 := by omega
  omega
theorem hi0 {F1 : Nat → va_E} (hT : RS D I P F γ el) (hm : γ 0 q0 = 10) (v y : Nat) (hv : v < 2000) (hy : 2000 ≤ y) (hy2 : y < 64 * 32) (e : F1 (γ 11 v) = F (γ 11 v)) : ¬ gbit (cL (F1 (γ 11 v))) y = true := by
  obtain ⟨-, -, -, -, -, -, -, k11⟩ := md_kd9 hT hm
  obtain ⟨f, h1, h2⟩ := show rk_36 I (F (γ 11 v)) from RS_o hT (k11 v hv)
  rw [e, h1]
  intro z
  exact absurd z (by rw [show gbit (cL (.inl (I .long, 32, .inr (.inl f)))) y = gbit f y from rfl]; exact lb_W_hi h2 hy hy2)
theorem rco_tr {a1 : Int32} {o1 : Int32} {o2 : Nat → va_E} (hT : RS D I P F γ el) (hm : γ 0 q0 = 10) (hk : 0 ≤ a1.toInt) (hk2 : a1.toInt ≤ 32) (hG : (∀ n k, n < 2000 → k < 2000 → (egS γ F n k = true ↔ JJ Q n k))) (hS : ∀ v, rSd (cB (F (γ 9 3))) v ↔ Sd Q false 2000 v) (h : tr_RModel_colours D I γ el P F q0 a1 o1 o2) : ∃ (n : Nat) (p : Nat → Nat), TA (JJ Q) (cB (F (γ 9 5))) a1.toInt n (Sd Q false 2000) (dgc Q) p ∧ (∀ u, u < 2000 → ((cB (o2 (γ 9 17))) u).toInt = clN (JJ Q) a1.toInt p n n u) ∧ (o1.toInt = 0 ↔ ¬ bdN (JJ Q) a1.toInt p n n) ∧ ∀ b, b ≠ γ 9 15 → b ≠ γ 9 16 → b ≠ γ 9 17 → b ≠ γ 9 18 → o2 b = F b := by
  obtain ⟨k3, k5, k15, k16, k17, k18, k19, k11⟩ := md_kd9 hT hm
  refine h (fun o1 o2 => ∃ (n : Nat) (p : Nat → Nat), TA (JJ Q) (cB (F (γ 9 5))) a1.toInt n (Sd Q false 2000) (dgc Q) p ∧ (∀ u, u < 2000 → ((cB (o2 (γ 9 17))) u).toInt = clN (JJ Q) a1.toInt p n n u) ∧ (o1.toInt = 0 ↔ ¬ bdN (JJ Q) a1.toInt p n n) ∧ ∀ b, b ≠ γ 9 15 → b ≠ γ 9 16 → b ≠ γ 9 17 → b ≠ γ 9 18 → o2 b = F b) ?_
  · intro x1 x2 x3 x4 x5 x6 h1 h2 h3 h4 h5 h6 h7
    have n4 : γ 9 5 ≠ γ 9 16 ∧ γ 9 5 ≠ γ 9 17 ∧ γ 9 5 ≠ γ 9 18 := ⟨fun e => (by rw [e, k16] at k5; exact absurd k5 (by decide)), fun e => (by rw [e, k17] at k5; exact absurd k5 (by decide)), fun e => (by rw [e, k18] at k5; exact absurd k5 (by decide))⟩
    have n3 : γ 9 3 ≠ γ 9 16 ∧ γ 9 3 ≠ γ 9 17 ∧ γ 9 3 ≠ γ 9 18 := ⟨fun e => (by rw [e, k16] at k3; exact absurd k3 (by decide)), fun e => (by rw [e, k17] at k3; exact absurd k3 (by decide)), fun e => (by rw [e, k18] at k3; exact absurd k3 (by decide))⟩
    have n7 : ∀ v, v < 2000 → γ 11 v ≠ γ 9 15 ∧ γ 11 v ≠ γ 9 16 ∧ γ 11 v ≠ γ 9 17 ∧ γ 11 v ≠ γ 9 18 := fun v hv => by
      have q := k11 v hv
      exact ⟨fun e => (by rw [e, k15] at q; exact absurd q (by decide)), fun e => (by rw [e, k16] at q; exact absurd q (by decide)), fun e => (by rw [e, k17] at q; exact absurd q (by decide)), fun e => (by rw [e, k18] at q; exact absurd q (by decide))⟩
    obtain ⟨a1', a2'⟩ := rc2_tl hT hm h1 0 (by decide) (Nat.zero_le _) (fun v hv => absurd hv (Nat.not_lt_zero v))
    have ew : (cB (x1 (γ 9 5))) = (cB (F (γ 9 5))) := by rw [a2' _ n4.1 n4.2.1 n4.2.2]
    have es : (cB (x1 (γ 9 3))) = (cB (F (γ 9 3))) := by rw [a2' _ n3.1 n3.2.1 n3.2.2]
    have th : ∀ v, (rSd (cB (x1 (γ 9 18)))) v ↔ Sd Q false 2000 v := fun v => by
      rw [← hS v, ← es]
      by_cases c : v < 2000
      · exact (a1' v c).1
      · exact ⟨fun z => absurd z.1 c, fun z => absurd z.1 c⟩
    have G1 : (∀ n k, n < 2000 → k < 2000 → (egS γ x1 n k = true ↔ JJ Q n k)) := fun a c ha hc => by
      have q := hG a c ha hc
      unfold egS at q ⊢
      rw [a2' _ (n7 a ha).2.1 (n7 a ha).2.2.1 (n7 a ha).2.2.2]; exact q
    have lf1 : ∀ v, Sd Q false 2000 v → (cB (F (γ 9 5))) v = (cB (F (γ 9 5))) v ∧ (cB (x1 (γ 9 16))) v = dgc Q v := fun v hv => by
      have v2 := hv.1
      refine ⟨rfl, dgc_e ⟨cL (x1 (γ 11 v)), 0, fun y hy => ?_, ?_⟩⟩
      · by_cases c : y < 2000
        · rw [← G1 v y v2 c]
          unfold egS rbt gbit
          rw [Nat.mul_zero, Nat.zero_add]
        · refine ⟨fun z => ?_, fun z => absurd (JJ_lt z).2 c⟩
          exact absurd z (by rw [Nat.mul_zero, Nat.zero_add]; exact hi0 hT hm v y v2 (by omega) hy (by rw [a2' _ (n7 v v2).2.1 (n7 v v2).2.2.1 (n7 v v2).2.2.2]))
      · exact (a1' v v2).2.1 (by rw [es]; exact (hS v).mpr hv)
    have nx := rnx_tr h5
    have eT : (rSd (cB (x1 (γ 9 18)))) = Sd Q false 2000 := funext (fun v => propext (th v))
    rw [eT] at nx
    obtain ⟨n, p, r1, r2, -, r4, r5⟩ := rc70_tl hT hm h6 (Sd Q false 2000) 0 (by decide) G1 th nx
    rw [ew] at r1
    have G2 : (∀ n k, n < 2000 → k < 2000 → (egS γ x4 n k = true ↔ JJ Q n k)) := fun a c ha hc => by
      have q := G1 a c ha hc
      unfold egS at q ⊢
      rw [r5 _ (n7 a ha).1 (n7 a ha).2.1 (n7 a ha).2.2.2]; exact q
    have n5 : γ 9 17 ≠ γ 9 15 ∧ γ 9 17 ≠ γ 9 16 ∧ γ 9 17 ≠ γ 9 18 := ⟨fun e => (by rw [e, k15] at k17; exact absurd k17 (by decide)), fun e => (by rw [e, k16] at k17; exact absurd k17 (by decide)), fun e => (by rw [e, k18] at k17; exact absurd k17 (by decide))⟩
    obtain ⟨s1, s2, s3⟩ := rc144_tl (Q := Q) (p := p) (n := n) hT hm hk hk2 h7 0 (Nat.zero_le _) (by omega) G2 (fun i hi => by
      have r := r4 i hi
      rw [Nat.zero_add] at r
      exact r) (fun u hu => by rw [r5 _ n5.1 n5.2.1 n5.2.2]; exact (a1' u hu).2.2) ⟨fun _ z => z.elim (fun s y => absurd y.1 (Nat.not_lt_zero s)), fun _ => by decide⟩ (by decide)
    exact ⟨n, p, TA_c lf1 r1, s1, s2, fun b b1 b2 b3 b4 => by rw [s3 b b3, r5 b b1 b2 b4, a2' b b2 b3 b4]⟩
end NXR
end
section
section MRR
variable {D : va_G} {I : FieldType → ClassId} {P : List Nat} {F : Nat → va_E} {γ el : Nat → Nat → Nat} {f b j : Nat} {Q : gPg}
theorem rr20_tl {a2 : Int32} {a1 : Int32} {q0 : Nat} {c1 : Nat} {s1 : Nat → va_E} {s2 : Int32} {k : Nat} {e1 : Nat → va_E} (hc : γ 0 q0 = 9) (hcf : γ 1 q0 = f) (hQ6 : γ 6 f = Q.1) (hB2 : ∀ i, i < Q.1 → γ 0 (el (γ 14 q0) i) = 2) (hO : qOk Q) (hw : 0 ≤ a1.toInt) (hv : 0 ≤ a2.toInt) (hb : b < Q.1) (hc1 : c1 = el (γ 14 q0) b) (h : tl_RModel_rename_20 D I γ el P F a2 a1 q0 c1 s1 s2 k e1) : ∀ j : Nat, s2.toInt = (j : Int) → j ≤ Q.2.1 b → rfX γ el s1 q0 (pgRm Q a1.toInt a2.toInt b j) → rfX γ el e1 q0 (pgRm Q a1.toInt a2.toInt b (Q.2.1 b)) := by
  refine h (fun s1 s2 _ e1 => ∀ j : Nat, s2.toInt = (j : Int) → j ≤ Q.2.1 b → rfX γ el s1 q0 (pgRm Q a1.toInt a2.toInt b j) → rfX γ el e1 q0 (pgRm Q a1.toInt a2.toInt b (Q.2.1 b))) ?_ ?_ ?_ ?_ ?_ ?_ ?_ ?_ ?_ ?_ ?_ ?_ ?_ ?_ ?_ ?_ ?_ ?_ ?_ ?_ ?_ ?_ ?_ ?_ ?_ ?_ ?_ ?_ ?_ ?_ ?_ ?_ ?_ ?_ ?_ ?_ ?_ ?_ ?_ ?_ ?_ ?_ ?_ ?_ ?_ ?_ ?_ ?_ ?_ ?_ ?_ ?_ ?_ ?_ ?_
  · intro F_2 l5_2 x1 x2 h1 h2 h3 h4 h5 h6 h7 h8 h9 h10
    intro j hj hj2 hx
    have hB := hB2 b hb
    rw [← hc1] at hB
    obtain ⟨ll, nn, pp, ss, v1, ⟨g1, g2, g3⟩, v3, v4, v5, -⟩ := show rk_2 γ c1 (F_2 c1) from RS_o h2 hB
    have ex1 : x1 = rwL γ el q0 b := by
      rw [← h7, v1]
      show ll = γ 14 (el (γ 14 q0) b)
      rw [← hc1, g1]
    have m : γ 2 (rwL γ el q0 b) + 1 = Q.2.1 b := (hx.2.1 b hb).1
    rw [ex1] at h8
    rw [show Q.2.1 b = j by omega]
    exact hx
  · intro F_2 l5_2 x1 x2 x3 x4 x5 x6 x7 x8 x9 x10 k e1 h1 h2 h3 h4 h5 h6 h7 h8 h9 h10 h11 h12 h13 h14 h15 h16 h17 h18 h19 h20 h21 h22 h23 h24 h25 h26 ih
    intro j hj hj2 hx
    have hB := hB2 b hb
    rw [← hc1] at hB
    obtain ⟨ll, nn, pp, ss, v1, ⟨g1, g2, g3⟩, v3, v4, v5, -⟩ := show rk_2 γ c1 (F_2 c1) from RS_o h2 hB
    have ex1 : x1 = rwL γ el q0 b := by
      rw [← h7, v1]
      show ll = γ 14 (el (γ 14 q0) b)
      rw [← hc1, g1]
    have m : γ 2 (rwL γ el q0 b) + 1 = Q.2.1 b := (hx.2.1 b hb).1
    rw [ex1] at h8
    have e3 : x3 = rAt γ el q0 b j := by
      rw [← h13, v1]
      show nn = _
      rw [show rAt γ el q0 b j = γ 15 (el (γ 14 q0) b) from if_neg (show ¬ j < γ 2 (rwL γ el q0 b) by omega), ← hc1, g2]
    have hj3 : j < Q.2.1 b := by omega
    have k3 := (rAt_k (j := j) h2 hc hcf (show b < γ 6 f by omega)).1
    rw [← e3] at k3
    have s3 : rwS (F_2 x3) := rwS_1 (RS_o h2 k3)
    have hl := hx.2.2 b hb j (show j ≤ γ 2 (rwL γ el q0 b) by omega)
    rw [← e3] at hl
    unfold lnQ at hl
    rw [pgRm_l] at hl
    have uA := uA_tr h17
    have uB := uB_tr h21
    have uS := ss_tr h24
    have f0 : fI (F_2 x3) 0 = fI (F_2 x3) 0 := rfl
    have f1 : fI (F_2 x3) 1 = fI (F_2 x3) 1 := rfl
    have f2 : fI (F_2 x3) 2 = fI (F_2 x3) 2 := rfl
    have f3 : fI (F_2 x3) 3 = fI (F_2 x3) 3 := rfl
    have f4 : fI (F_2 x3) 4 = fI (F_2 x3) 4 := rfl
    have f5 : fI (F_2 x3) 5 = fI (F_2 x3) 5 := rfl
    have f6 : fI (F_2 x3) 6 = fI (F_2 x3) 6 := rfl
    have r14 : fI (F_2 x3) 0 = x4 := h14
    have r15 : fI (F_2 x3) 5 = x5 := h15
    have r19 : fI (F_2 x3) 6 = x7 := h19
    have nl := rn_ln hw hv (qk_l hO hb hj3) hl f0 f4 f5 f6 (by unfold chA; rw [r14, r15]; exact Or.inr ⟨by omega, f2⟩) (by unfold chB; rw [r14, r19]; exact Or.inr ⟨by omega, f3⟩) (by unfold chT; rw [r14]; exact Or.inr ⟨by omega, f1⟩)
    have pt := rfX_put (F1 := F_2) (Q := pgRm Q a1.toInt a2.toInt b j) (b := b) (j := j) (l := rnL a1.toInt a2.toInt (Q.2.2.1 b j)) h2 hc hcf hQ6 hx hB2 hb hj3 (by rw [← e3]; exact fun x hx2 => rfl) (by rw [pgRm_l]; rfl) (by rw [← e3]; exact nl)
    rw [pgRm_s] at pt
    exact ih (j + 1) (by omega) hj3 pt
  · intro F_2 l5_2 x1 x2 x3 x4 x5 x6 x7 x8 x9 x10 x11 k e1 h1 h2 h3 h4 h5 h6 h7 h8 h9 h10 h11 h12 h13 h14 h15 h16 h17 h18 h19 h20 h21 h22 h23 h24 h25 h26 h27 h28 ih
    intro j hj hj2 hx
    have hB := hB2 b hb
    rw [← hc1] at hB
    obtain ⟨ll, nn, pp, ss, v1, ⟨g1, g2, g3⟩, v3, v4, v5, -⟩ := show rk_2 γ c1 (F_2 c1) from RS_o h2 hB
    have ex1 : x1 = rwL γ el q0 b := by
      rw [← h7, v1]
      show ll = γ 14 (el (γ 14 q0) b)
      rw [← hc1, g1]
    have m : γ 2 (rwL γ el q0 b) + 1 = Q.2.1 b := (hx.2.1 b hb).1
    rw [ex1] at h8
    have e3 : x3 = rAt γ el q0 b j := by
      rw [← h13, v1]
      show nn = _
      rw [show rAt γ el q0 b j = γ 15 (el (γ 14 q0) b) from if_neg (show ¬ j < γ 2 (rwL γ el q0 b) by omega), ← hc1, g2]
    have hj3 : j < Q.2.1 b := by omega
    have k3 := (rAt_k (j := j) h2 hc hcf (show b < γ 6 f by omega)).1
    rw [← e3] at k3
    have s3 : rwS (F_2 x3) := rwS_1 (RS_o h2 k3)
    have hl := hx.2.2 b hb j (show j ≤ γ 2 (rwL γ el q0 b) by omega)
    rw [← e3] at hl
    unfold lnQ at hl
    rw [pgRm_l] at hl
    have uA := uA_tr h17
    have uB := uB_tr h21
    have uS := ss_tr h24
    have f0 : fI (F_2 x3) 0 = fI (F_2 x3) 0 := rfl
    have f1 : fI (F_2 x3) 1 = fI (F_2 x3) 1 := rfl
    have f2 : fI (F_2 x3) 2 = fI (F_2 x3) 2 := rfl
    have f3 : fI (F_2 x3) 3 = fI (F_2 x3) 3 := rfl
    have f4 : fI (F_2 x3) 4 = fI (F_2 x3) 4 := rfl
    have f5 : fI (F_2 x3) 5 = fI (F_2 x3) 5 := rfl
    have f6 : fI (F_2 x3) 6 = fI (F_2 x3) 6 := rfl
    have r14 : fI (F_2 x3) 0 = x4 := h14
    have r15 : fI (F_2 x3) 5 = x5 := h15
    have r19 : fI (F_2 x3) 6 = x7 := h19
    have r26 : fI (F_2 x3) 1 = x10 := h26
    have nl := rn_ln hw hv (qk_l hO hb hj3) hl f0 f4 f5 f6 (by unfold chA; rw [r14, r15]; exact Or.inr ⟨by omega, f2⟩) (by unfold chB; rw [r14, r19]; exact Or.inr ⟨by omega, f3⟩) (by unfold chT; rw [r14, r26]; first | exact Or.inr ⟨by omega, f1.trans r26⟩ | exact Or.inr ⟨by omega, rfl⟩)
    have pt := rfX_put (F1 := F_2) (Q := pgRm Q a1.toInt a2.toInt b j) (b := b) (j := j) (l := rnL a1.toInt a2.toInt (Q.2.2.1 b j)) h2 hc hcf hQ6 hx hB2 hb hj3 (by rw [← e3]; exact fun x hx2 => rfl) (by rw [pgRm_l]; rfl) (by rw [← e3]; exact nl)
    rw [pgRm_s] at pt
    exact ih (j + 1) (by omega) hj3 pt
  · intro F_2 l5_2 x1 x2 x3 x4 x5 x6 x7 x8 x9 x10 x11 x12 k e1 h1 h2 h3 h4 h5 h6 h7 h8 h9 h10 h11 h12 h13 h14 h15 h16 h17 h18 h19 h20 h21 h22 h23 h24 h25 h26 h27 h28 h29 h30 ih
    intro j hj hj2 hx
    have hB := hB2 b hb
    rw [← hc1] at hB
    obtain ⟨ll, nn, pp, ss, v1, ⟨g1, g2, g3⟩, v3, v4, v5, -⟩ := show rk_2 γ c1 (F_2 c1) from RS_o h2 hB
    have ex1 : x1 = rwL γ el q0 b := by
      rw [← h7, v1]
      show ll = γ 14 (el (γ 14 q0) b)
      rw [← hc1, g1]
    have m : γ 2 (rwL γ el q0 b) + 1 = Q.2.1 b := (hx.2.1 b hb).1
    rw [ex1] at h8
    have e3 : x3 = rAt γ el q0 b j := by
      rw [← h13, v1]
      show nn = _
      rw [show rAt γ el q0 b j = γ 15 (el (γ 14 q0) b) from if_neg (show ¬ j < γ 2 (rwL γ el q0 b) by omega), ← hc1, g2]
    have hj3 : j < Q.2.1 b := by omega
    have k3 := (rAt_k (j := j) h2 hc hcf (show b < γ 6 f by omega)).1
    rw [← e3] at k3
    have s3 : rwS (F_2 x3) := rwS_1 (RS_o h2 k3)
    have hl := hx.2.2 b hb j (show j ≤ γ 2 (rwL γ el q0 b) by omega)
    rw [← e3] at hl
    unfold lnQ at hl
    rw [pgRm_l] at hl
    have uA := uA_tr h17
    have uB := uB_tr h21
    have uS := ss_tr h24
    obtain ⟨z1, z10, z11, z12, z13, z14, z15, z16⟩ := cw_1 s3 h29
    have f0 : fI (x11 x3) 0 = fI (F_2 x3) 0 := by rw [z10]
    have f1 : fI (x11 x3) 1 = a2 := by rw [z11]
    have f2 : fI (x11 x3) 2 = fI (F_2 x3) 2 := by rw [z12]
    have f3 : fI (x11 x3) 3 = fI (F_2 x3) 3 := by rw [z13]
    have f4 : fI (x11 x3) 4 = fI (F_2 x3) 4 := by rw [z14]
    have f5 : fI (x11 x3) 5 = fI (F_2 x3) 5 := by rw [z15]
    have f6 : fI (x11 x3) 6 = fI (F_2 x3) 6 := by rw [z16]
    have r14 : fI (F_2 x3) 0 = x4 := h14
    have r15 : fI (F_2 x3) 5 = x5 := h15
    have r19 : fI (F_2 x3) 6 = x7 := h19
    have r26 : fI (F_2 x3) 1 = x10 := h26
    have nl := rn_ln hw hv (qk_l hO hb hj3) hl f0 f4 f5 f6 (by unfold chA; rw [r14, r15]; exact Or.inr ⟨by omega, f2⟩) (by unfold chB; rw [r14, r19]; exact Or.inr ⟨by omega, f3⟩) (by unfold chT; rw [r14, r26]; exact Or.inl ⟨by omega, by rw [f1]⟩)
    have pt := rfX_put (F1 := x11) (Q := pgRm Q a1.toInt a2.toInt b j) (b := b) (j := j) (l := rnL a1.toInt a2.toInt (Q.2.2.1 b j)) h2 hc hcf hQ6 hx hB2 hb hj3 (by rw [← e3]; exact fun x hx2 => by rw [h28 x hx2]) (by rw [pgRm_l]; rfl) (by rw [← e3]; exact nl)
    rw [pgRm_s] at pt
    exact ih (j + 1) (by omega) hj3 pt
  · intro F_2 l5_2 x1 x2 x3 x4 x5 x6 x7 x8 x9 x10 x11 k e1 h1 h2 h3 h4 h5 h6 h7 h8 h9 h10 h11 h12 h13 h14 h15 h16 h17 h18 h19 h20 h21 h22 h23 h24 h25 h26 h27 h28 ih
    intro j hj hj2 hx
    have hB := hB2 b hb
    rw [← hc1] at hB
    obtain ⟨ll, nn, pp, ss, v1, ⟨g1, g2, g3⟩, v3, v4, v5, -⟩ := show rk_2 γ c1 (F_2 c1) from RS_o h2 hB
    have ex1 : x1 = rwL γ el q0 b := by
      rw [← h7, v1]
      show ll = γ 14 (el (γ 14 q0) b)
      rw [← hc1, g1]
    have m : γ 2 (rwL γ el q0 b) + 1 = Q.2.1 b := (hx.2.1 b hb).1
    rw [ex1] at h8
    have e3 : x3 = rAt γ el q0 b j := by
      rw [← h13, v1]
      show nn = _
      rw [show rAt γ el q0 b j = γ 15 (el (γ 14 q0) b) from if_neg (show ¬ j < γ 2 (rwL γ el q0 b) by omega), ← hc1, g2]
    have hj3 : j < Q.2.1 b := by omega
    have k3 := (rAt_k (j := j) h2 hc hcf (show b < γ 6 f by omega)).1
    rw [← e3] at k3
    have s3 : rwS (F_2 x3) := rwS_1 (RS_o h2 k3)
    have hl := hx.2.2 b hb j (show j ≤ γ 2 (rwL γ el q0 b) by omega)
    rw [← e3] at hl
    unfold lnQ at hl
    rw [pgRm_l] at hl
    have uA := uA_tr h17
    have uB := uB_tr h21
    have uS := ss_tr h26
    have f0 : fI (F_2 x3) 0 = fI (F_2 x3) 0 := rfl
    have f1 : fI (F_2 x3) 1 = fI (F_2 x3) 1 := rfl
    have f2 : fI (F_2 x3) 2 = fI (F_2 x3) 2 := rfl
    have f3 : fI (F_2 x3) 3 = fI (F_2 x3) 3 := rfl
    have f4 : fI (F_2 x3) 4 = fI (F_2 x3) 4 := rfl
    have f5 : fI (F_2 x3) 5 = fI (F_2 x3) 5 := rfl
    have f6 : fI (F_2 x3) 6 = fI (F_2 x3) 6 := rfl
    have r14 : fI (F_2 x3) 0 = x4 := h14
    have r15 : fI (F_2 x3) 5 = x5 := h15
    have r19 : fI (F_2 x3) 6 = x7 := h19
    have r23 : fI (F_2 x3) 3 = x9 := h23
    have nl := rn_ln hw hv (qk_l hO hb hj3) hl f0 f4 f5 f6 (by unfold chA; rw [r14, r15]; exact Or.inr ⟨by omega, f2⟩) (by unfold chB; rw [r14, r19, r23]; first | exact Or.inr ⟨by omega, f3.trans r23⟩ | exact Or.inr ⟨by omega, rfl⟩) (by unfold chT; rw [r14]; exact Or.inr ⟨by omega, f1⟩)
    have pt := rfX_put (F1 := F_2) (Q := pgRm Q a1.toInt a2.toInt b j) (b := b) (j := j) (l := rnL a1.toInt a2.toInt (Q.2.2.1 b j)) h2 hc hcf hQ6 hx hB2 hb hj3 (by rw [← e3]; exact fun x hx2 => rfl) (by rw [pgRm_l]; rfl) (by rw [← e3]; exact nl)
    rw [pgRm_s] at pt
    exact ih (j + 1) (by omega) hj3 pt
  · intro F_2 l5_2 x1 x2 x3 x4 x5 x6 x7 x8 x9 x10 x11 x12 k e1 h1 h2 h3 h4 h5 h6 h7 h8 h9 h10 h11 h12 h13 h14 h15 h16 h17 h18 h19 h20 h21 h22 h23 h24 h25 h26 h27 h28 h29 h30 ih
    intro j hj hj2 hx
    have hB := hB2 b hb
    rw [← hc1] at hB
    obtain ⟨ll, nn, pp, ss, v1, ⟨g1, g2, g3⟩, v3, v4, v5, -⟩ := show rk_2 γ c1 (F_2 c1) from RS_o h2 hB
    have ex1 : x1 = rwL γ el q0 b := by
      rw [← h7, v1]
      show ll = γ 14 (el (γ 14 q0) b)
      rw [← hc1, g1]
    have m : γ 2 (rwL γ el q0 b) + 1 = Q.2.1 b := (hx.2.1 b hb).1
    rw [ex1] at h8
    have e3 : x3 = rAt γ el q0 b j := by
      rw [← h13, v1]
      show nn = _
      rw [show rAt γ el q0 b j = γ 15 (el (γ 14 q0) b) from if_neg (show ¬ j < γ 2 (rwL γ el q0 b) by omega), ← hc1, g2]
    have hj3 : j < Q.2.1 b := by omega
    have k3 := (rAt_k (j := j) h2 hc hcf (show b < γ 6 f by omega)).1
    rw [← e3] at k3
    have s3 : rwS (F_2 x3) := rwS_1 (RS_o h2 k3)
    have hl := hx.2.2 b hb j (show j ≤ γ 2 (rwL γ el q0 b) by omega)
    rw [← e3] at hl
    unfold lnQ at hl
    rw [pgRm_l] at hl
    have uA := uA_tr h17
    have uB := uB_tr h21
    have uS := ss_tr h26
    have f0 : fI (F_2 x3) 0 = fI (F_2 x3) 0 := rfl
    have f1 : fI (F_2 x3) 1 = fI (F_2 x3) 1 := rfl
    have f2 : fI (F_2 x3) 2 = fI (F_2 x3) 2 := rfl
    have f3 : fI (F_2 x3) 3 = fI (F_2 x3) 3 := rfl
    have f4 : fI (F_2 x3) 4 = fI (F_2 x3) 4 := rfl
    have f5 : fI (F_2 x3) 5 = fI (F_2 x3) 5 := rfl
    have f6 : fI (F_2 x3) 6 = fI (F_2 x3) 6 := rfl
    have r14 : fI (F_2 x3) 0 = x4 := h14
    have r15 : fI (F_2 x3) 5 = x5 := h15
    have r19 : fI (F_2 x3) 6 = x7 := h19
    have r23 : fI (F_2 x3) 3 = x9 := h23
    have r28 : fI (F_2 x3) 1 = x11 := h28
    have nl := rn_ln hw hv (qk_l hO hb hj3) hl f0 f4 f5 f6 (by unfold chA; rw [r14, r15]; exact Or.inr ⟨by omega, f2⟩) (by unfold chB; rw [r14, r19, r23]; first | exact Or.inr ⟨by omega, f3.trans r23⟩ | exact Or.inr ⟨by omega, rfl⟩) (by unfold chT; rw [r14, r28]; first | exact Or.inr ⟨by omega, f1.trans r28⟩ | exact Or.inr ⟨by omega, rfl⟩)
    have pt := rfX_put (F1 := F_2) (Q := pgRm Q a1.toInt a2.toInt b j) (b := b) (j := j) (l := rnL a1.toInt a2.toInt (Q.2.2.1 b j)) h2 hc hcf hQ6 hx hB2 hb hj3 (by rw [← e3]; exact fun x hx2 => rfl) (by rw [pgRm_l]; rfl) (by rw [← e3]; exact nl)
    rw [pgRm_s] at pt
    exact ih (j + 1) (by omega) hj3 pt
  · intro F_2 l5_2 x1 x2 x3 x4 x5 x6 x7 x8 x9 x10 x11 x12 x13 k e1 h1 h2 h3 h4 h5 h6 h7 h8 h9 h10 h11 h12 h13 h14 h15 h16 h17 h18 h19 h20 h21 h22 h23 h24 h25 h26 h27 h28 h29 h30 h31 h32 ih
    intro j hj hj2 hx
    have hB := hB2 b hb
    rw [← hc1] at hB
    obtain ⟨ll, nn, pp, ss, v1, ⟨g1, g2, g3⟩, v3, v4, v5, -⟩ := show rk_2 γ c1 (F_2 c1) from RS_o h2 hB
    have ex1 : x1 = rwL γ el q0 b := by
      rw [← h7, v1]
      show ll = γ 14 (el (γ 14 q0) b)
      rw [← hc1, g1]
    have m : γ 2 (rwL γ el q0 b) + 1 = Q.2.1 b := (hx.2.1 b hb).1
    rw [ex1] at h8
    have e3 : x3 = rAt γ el q0 b j := by
      rw [← h13, v1]
      show nn = _
      rw [show rAt γ el q0 b j = γ 15 (el (γ 14 q0) b) from if_neg (show ¬ j < γ 2 (rwL γ el q0 b) by omega), ← hc1, g2]
    have hj3 : j < Q.2.1 b := by omega
    have k3 := (rAt_k (j := j) h2 hc hcf (show b < γ 6 f by omega)).1
    rw [← e3] at k3
    have s3 : rwS (F_2 x3) := rwS_1 (RS_o h2 k3)
    have hl := hx.2.2 b hb j (show j ≤ γ 2 (rwL γ el q0 b) by omega)
    rw [← e3] at hl
    unfold lnQ at hl
    rw [pgRm_l] at hl
    have uA := uA_tr h17
    have uB := uB_tr h21
    have uS := ss_tr h26
    obtain ⟨z1, z10, z11, z12, z13, z14, z15, z16⟩ := cw_1 s3 h31
    have f0 : fI (x12 x3) 0 = fI (F_2 x3) 0 := by rw [z10]
    have f1 : fI (x12 x3) 1 = a2 := by rw [z11]
    have f2 : fI (x12 x3) 2 = fI (F_2 x3) 2 := by rw [z12]
    have f3 : fI (x12 x3) 3 = fI (F_2 x3) 3 := by rw [z13]
    have f4 : fI (x12 x3) 4 = fI (F_2 x3) 4 := by rw [z14]
    have f5 : fI (x12 x3) 5 = fI (F_2 x3) 5 := by rw [z15]
    have f6 : fI (x12 x3) 6 = fI (F_2 x3) 6 := by rw [z16]
    have r14 : fI (F_2 x3) 0 = x4 := h14
    have r15 : fI (F_2 x3) 5 = x5 := h15
    have r19 : fI (F_2 x3) 6 = x7 := h19
    have r23 : fI (F_2 x3) 3 = x9 := h23
    have r28 : fI (F_2 x3) 1 = x11 := h28
    have nl := rn_ln hw hv (qk_l hO hb hj3) hl f0 f4 f5 f6 (by unfold chA; rw [r14, r15]; exact Or.inr ⟨by omega, f2⟩) (by unfold chB; rw [r14, r19, r23]; first | exact Or.inr ⟨by omega, f3.trans r23⟩ | exact Or.inr ⟨by omega, rfl⟩) (by unfold chT; rw [r14, r28]; exact Or.inl ⟨by omega, by rw [f1]⟩)
    have pt := rfX_put (F1 := x12) (Q := pgRm Q a1.toInt a2.toInt b j) (b := b) (j := j) (l := rnL a1.toInt a2.toInt (Q.2.2.1 b j)) h2 hc hcf hQ6 hx hB2 hb hj3 (by rw [← e3]; exact fun x hx2 => by rw [h30 x hx2]) (by rw [pgRm_l]; rfl) (by rw [← e3]; exact nl)
    rw [pgRm_s] at pt
    exact ih (j + 1) (by omega) hj3 pt
  · intro F_2 l5_2 x1 x2 x3 x4 x5 x6 x7 x8 x9 x10 x11 x12 k e1 h1 h2 h3 h4 h5 h6 h7 h8 h9 h10 h11 h12 h13 h14 h15 h16 h17 h18 h19 h20 h21 h22 h23 h24 h25 h26 h27 h28 h29 h30 h31 ih
    intro j hj hj2 hx
    have hB := hB2 b hb
    rw [← hc1] at hB
    obtain ⟨ll, nn, pp, ss, v1, ⟨g1, g2, g3⟩, v3, v4, v5, -⟩ := show rk_2 γ c1 (F_2 c1) from RS_o h2 hB
    have ex1 : x1 = rwL γ el q0 b := by
      rw [← h7, v1]
      show ll = γ 14 (el (γ 14 q0) b)
      rw [← hc1, g1]
    have m : γ 2 (rwL γ el q0 b) + 1 = Q.2.1 b := (hx.2.1 b hb).1
    rw [ex1] at h8
    have e3 : x3 = rAt γ el q0 b j := by
      rw [← h13, v1]
      show nn = _
      rw [show rAt γ el q0 b j = γ 15 (el (γ 14 q0) b) from if_neg (show ¬ j < γ 2 (rwL γ el q0 b) by omega), ← hc1, g2]
    have hj3 : j < Q.2.1 b := by omega
    have k3 := (rAt_k (j := j) h2 hc hcf (show b < γ 6 f by omega)).1
    rw [← e3] at k3
    have s3 : rwS (F_2 x3) := rwS_1 (RS_o h2 k3)
    have hl := hx.2.2 b hb j (show j ≤ γ 2 (rwL γ el q0 b) by omega)
    rw [← e3] at hl
    unfold lnQ at hl
    rw [pgRm_l] at hl
    have uA := uA_tr h17
    have uB := uB_tr h21
    have uS := ss_tr h29
    obtain ⟨z1, z10, z11, z12, z13, z14, z15, z16⟩ := cw_3 s3 h26
    have f0 : fI (x10 x3) 0 = fI (F_2 x3) 0 := by rw [z10]
    have f1 : fI (x10 x3) 1 = fI (F_2 x3) 1 := by rw [z11]
    have f2 : fI (x10 x3) 2 = fI (F_2 x3) 2 := by rw [z12]
    have f3 : fI (x10 x3) 3 = a2 := by rw [z13]
    have f4 : fI (x10 x3) 4 = fI (F_2 x3) 4 := by rw [z14]
    have f5 : fI (x10 x3) 5 = fI (F_2 x3) 5 := by rw [z15]
    have f6 : fI (x10 x3) 6 = fI (F_2 x3) 6 := by rw [z16]
    have r14 : fI (F_2 x3) 0 = x4 := h14
    have r15 : fI (F_2 x3) 5 = x5 := h15
    have r19 : fI (F_2 x3) 6 = x7 := h19
    have r23 : fI (F_2 x3) 3 = x9 := h23
    have r27 : fI (F_2 x3) 0 = x4 := by rw [← h27, z10]
    have nl := rn_ln hw hv (qk_l hO hb hj3) hl f0 f4 f5 f6 (by unfold chA; rw [r14, r15]; exact Or.inr ⟨by omega, f2⟩) (by unfold chB; rw [r14, r19, r23]; exact Or.inl ⟨by omega, by rw [f3]⟩) (by unfold chT; rw [r14]; exact Or.inr ⟨by omega, f1⟩)
    have pt := rfX_put (F1 := x10) (Q := pgRm Q a1.toInt a2.toInt b j) (b := b) (j := j) (l := rnL a1.toInt a2.toInt (Q.2.2.1 b j)) h2 hc hcf hQ6 hx hB2 hb hj3 (by rw [← e3]; exact fun x hx2 => by rw [h25 x hx2]) (by rw [pgRm_l]; rfl) (by rw [← e3]; exact nl)
    rw [pgRm_s] at pt
    exact ih (j + 1) (by omega) hj3 pt
  · intro F_2 l5_2 x1 x2 x3 x4 x5 x6 x7 x8 x9 x10 x11 x12 x13 k e1 h1 h2 h3 h4 h5 h6 h7 h8 h9 h10 h11 h12 h13 h14 h15 h16 h17 h18 h19 h20 h21 h22 h23 h24 h25 h26 h27 h28 h29 h30 h31 h32 h33 ih
    intro j hj hj2 hx
    have hB := hB2 b hb
    rw [← hc1] at hB
    obtain ⟨ll, nn, pp, ss, v1, ⟨g1, g2, g3⟩, v3, v4, v5, -⟩ := show rk_2 γ c1 (F_2 c1) from RS_o h2 hB
    have ex1 : x1 = rwL γ el q0 b := by
      rw [← h7, v1]
      show ll = γ 14 (el (γ 14 q0) b)
      rw [← hc1, g1]
    have m : γ 2 (rwL γ el q0 b) + 1 = Q.2.1 b := (hx.2.1 b hb).1
    rw [ex1] at h8
    have e3 : x3 = rAt γ el q0 b j := by
      rw [← h13, v1]
      show nn = _
      rw [show rAt γ el q0 b j = γ 15 (el (γ 14 q0) b) from if_neg (show ¬ j < γ 2 (rwL γ el q0 b) by omega), ← hc1, g2]
    have hj3 : j < Q.2.1 b := by omega
    have k3 := (rAt_k (j := j) h2 hc hcf (show b < γ 6 f by omega)).1
    rw [← e3] at k3
    have s3 : rwS (F_2 x3) := rwS_1 (RS_o h2 k3)
    have hl := hx.2.2 b hb j (show j ≤ γ 2 (rwL γ el q0 b) by omega)
    rw [← e3] at hl
    unfold lnQ at hl
    rw [pgRm_l] at hl
    have uA := uA_tr h17
    have uB := uB_tr h21
    have uS := ss_tr h29
    obtain ⟨z1, z10, z11, z12, z13, z14, z15, z16⟩ := cw_3 s3 h26
    have f0 : fI (x10 x3) 0 = fI (F_2 x3) 0 := by rw [z10]
    have f1 : fI (x10 x3) 1 = fI (F_2 x3) 1 := by rw [z11]
    have f2 : fI (x10 x3) 2 = fI (F_2 x3) 2 := by rw [z12]
    have f3 : fI (x10 x3) 3 = a2 := by rw [z13]
    have f4 : fI (x10 x3) 4 = fI (F_2 x3) 4 := by rw [z14]
    have f5 : fI (x10 x3) 5 = fI (F_2 x3) 5 := by rw [z15]
    have f6 : fI (x10 x3) 6 = fI (F_2 x3) 6 := by rw [z16]
    have r14 : fI (F_2 x3) 0 = x4 := h14
    have r15 : fI (F_2 x3) 5 = x5 := h15
    have r19 : fI (F_2 x3) 6 = x7 := h19
    have r23 : fI (F_2 x3) 3 = x9 := h23
    have r27 : fI (F_2 x3) 0 = x4 := by rw [← h27, z10]
    have r31 : fI (F_2 x3) 1 = x12 := by rw [← h31, z11]
    have nl := rn_ln hw hv (qk_l hO hb hj3) hl f0 f4 f5 f6 (by unfold chA; rw [r14, r15]; exact Or.inr ⟨by omega, f2⟩) (by unfold chB; rw [r14, r19, r23]; exact Or.inl ⟨by omega, by rw [f3]⟩) (by unfold chT; rw [r14, r31]; first | exact Or.inr ⟨by omega, f1.trans r31⟩ | exact Or.inr ⟨by omega, rfl⟩)
    have pt := rfX_put (F1 := x10) (Q := pgRm Q a1.toInt a2.toInt b j) (b := b) (j := j) (l := rnL a1.toInt a2.toInt (Q.2.2.1 b j)) h2 hc hcf hQ6 hx hB2 hb hj3 (by rw [← e3]; exact fun x hx2 => by rw [h25 x hx2]) (by rw [pgRm_l]; rfl) (by rw [← e3]; exact nl)
    rw [pgRm_s] at pt
    exact ih (j + 1) (by omega) hj3 pt
  · intro F_2 l5_2 x1 x2 x3 x4 x5 x6 x7 x8 x9 x10 x11 x12 x13 x14 k e1 h1 h2 h3 h4 h5 h6 h7 h8 h9 h10 h11 h12 h13 h14 h15 h16 h17 h18 h19 h20 h21 h22 h23 h24 h25 h26 h27 h28 h29 h30 h31 h32 h33 h34 h35 ih
    intro j hj hj2 hx
    have hB := hB2 b hb
    rw [← hc1] at hB
    obtain ⟨ll, nn, pp, ss, v1, ⟨g1, g2, g3⟩, v3, v4, v5, -⟩ := show rk_2 γ c1 (F_2 c1) from RS_o h2 hB
    have ex1 : x1 = rwL γ el q0 b := by
      rw [← h7, v1]
      show ll = γ 14 (el (γ 14 q0) b)
      rw [← hc1, g1]
    have m : γ 2 (rwL γ el q0 b) + 1 = Q.2.1 b := (hx.2.1 b hb).1
    rw [ex1] at h8
    have e3 : x3 = rAt γ el q0 b j := by
      rw [← h13, v1]
      show nn = _
      rw [show rAt γ el q0 b j = γ 15 (el (γ 14 q0) b) from if_neg (show ¬ j < γ 2 (rwL γ el q0 b) by omega), ← hc1, g2]
    have hj3 : j < Q.2.1 b := by omega
    have k3 := (rAt_k (j := j) h2 hc hcf (show b < γ 6 f by omega)).1
    rw [← e3] at k3
    have s3 : rwS (F_2 x3) := rwS_1 (RS_o h2 k3)
    have hl := hx.2.2 b hb j (show j ≤ γ 2 (rwL γ el q0 b) by omega)
    rw [← e3] at hl
    unfold lnQ at hl
    rw [pgRm_l] at hl
    have uA := uA_tr h17
    have uB := uB_tr h21
    have uS := ss_tr h29
    obtain ⟨z1, z10, z11, z12, z13, z14, z15, z16⟩ := cw_3 s3 h26
    obtain ⟨z2, z20, z21, z22, z23, z24, z25, z26⟩ := cw_1 z1 h34
    have f0 : fI (x13 x3) 0 = fI (F_2 x3) 0 := by rw [z20, z10]
    have f1 : fI (x13 x3) 1 = a2 := by rw [z21]
    have f2 : fI (x13 x3) 2 = fI (F_2 x3) 2 := by rw [z22, z12]
    have f3 : fI (x13 x3) 3 = a2 := by rw [z23, z13]
    have f4 : fI (x13 x3) 4 = fI (F_2 x3) 4 := by rw [z24, z14]
    have f5 : fI (x13 x3) 5 = fI (F_2 x3) 5 := by rw [z25, z15]
    have f6 : fI (x13 x3) 6 = fI (F_2 x3) 6 := by rw [z26, z16]
    have r14 : fI (F_2 x3) 0 = x4 := h14
    have r15 : fI (F_2 x3) 5 = x5 := h15
    have r19 : fI (F_2 x3) 6 = x7 := h19
    have r23 : fI (F_2 x3) 3 = x9 := h23
    have r27 : fI (F_2 x3) 0 = x4 := by rw [← h27, z10]
    have r31 : fI (F_2 x3) 1 = x12 := by rw [← h31, z11]
    have nl := rn_ln hw hv (qk_l hO hb hj3) hl f0 f4 f5 f6 (by unfold chA; rw [r14, r15]; exact Or.inr ⟨by omega, f2⟩) (by unfold chB; rw [r14, r19, r23]; exact Or.inl ⟨by omega, by rw [f3]⟩) (by unfold chT; rw [r14, r31]; exact Or.inl ⟨by omega, by rw [f1]⟩)
    have pt := rfX_put (F1 := x13) (Q := pgRm Q a1.toInt a2.toInt b j) (b := b) (j := j) (l := rnL a1.toInt a2.toInt (Q.2.2.1 b j)) h2 hc hcf hQ6 hx hB2 hb hj3 (by rw [← e3]; exact fun x hx2 => by rw [h33 x hx2, h25 x hx2]) (by rw [pgRm_l]; rfl) (by rw [← e3]; exact nl)
    rw [pgRm_s] at pt
    exact ih (j + 1) (by omega) hj3 pt
  · intro F_2 l5_2 x1 x2 x3 x4 x5 x6 x7 x8 x9 x10 x11 k e1 h1 h2 h3 h4 h5 h6 h7 h8 h9 h10 h11 h12 h13 h14 h15 h16 h17 h18 h19 h20 h21 h22 h23 h24 h25 h26 h27 h28 ih
    intro j hj hj2 hx
    have hB := hB2 b hb
    rw [← hc1] at hB
    obtain ⟨ll, nn, pp, ss, v1, ⟨g1, g2, g3⟩, v3, v4, v5, -⟩ := show rk_2 γ c1 (F_2 c1) from RS_o h2 hB
    have ex1 : x1 = rwL γ el q0 b := by
      rw [← h7, v1]
      show ll = γ 14 (el (γ 14 q0) b)
      rw [← hc1, g1]
    have m : γ 2 (rwL γ el q0 b) + 1 = Q.2.1 b := (hx.2.1 b hb).1
    rw [ex1] at h8
    have e3 : x3 = rAt γ el q0 b j := by
      rw [← h13, v1]
      show nn = _
      rw [show rAt γ el q0 b j = γ 15 (el (γ 14 q0) b) from if_neg (show ¬ j < γ 2 (rwL γ el q0 b) by omega), ← hc1, g2]
    have hj3 : j < Q.2.1 b := by omega
    have k3 := (rAt_k (j := j) h2 hc hcf (show b < γ 6 f by omega)).1
    rw [← e3] at k3
    have s3 : rwS (F_2 x3) := rwS_1 (RS_o h2 k3)
    have hl := hx.2.2 b hb j (show j ≤ γ 2 (rwL γ el q0 b) by omega)
    rw [← e3] at hl
    unfold lnQ at hl
    rw [pgRm_l] at hl
    have uA := uA_tr h17
    have uB := uB_tr h23
    have uS := ss_tr h26
    have f0 : fI (F_2 x3) 0 = fI (F_2 x3) 0 := rfl
    have f1 : fI (F_2 x3) 1 = fI (F_2 x3) 1 := rfl
    have f2 : fI (F_2 x3) 2 = fI (F_2 x3) 2 := rfl
    have f3 : fI (F_2 x3) 3 = fI (F_2 x3) 3 := rfl
    have f4 : fI (F_2 x3) 4 = fI (F_2 x3) 4 := rfl
    have f5 : fI (F_2 x3) 5 = fI (F_2 x3) 5 := rfl
    have f6 : fI (F_2 x3) 6 = fI (F_2 x3) 6 := rfl
    have r14 : fI (F_2 x3) 0 = x4 := h14
    have r15 : fI (F_2 x3) 5 = x5 := h15
    have r19 : fI (F_2 x3) 2 = x7 := h19
    have r21 : fI (F_2 x3) 6 = x8 := h21
    have nl := rn_ln hw hv (qk_l hO hb hj3) hl f0 f4 f5 f6 (by unfold chA; rw [r14, r15, r19]; first | exact Or.inr ⟨by omega, f2.trans r19⟩ | exact Or.inr ⟨by omega, rfl⟩) (by unfold chB; rw [r14, r21]; exact Or.inr ⟨by omega, f3⟩) (by unfold chT; rw [r14]; exact Or.inr ⟨by omega, f1⟩)
    have pt := rfX_put (F1 := F_2) (Q := pgRm Q a1.toInt a2.toInt b j) (b := b) (j := j) (l := rnL a1.toInt a2.toInt (Q.2.2.1 b j)) h2 hc hcf hQ6 hx hB2 hb hj3 (by rw [← e3]; exact fun x hx2 => rfl) (by rw [pgRm_l]; rfl) (by rw [← e3]; exact nl)
    rw [pgRm_s] at pt
    exact ih (j + 1) (by omega) hj3 pt
  · intro F_2 l5_2 x1 x2 x3 x4 x5 x6 x7 x8 x9 x10 x11 x12 k e1 h1 h2 h3 h4 h5 h6 h7 h8 h9 h10 h11 h12 h13 h14 h15 h16 h17 h18 h19 h20 h21 h22 h23 h24 h25 h26 h27 h28 h29 h30 ih
    intro j hj hj2 hx
    have hB := hB2 b hb
    rw [← hc1] at hB
    obtain ⟨ll, nn, pp, ss, v1, ⟨g1, g2, g3⟩, v3, v4, v5, -⟩ := show rk_2 γ c1 (F_2 c1) from RS_o h2 hB
    have ex1 : x1 = rwL γ el q0 b := by
      rw [← h7, v1]
      show ll = γ 14 (el (γ 14 q0) b)
      rw [← hc1, g1]
    have m : γ 2 (rwL γ el q0 b) + 1 = Q.2.1 b := (hx.2.1 b hb).1
    rw [ex1] at h8
    have e3 : x3 = rAt γ el q0 b j := by
      rw [← h13, v1]
      show nn = _
      rw [show rAt γ el q0 b j = γ 15 (el (γ 14 q0) b) from if_neg (show ¬ j < γ 2 (rwL γ el q0 b) by omega), ← hc1, g2]
    have hj3 : j < Q.2.1 b := by omega
    have k3 := (rAt_k (j := j) h2 hc hcf (show b < γ 6 f by omega)).1
    rw [← e3] at k3
    have s3 : rwS (F_2 x3) := rwS_1 (RS_o h2 k3)
    have hl := hx.2.2 b hb j (show j ≤ γ 2 (rwL γ el q0 b) by omega)
    rw [← e3] at hl
    unfold lnQ at hl
    rw [pgRm_l] at hl
    have uA := uA_tr h17
    have uB := uB_tr h23
    have uS := ss_tr h26
    have f0 : fI (F_2 x3) 0 = fI (F_2 x3) 0 := rfl
    have f1 : fI (F_2 x3) 1 = fI (F_2 x3) 1 := rfl
    have f2 : fI (F_2 x3) 2 = fI (F_2 x3) 2 := rfl
    have f3 : fI (F_2 x3) 3 = fI (F_2 x3) 3 := rfl
    have f4 : fI (F_2 x3) 4 = fI (F_2 x3) 4 := rfl
    have f5 : fI (F_2 x3) 5 = fI (F_2 x3) 5 := rfl
    have f6 : fI (F_2 x3) 6 = fI (F_2 x3) 6 := rfl
    have r14 : fI (F_2 x3) 0 = x4 := h14
    have r15 : fI (F_2 x3) 5 = x5 := h15
    have r19 : fI (F_2 x3) 2 = x7 := h19
    have r21 : fI (F_2 x3) 6 = x8 := h21
    have r28 : fI (F_2 x3) 1 = x11 := h28
    have nl := rn_ln hw hv (qk_l hO hb hj3) hl f0 f4 f5 f6 (by unfold chA; rw [r14, r15, r19]; first | exact Or.inr ⟨by omega, f2.trans r19⟩ | exact Or.inr ⟨by omega, rfl⟩) (by unfold chB; rw [r14, r21]; exact Or.inr ⟨by omega, f3⟩) (by unfold chT; rw [r14, r28]; first | exact Or.inr ⟨by omega, f1.trans r28⟩ | exact Or.inr ⟨by omega, rfl⟩)
    have pt := rfX_put (F1 := F_2) (Q := pgRm Q a1.toInt a2.toInt b j) (b := b) (j := j) (l := rnL a1.toInt a2.toInt (Q.2.2.1 b j)) h2 hc hcf hQ6 hx hB2 hb hj3 (by rw [← e3]; exact fun x hx2 => rfl) (by rw [pgRm_l]; rfl) (by rw [← e3]; exact nl)
    rw [pgRm_s] at pt
    exact ih (j + 1) (by omega) hj3 pt
  · intro F_2 l5_2 x1 x2 x3 x4 x5 x6 x7 x8 x9 x10 x11 x12 x13 k e1 h1 h2 h3 h4 h5 h6 h7 h8 h9 h10 h11 h12 h13 h14 h15 h16 h17 h18 h19 h20 h21 h22 h23 h24 h25 h26 h27 h28 h29 h30 h31 h32 ih
    intro j hj hj2 hx
    have hB := hB2 b hb
    rw [← hc1] at hB
    obtain ⟨ll, nn, pp, ss, v1, ⟨g1, g2, g3⟩, v3, v4, v5, -⟩ := show rk_2 γ c1 (F_2 c1) from RS_o h2 hB
    have ex1 : x1 = rwL γ el q0 b := by
      rw [← h7, v1]
      show ll = γ 14 (el (γ 14 q0) b)
      rw [← hc1, g1]
    have m : γ 2 (rwL γ el q0 b) + 1 = Q.2.1 b := (hx.2.1 b hb).1
    rw [ex1] at h8
    have e3 : x3 = rAt γ el q0 b j := by
      rw [← h13, v1]
      show nn = _
      rw [show rAt γ el q0 b j = γ 15 (el (γ 14 q0) b) from if_neg (show ¬ j < γ 2 (rwL γ el q0 b) by omega), ← hc1, g2]
    have hj3 : j < Q.2.1 b := by omega
    have k3 := (rAt_k (j := j) h2 hc hcf (show b < γ 6 f by omega)).1
    rw [← e3] at k3
    have s3 : rwS (F_2 x3) := rwS_1 (RS_o h2 k3)
    have hl := hx.2.2 b hb j (show j ≤ γ 2 (rwL γ el q0 b) by omega)
    rw [← e3] at hl
    unfold lnQ at hl
    rw [pgRm_l] at hl
    have uA := uA_tr h17
    have uB := uB_tr h23
    have uS := ss_tr h26
    obtain ⟨z1, z10, z11, z12, z13, z14, z15, z16⟩ := cw_1 s3 h31
    have f0 : fI (x12 x3) 0 = fI (F_2 x3) 0 := by rw [z10]
    have f1 : fI (x12 x3) 1 = a2 := by rw [z11]
    have f2 : fI (x12 x3) 2 = fI (F_2 x3) 2 := by rw [z12]
    have f3 : fI (x12 x3) 3 = fI (F_2 x3) 3 := by rw [z13]
    have f4 : fI (x12 x3) 4 = fI (F_2 x3) 4 := by rw [z14]
    have f5 : fI (x12 x3) 5 = fI (F_2 x3) 5 := by rw [z15]
    have f6 : fI (x12 x3) 6 = fI (F_2 x3) 6 := by rw [z16]
    have r14 : fI (F_2 x3) 0 = x4 := h14
    have r15 : fI (F_2 x3) 5 = x5 := h15
    have r19 : fI (F_2 x3) 2 = x7 := h19
    have r21 : fI (F_2 x3) 6 = x8 := h21
    have r28 : fI (F_2 x3) 1 = x11 := h28
    have nl := rn_ln hw hv (qk_l hO hb hj3) hl f0 f4 f5 f6 (by unfold chA; rw [r14, r15, r19]; first | exact Or.inr ⟨by omega, f2.trans r19⟩ | exact Or.inr ⟨by omega, rfl⟩) (by unfold chB; rw [r14, r21]; exact Or.inr ⟨by omega, f3⟩) (by unfold chT; rw [r14, r28]; exact Or.inl ⟨by omega, by rw [f1]⟩)
    have pt := rfX_put (F1 := x12) (Q := pgRm Q a1.toInt a2.toInt b j) (b := b) (j := j) (l := rnL a1.toInt a2.toInt (Q.2.2.1 b j)) h2 hc hcf hQ6 hx hB2 hb hj3 (by rw [← e3]; exact fun x hx2 => by rw [h30 x hx2]) (by rw [pgRm_l]; rfl) (by rw [← e3]; exact nl)
    rw [pgRm_s] at pt
    exact ih (j + 1) (by omega) hj3 pt
  · intro F_2 l5_2 x1 x2 x3 x4 x5 x6 x7 x8 x9 x10 x11 x12 k e1 h1 h2 h3 h4 h5 h6 h7 h8 h9 h10 h11 h12 h13 h14 h15 h16 h17 h18 h19 h20 h21 h22 h23 h24 h25 h26 h27 h28 h29 h30 ih
    intro j hj hj2 hx
    have hB := hB2 b hb
    rw [← hc1] at hB
    obtain ⟨ll, nn, pp, ss, v1, ⟨g1, g2, g3⟩, v3, v4, v5, -⟩ := show rk_2 γ c1 (F_2 c1) from RS_o h2 hB
    have ex1 : x1 = rwL γ el q0 b := by
      rw [← h7, v1]
      show ll = γ 14 (el (γ 14 q0) b)
      rw [← hc1, g1]
    have m : γ 2 (rwL γ el q0 b) + 1 = Q.2.1 b := (hx.2.1 b hb).1
    rw [ex1] at h8
    have e3 : x3 = rAt γ el q0 b j := by
      rw [← h13, v1]
      show nn = _
      rw [show rAt γ el q0 b j = γ 15 (el (γ 14 q0) b) from if_neg (show ¬ j < γ 2 (rwL γ el q0 b) by omega), ← hc1, g2]
    have hj3 : j < Q.2.1 b := by omega
    have k3 := (rAt_k (j := j) h2 hc hcf (show b < γ 6 f by omega)).1
    rw [← e3] at k3
    have s3 : rwS (F_2 x3) := rwS_1 (RS_o h2 k3)
    have hl := hx.2.2 b hb j (show j ≤ γ 2 (rwL γ el q0 b) by omega)
    rw [← e3] at hl
    unfold lnQ at hl
    rw [pgRm_l] at hl
    have uA := uA_tr h17
    have uB := uB_tr h23
    have uS := ss_tr h28
    have f0 : fI (F_2 x3) 0 = fI (F_2 x3) 0 := rfl
    have f1 : fI (F_2 x3) 1 = fI (F_2 x3) 1 := rfl
    have f2 : fI (F_2 x3) 2 = fI (F_2 x3) 2 := rfl
    have f3 : fI (F_2 x3) 3 = fI (F_2 x3) 3 := rfl
    have f4 : fI (F_2 x3) 4 = fI (F_2 x3) 4 := rfl
    have f5 : fI (F_2 x3) 5 = fI (F_2 x3) 5 := rfl
    have f6 : fI (F_2 x3) 6 = fI (F_2 x3) 6 := rfl
    have r14 : fI (F_2 x3) 0 = x4 := h14
    have r15 : fI (F_2 x3) 5 = x5 := h15
    have r19 : fI (F_2 x3) 2 = x7 := h19
    have r21 : fI (F_2 x3) 6 = x8 := h21
    have r25 : fI (F_2 x3) 3 = x10 := h25
    have nl := rn_ln hw hv (qk_l hO hb hj3) hl f0 f4 f5 f6 (by unfold chA; rw [r14, r15, r19]; first | exact Or.inr ⟨by omega, f2.trans r19⟩ | exact Or.inr ⟨by omega, rfl⟩) (by unfold chB; rw [r14, r21, r25]; first | exact Or.inr ⟨by omega, f3.trans r25⟩ | exact Or.inr ⟨by omega, rfl⟩) (by unfold chT; rw [r14]; exact Or.inr ⟨by omega, f1⟩)
    have pt := rfX_put (F1 := F_2) (Q := pgRm Q a1.toInt a2.toInt b j) (b := b) (j := j) (l := rnL a1.toInt a2.toInt (Q.2.2.1 b j)) h2 hc hcf hQ6 hx hB2 hb hj3 (by rw [← e3]; exact fun x hx2 => rfl) (by rw [pgRm_l]; rfl) (by rw [← e3]; exact nl)
    rw [pgRm_s] at pt
    exact ih (j + 1) (by omega) hj3 pt
  · intro F_2 l5_2 x1 x2 x3 x4 x5 x6 x7 x8 x9 x10 x11 x12 x13 k e1 h1 h2 h3 h4 h5 h6 h7 h8 h9 h10 h11 h12 h13 h14 h15 h16 h17 h18 h19 h20 h21 h22 h23 h24 h25 h26 h27 h28 h29 h30 h31 h32 ih
    intro j hj hj2 hx
    have hB := hB2 b hb
    rw [← hc1] at hB
    obtain ⟨ll, nn, pp, ss, v1, ⟨g1, g2, g3⟩, v3, v4, v5, -⟩ := show rk_2 γ c1 (F_2 c1) from RS_o h2 hB
    have ex1 : x1 = rwL γ el q0 b := by
      rw [← h7, v1]
      show ll = γ 14 (el (γ 14 q0) b)
      rw [← hc1, g1]
    have m : γ 2 (rwL γ el q0 b) + 1 = Q.2.1 b := (hx.2.1 b hb).1
    rw [ex1] at h8
    have e3 : x3 = rAt γ el q0 b j := by
      rw [← h13, v1]
      show nn = _
      rw [show rAt γ el q0 b j = γ 15 (el (γ 14 q0) b) from if_neg (show ¬ j < γ 2 (rwL γ el q0 b) by omega), ← hc1, g2]
    have hj3 : j < Q.2.1 b := by omega
    have k3 := (rAt_k (j := j) h2 hc hcf (show b < γ 6 f by omega)).1
    rw [← e3] at k3
    have s3 : rwS (F_2 x3) := rwS_1 (RS_o h2 k3)
    have hl := hx.2.2 b hb j (show j ≤ γ 2 (rwL γ el q0 b) by omega)
    rw [← e3] at hl
    unfold lnQ at hl
    rw [pgRm_l] at hl
    have uA := uA_tr h17
    have uB := uB_tr h23
    have uS := ss_tr h28
    have f0 : fI (F_2 x3) 0 = fI (F_2 x3) 0 := rfl
    have f1 : fI (F_2 x3) 1 = fI (F_2 x3) 1 := rfl
    have f2 : fI (F_2 x3) 2 = fI (F_2 x3) 2 := rfl
    have f3 : fI (F_2 x3) 3 = fI (F_2 x3) 3 := rfl
    have f4 : fI (F_2 x3) 4 = fI (F_2 x3) 4 := rfl
    have f5 : fI (F_2 x3) 5 = fI (F_2 x3) 5 := rfl
    have f6 : fI (F_2 x3) 6 = fI (F_2 x3) 6 := rfl
    have r14 : fI (F_2 x3) 0 = x4 := h14
    have r15 : fI (F_2 x3) 5 = x5 := h15
    have r19 : fI (F_2 x3) 2 = x7 := h19
    have r21 : fI (F_2 x3) 6 = x8 := h21
    have r25 : fI (F_2 x3) 3 = x10 := h25
    have r30 : fI (F_2 x3) 1 = x12 := h30
    have nl := rn_ln hw hv (qk_l hO hb hj3) hl f0 f4 f5 f6 (by unfold chA; rw [r14, r15, r19]; first | exact Or.inr ⟨by omega, f2.trans r19⟩ | exact Or.inr ⟨by omega, rfl⟩) (by unfold chB; rw [r14, r21, r25]; first | exact Or.inr ⟨by omega, f3.trans r25⟩ | exact Or.inr ⟨by omega, rfl⟩) (by unfold chT; rw [r14, r30]; first | exact Or.inr ⟨by omega, f1.trans r30⟩ | exact Or.inr ⟨by omega, rfl⟩)
    have pt := rfX_put (F1 := F_2) (Q := pgRm Q a1.toInt a2.toInt b j) (b := b) (j := j) (l := rnL a1.toInt a2.toInt (Q.2.2.1 b j)) h2 hc hcf hQ6 hx hB2 hb hj3 (by rw [← e3]; exact fun x hx2 => rfl) (by rw [pgRm_l]; rfl) (by rw [← e3]; exact nl)
    rw [pgRm_s] at pt
    exact ih (j + 1) (by omega) hj3 pt
  · intro F_2 l5_2 x1 x2 x3 x4 x5 x6 x7 x8 x9 x10 x11 x12 x13 x14 k e1 h1 h2 h3 h4 h5 h6 h7 h8 h9 h10 h11 h12 h13 h14 h15 h16 h17 h18 h19 h20 h21 h22 h23 h24 h25 h26 h27 h28 h29 h30 h31 h32 h33 h34 ih
    intro j hj hj2 hx
    have hB := hB2 b hb
    rw [← hc1] at hB
    obtain ⟨ll, nn, pp, ss, v1, ⟨g1, g2, g3⟩, v3, v4, v5, -⟩ := show rk_2 γ c1 (F_2 c1) from RS_o h2 hB
    have ex1 : x1 = rwL γ el q0 b := by
      rw [← h7, v1]
      show ll = γ 14 (el (γ 14 q0) b)
      rw [← hc1, g1]
    have m : γ 2 (rwL γ el q0 b) + 1 = Q.2.1 b := (hx.2.1 b hb).1
    rw [ex1] at h8
    have e3 : x3 = rAt γ el q0 b j := by
      rw [← h13, v1]
      show nn = _
      rw [show rAt γ el q0 b j = γ 15 (el (γ 14 q0) b) from if_neg (show ¬ j < γ 2 (rwL γ el q0 b) by omega), ← hc1, g2]
    have hj3 : j < Q.2.1 b := by omega
    have k3 := (rAt_k (j := j) h2 hc hcf (show b < γ 6 f by omega)).1
    rw [← e3] at k3
    have s3 : rwS (F_2 x3) := rwS_1 (RS_o h2 k3)
    have hl := hx.2.2 b hb j (show j ≤ γ 2 (rwL γ el q0 b) by omega)
    rw [← e3] at hl
    unfold lnQ at hl
    rw [pgRm_l] at hl
    have uA := uA_tr h17
    have uB := uB_tr h23
    have uS := ss_tr h28
    obtain ⟨z1, z10, z11, z12, z13, z14, z15, z16⟩ := cw_1 s3 h33
    have f0 : fI (x13 x3) 0 = fI (F_2 x3) 0 := by rw [z10]
    have f1 : fI (x13 x3) 1 = a2 := by rw [z11]
    have f2 : fI (x13 x3) 2 = fI (F_2 x3) 2 := by rw [z12]
    have f3 : fI (x13 x3) 3 = fI (F_2 x3) 3 := by rw [z13]
    have f4 : fI (x13 x3) 4 = fI (F_2 x3) 4 := by rw [z14]
    have f5 : fI (x13 x3) 5 = fI (F_2 x3) 5 := by rw [z15]
    have f6 : fI (x13 x3) 6 = fI (F_2 x3) 6 := by rw [z16]
    have r14 : fI (F_2 x3) 0 = x4 := h14
    have r15 : fI (F_2 x3) 5 = x5 := h15
    have r19 : fI (F_2 x3) 2 = x7 := h19
    have r21 : fI (F_2 x3) 6 = x8 := h21
    have r25 : fI (F_2 x3) 3 = x10 := h25
    have r30 : fI (F_2 x3) 1 = x12 := h30
    have nl := rn_ln hw hv (qk_l hO hb hj3) hl f0 f4 f5 f6 (by unfold chA; rw [r14, r15, r19]; first | exact Or.inr ⟨by omega, f2.trans r19⟩ | exact Or.inr ⟨by omega, rfl⟩) (by unfold chB; rw [r14, r21, r25]; first | exact Or.inr ⟨by omega, f3.trans r25⟩ | exact Or.inr ⟨by omega, rfl⟩) (by unfold chT; rw [r14, r30]; exact Or.inl ⟨by omega, by rw [f1]⟩)
    have pt := rfX_put (F1 := x13) (Q := pgRm Q a1.toInt a2.toInt b j) (b := b) (j := j) (l := rnL a1.toInt a2.toInt (Q.2.2.1 b j)) h2 hc hcf hQ6 hx hB2 hb hj3 (by rw [← e3]; exact fun x hx2 => by rw [h32 x hx2]) (by rw [pgRm_l]; rfl) (by rw [← e3]; exact nl)
    rw [pgRm_s] at pt
    exact ih (j + 1) (by omega) hj3 pt
  · intro F_2 l5_2 x1 x2 x3 x4 x5 x6 x7 x8 x9 x10 x11 x12 x13 k e1 h1 h2 h3 h4 h5 h6 h7 h8 h9 h10 h11 h12 h13 h14 h15 h16 h17 h18 h19 h20 h21 h22 h23 h24 h25 h26 h27 h28 h29 h30 h31 h32 h33 ih
    intro j hj hj2 hx
    have hB := hB2 b hb
    rw [← hc1] at hB
    obtain ⟨ll, nn, pp, ss, v1, ⟨g1, g2, g3⟩, v3, v4, v5, -⟩ := show rk_2 γ c1 (F_2 c1) from RS_o h2 hB
    have ex1 : x1 = rwL γ el q0 b := by
      rw [← h7, v1]
      show ll = γ 14 (el (γ 14 q0) b)
      rw [← hc1, g1]
    have m : γ 2 (rwL γ el q0 b) + 1 = Q.2.1 b := (hx.2.1 b hb).1
    rw [ex1] at h8
    have e3 : x3 = rAt γ el q0 b j := by
      rw [← h13, v1]
      show nn = _
      rw [show rAt γ el q0 b j = γ 15 (el (γ 14 q0) b) from if_neg (show ¬ j < γ 2 (rwL γ el q0 b) by omega), ← hc1, g2]
    have hj3 : j < Q.2.1 b := by omega
    have k3 := (rAt_k (j := j) h2 hc hcf (show b < γ 6 f by omega)).1
    rw [← e3] at k3
    have s3 : rwS (F_2 x3) := rwS_1 (RS_o h2 k3)
    have hl := hx.2.2 b hb j (show j ≤ γ 2 (rwL γ el q0 b) by omega)
    rw [← e3] at hl
    unfold lnQ at hl
    rw [pgRm_l] at hl
    have uA := uA_tr h17
    have uB := uB_tr h23
    have uS := ss_tr h31
    obtain ⟨z1, z10, z11, z12, z13, z14, z15, z16⟩ := cw_3 s3 h28
    have f0 : fI (x11 x3) 0 = fI (F_2 x3) 0 := by rw [z10]
    have f1 : fI (x11 x3) 1 = fI (F_2 x3) 1 := by rw [z11]
    have f2 : fI (x11 x3) 2 = fI (F_2 x3) 2 := by rw [z12]
    have f3 : fI (x11 x3) 3 = a2 := by rw [z13]
    have f4 : fI (x11 x3) 4 = fI (F_2 x3) 4 := by rw [z14]
    have f5 : fI (x11 x3) 5 = fI (F_2 x3) 5 := by rw [z15]
    have f6 : fI (x11 x3) 6 = fI (F_2 x3) 6 := by rw [z16]
    have r14 : fI (F_2 x3) 0 = x4 := h14
    have r15 : fI (F_2 x3) 5 = x5 := h15
    have r19 : fI (F_2 x3) 2 = x7 := h19
    have r21 : fI (F_2 x3) 6 = x8 := h21
    have r25 : fI (F_2 x3) 3 = x10 := h25
    have r29 : fI (F_2 x3) 0 = x4 := by rw [← h29, z10]
    have nl := rn_ln hw hv (qk_l hO hb hj3) hl f0 f4 f5 f6 (by unfold chA; rw [r14, r15, r19]; first | exact Or.inr ⟨by omega, f2.trans r19⟩ | exact Or.inr ⟨by omega, rfl⟩) (by unfold chB; rw [r14, r21, r25]; exact Or.inl ⟨by omega, by rw [f3]⟩) (by unfold chT; rw [r14]; exact Or.inr ⟨by omega, f1⟩)
    have pt := rfX_put (F1 := x11) (Q := pgRm Q a1.toInt a2.toInt b j) (b := b) (j := j) (l := rnL a1.toInt a2.toInt (Q.2.2.1 b j)) h2 hc hcf hQ6 hx hB2 hb hj3 (by rw [← e3]; exact fun x hx2 => by rw [h27 x hx2]) (by rw [pgRm_l]; rfl) (by rw [← e3]; exact nl)
    rw [pgRm_s] at pt
    exact ih (j + 1) (by omega) hj3 pt
  · intro F_2 l5_2 x1 x2 x3 x4 x5 x6 x7 x8 x9 x10 x11 x12 x13 x14 k e1 h1 h2 h3 h4 h5 h6 h7 h8 h9 h10 h11 h12 h13 h14 h15 h16 h17 h18 h19 h20 h21 h22 h23 h24 h25 h26 h27 h28 h29 h30 h31 h32 h33 h34 h35 ih
    intro j hj hj2 hx
    have hB := hB2 b hb
    rw [← hc1] at hB
    obtain ⟨ll, nn, pp, ss, v1, ⟨g1, g2, g3⟩, v3, v4, v5, -⟩ := show rk_2 γ c1 (F_2 c1) from RS_o h2 hB
    have ex1 : x1 = rwL γ el q0 b := by
      rw [← h7, v1]
      show ll = γ 14 (el (γ 14 q0) b)
      rw [← hc1, g1]
    have m : γ 2 (rwL γ el q0 b) + 1 = Q.2.1 b := (hx.2.1 b hb).1
    rw [ex1] at h8
    have e3 : x3 = rAt γ el q0 b j := by
      rw [← h13, v1]
      show nn = _
      rw [show rAt γ el q0 b j = γ 15 (el (γ 14 q0) b) from if_neg (show ¬ j < γ 2 (rwL γ el q0 b) by omega), ← hc1, g2]
    have hj3 : j < Q.2.1 b := by omega
    have k3 := (rAt_k (j := j) h2 hc hcf (show b < γ 6 f by omega)).1
    rw [← e3] at k3
    have s3 : rwS (F_2 x3) := rwS_1 (RS_o h2 k3)
    have hl := hx.2.2 b hb j (show j ≤ γ 2 (rwL γ el q0 b) by omega)
    rw [← e3] at hl
    unfold lnQ at hl
    rw [pgRm_l] at hl
    have uA := uA_tr h17
    have uB := uB_tr h23
    have uS := ss_tr h31
    obtain ⟨z1, z10, z11, z12, z13, z14, z15, z16⟩ := cw_3 s3 h28
    have f0 : fI (x11 x3) 0 = fI (F_2 x3) 0 := by rw [z10]
    have f1 : fI (x11 x3) 1 = fI (F_2 x3) 1 := by rw [z11]
    have f2 : fI (x11 x3) 2 = fI (F_2 x3) 2 := by rw [z12]
    have f3 : fI (x11 x3) 3 = a2 := by rw [z13]
    have f4 : fI (x11 x3) 4 = fI (F_2 x3) 4 := by rw [z14]
    have f5 : fI (x11 x3) 5 = fI (F_2 x3) 5 := by rw [z15]
    have f6 : fI (x11 x3) 6 = fI (F_2 x3) 6 := by rw [z16]
    have r14 : fI (F_2 x3) 0 = x4 := h14
    have r15 : fI (F_2 x3) 5 = x5 := h15
    have r19 : fI (F_2 x3) 2 = x7 := h19
    have r21 : fI (F_2 x3) 6 = x8 := h21
    have r25 : fI (F_2 x3) 3 = x10 := h25
    have r29 : fI (F_2 x3) 0 = x4 := by rw [← h29, z10]
    have r33 : fI (F_2 x3) 1 = x13 := by rw [← h33, z11]
    have nl := rn_ln hw hv (qk_l hO hb hj3) hl f0 f4 f5 f6 (by unfold chA; rw [r14, r15, r19]; first | exact Or.inr ⟨by omega, f2.trans r19⟩ | exact Or.inr ⟨by omega, rfl⟩) (by unfold chB; rw [r14, r21, r25]; exact Or.inl ⟨by omega, by rw [f3]⟩) (by unfold chT; rw [r14, r33]; first | exact Or.inr ⟨by omega, f1.trans r33⟩ | exact Or.inr ⟨by omega, rfl⟩)
    have pt := rfX_put (F1 := x11) (Q := pgRm Q a1.toInt a2.toInt b j) (b := b) (j := j) (l := rnL a1.toInt a2.toInt (Q.2.2.1 b j)) h2 hc hcf hQ6 hx hB2 hb hj3 (by rw [← e3]; exact fun x hx2 => by rw [h27 x hx2]) (by rw [pgRm_l]; rfl) (by rw [← e3]; exact nl)
    rw [pgRm_s] at pt
    exact ih (j + 1) (by omega) hj3 pt
  · intro F_2 l5_2 x1 x2 x3 x4 x5 x6 x7 x8 x9 x10 x11 x12 x13 x14 x15 k e1 h1 h2 h3 h4 h5 h6 h7 h8 h9 h10 h11 h12 h13 h14 h15 h16 h17 h18 h19 h20 h21 h22 h23 h24 h25 h26 h27 h28 h29 h30 h31 h32 h33 h34 h35 h36 h37 ih
    intro j hj hj2 hx
    have hB := hB2 b hb
    rw [← hc1] at hB
    obtain ⟨ll, nn, pp, ss, v1, ⟨g1, g2, g3⟩, v3, v4, v5, -⟩ := show rk_2 γ c1 (F_2 c1) from RS_o h2 hB
    have ex1 : x1 = rwL γ el q0 b := by
      rw [← h7, v1]
      show ll = γ 14 (el (γ 14 q0) b)
      rw [← hc1, g1]
    have m : γ 2 (rwL γ el q0 b) + 1 = Q.2.1 b := (hx.2.1 b hb).1
    rw [ex1] at h8
    have e3 : x3 = rAt γ el q0 b j := by
      rw [← h13, v1]
      show nn = _
      rw [show rAt γ el q0 b j = γ 15 (el (γ 14 q0) b) from if_neg (show ¬ j < γ 2 (rwL γ el q0 b) by omega), ← hc1, g2]
    have hj3 : j < Q.2.1 b := by omega
    have k3 := (rAt_k (j := j) h2 hc hcf (show b < γ 6 f by omega)).1
    rw [← e3] at k3
    have s3 : rwS (F_2 x3) := rwS_1 (RS_o h2 k3)
    have hl := hx.2.2 b hb j (show j ≤ γ 2 (rwL γ el q0 b) by omega)
    rw [← e3] at hl
    unfold lnQ at hl
    rw [pgRm_l] at hl
    have uA := uA_tr h17
    have uB := uB_tr h23
    have uS := ss_tr h31
    obtain ⟨z1, z10, z11, z12, z13, z14, z15, z16⟩ := cw_3 s3 h28
    obtain ⟨z2, z20, z21, z22, z23, z24, z25, z26⟩ := cw_1 z1 h36
    have f0 : fI (x14 x3) 0 = fI (F_2 x3) 0 := by rw [z20, z10]
    have f1 : fI (x14 x3) 1 = a2 := by rw [z21]
    have f2 : fI (x14 x3) 2 = fI (F_2 x3) 2 := by rw [z22, z12]
    have f3 : fI (x14 x3) 3 = a2 := by rw [z23, z13]
    have f4 : fI (x14 x3) 4 = fI (F_2 x3) 4 := by rw [z24, z14]
    have f5 : fI (x14 x3) 5 = fI (F_2 x3) 5 := by rw [z25, z15]
    have f6 : fI (x14 x3) 6 = fI (F_2 x3) 6 := by rw [z26, z16]
    have r14 : fI (F_2 x3) 0 = x4 := h14
    have r15 : fI (F_2 x3) 5 = x5 := h15
    have r19 : fI (F_2 x3) 2 = x7 := h19
    have r21 : fI (F_2 x3) 6 = x8 := h21
    have r25 : fI (F_2 x3) 3 = x10 := h25
    have r29 : fI (F_2 x3) 0 = x4 := by rw [← h29, z10]
    have r33 : fI (F_2 x3) 1 = x13 := by rw [← h33, z11]
    have nl := rn_ln hw hv (qk_l hO hb hj3) hl f0 f4 f5 f6 (by unfold chA; rw [r14, r15, r19]; first | exact Or.inr ⟨by omega, f2.trans r19⟩ | exact Or.inr ⟨by omega, rfl⟩) (by unfold chB; rw [r14, r21, r25]; exact Or.inl ⟨by omega, by rw [f3]⟩) (by unfold chT; rw [r14, r33]; exact Or.inl ⟨by omega, by rw [f1]⟩)
    have pt := rfX_put (F1 := x14) (Q := pgRm Q a1.toInt a2.toInt b j) (b := b) (j := j) (l := rnL a1.toInt a2.toInt (Q.2.2.1 b j)) h2 hc hcf hQ6 hx hB2 hb hj3 (by rw [← e3]; exact fun x hx2 => by rw [h35 x hx2, h27 x hx2]) (by rw [pgRm_l]; rfl) (by rw [← e3]; exact nl)
    rw [pgRm_s] at pt
    exact ih (j + 1) (by omega) hj3 pt
  · intro F_2 l5_2 x1 x2 x3 x4 x5 x6 x7 x8 x9 x10 x11 x12 k e1 h1 h2 h3 h4 h5 h6 h7 h8 h9 h10 h11 h12 h13 h14 h15 h16 h17 h18 h19 h20 h21 h22 h23 h24 h25 h26 h27 h28 h29 h30 h31 ih
    intro j hj hj2 hx
    have hB := hB2 b hb
    rw [← hc1] at hB
    obtain ⟨ll, nn, pp, ss, v1, ⟨g1, g2, g3⟩, v3, v4, v5, -⟩ := show rk_2 γ c1 (F_2 c1) from RS_o h2 hB
    have ex1 : x1 = rwL γ el q0 b := by
      rw [← h7, v1]
      show ll = γ 14 (el (γ 14 q0) b)
      rw [← hc1, g1]
    have m : γ 2 (rwL γ el q0 b) + 1 = Q.2.1 b := (hx.2.1 b hb).1
    rw [ex1] at h8
    have e3 : x3 = rAt γ el q0 b j := by
      rw [← h13, v1]
      show nn = _
      rw [show rAt γ el q0 b j = γ 15 (el (γ 14 q0) b) from if_neg (show ¬ j < γ 2 (rwL γ el q0 b) by omega), ← hc1, g2]
    have hj3 : j < Q.2.1 b := by omega
    have k3 := (rAt_k (j := j) h2 hc hcf (show b < γ 6 f by omega)).1
    rw [← e3] at k3
    have s3 : rwS (F_2 x3) := rwS_1 (RS_o h2 k3)
    have hl := hx.2.2 b hb j (show j ≤ γ 2 (rwL γ el q0 b) by omega)
    rw [← e3] at hl
    unfold lnQ at hl
    rw [pgRm_l] at hl
    have uA := uA_tr h17
    have uB := uB_tr h26
    have uS := ss_tr h29
    obtain ⟨z1, z10, z11, z12, z13, z14, z15, z16⟩ := cw_2 s3 h22
    have f0 : fI (x8 x3) 0 = fI (F_2 x3) 0 := by rw [z10]
    have f1 : fI (x8 x3) 1 = fI (F_2 x3) 1 := by rw [z11]
    have f2 : fI (x8 x3) 2 = a2 := by rw [z12]
    have f3 : fI (x8 x3) 3 = fI (F_2 x3) 3 := by rw [z13]
    have f4 : fI (x8 x3) 4 = fI (F_2 x3) 4 := by rw [z14]
    have f5 : fI (x8 x3) 5 = fI (F_2 x3) 5 := by rw [z15]
    have f6 : fI (x8 x3) 6 = fI (F_2 x3) 6 := by rw [z16]
    have r14 : fI (F_2 x3) 0 = x4 := h14
    have r15 : fI (F_2 x3) 5 = x5 := h15
    have r19 : fI (F_2 x3) 2 = x7 := h19
    have r23 : fI (F_2 x3) 0 = x4 := by rw [← h23, z10]
    have r24 : fI (F_2 x3) 6 = x9 := by rw [← h24, z16]
    have nl := rn_ln hw hv (qk_l hO hb hj3) hl f0 f4 f5 f6 (by unfold chA; rw [r14, r15, r19]; exact Or.inl ⟨by omega, by rw [f2]⟩) (by unfold chB; rw [r14, r24]; exact Or.inr ⟨by omega, f3⟩) (by unfold chT; rw [r14]; exact Or.inr ⟨by omega, f1⟩)
    have pt := rfX_put (F1 := x8) (Q := pgRm Q a1.toInt a2.toInt b j) (b := b) (j := j) (l := rnL a1.toInt a2.toInt (Q.2.2.1 b j)) h2 hc hcf hQ6 hx hB2 hb hj3 (by rw [← e3]; exact fun x hx2 => by rw [h21 x hx2]) (by rw [pgRm_l]; rfl) (by rw [← e3]; exact nl)
    rw [pgRm_s] at pt
    exact ih (j + 1) (by omega) hj3 pt
  · intro F_2 l5_2 x1 x2 x3 x4 x5 x6 x7 x8 x9 x10 x11 x12 x13 k e1 h1 h2 h3 h4 h5 h6 h7 h8 h9 h10 h11 h12 h13 h14 h15 h16 h17 h18 h19 h20 h21 h22 h23 h24 h25 h26 h27 h28 h29 h30 h31 h32 h33 ih
    intro j hj hj2 hx
    have hB := hB2 b hb
    rw [← hc1] at hB
    obtain ⟨ll, nn, pp, ss, v1, ⟨g1, g2, g3⟩, v3, v4, v5, -⟩ := show rk_2 γ c1 (F_2 c1) from RS_o h2 hB
    have ex1 : x1 = rwL γ el q0 b := by
      rw [← h7, v1]
      show ll = γ 14 (el (γ 14 q0) b)
      rw [← hc1, g1]
    have m : γ 2 (rwL γ el q0 b) + 1 = Q.2.1 b := (hx.2.1 b hb).1
    rw [ex1] at h8
    have e3 : x3 = rAt γ el q0 b j := by
      rw [← h13, v1]
      show nn = _
      rw [show rAt γ el q0 b j = γ 15 (el (γ 14 q0) b) from if_neg (show ¬ j < γ 2 (rwL γ el q0 b) by omega), ← hc1, g2]
    have hj3 : j < Q.2.1 b := by omega
    have k3 := (rAt_k (j := j) h2 hc hcf (show b < γ 6 f by omega)).1
    rw [← e3] at k3
    have s3 : rwS (F_2 x3) := rwS_1 (RS_o h2 k3)
    have hl := hx.2.2 b hb j (show j ≤ γ 2 (rwL γ el q0 b) by omega)
    rw [← e3] at hl
    unfold lnQ at hl
    rw [pgRm_l] at hl
    have uA := uA_tr h17
    have uB := uB_tr h26
    have uS := ss_tr h29
    obtain ⟨z1, z10, z11, z12, z13, z14, z15, z16⟩ := cw_2 s3 h22
    have f0 : fI (x8 x3) 0 = fI (F_2 x3) 0 := by rw [z10]
    have f1 : fI (x8 x3) 1 = fI (F_2 x3) 1 := by rw [z11]
    have f2 : fI (x8 x3) 2 = a2 := by rw [z12]
    have f3 : fI (x8 x3) 3 = fI (F_2 x3) 3 := by rw [z13]
    have f4 : fI (x8 x3) 4 = fI (F_2 x3) 4 := by rw [z14]
    have f5 : fI (x8 x3) 5 = fI (F_2 x3) 5 := by rw [z15]
    have f6 : fI (x8 x3) 6 = fI (F_2 x3) 6 := by rw [z16]
    have r14 : fI (F_2 x3) 0 = x4 := h14
    have r15 : fI (F_2 x3) 5 = x5 := h15
    have r19 : fI (F_2 x3) 2 = x7 := h19
    have r23 : fI (F_2 x3) 0 = x4 := by rw [← h23, z10]
    have r24 : fI (F_2 x3) 6 = x9 := by rw [← h24, z16]
    have r31 : fI (F_2 x3) 1 = x12 := by rw [← h31, z11]
    have nl := rn_ln hw hv (qk_l hO hb hj3) hl f0 f4 f5 f6 (by unfold chA; rw [r14, r15, r19]; exact Or.inl ⟨by omega, by rw [f2]⟩) (by unfold chB; rw [r14, r24]; exact Or.inr ⟨by omega, f3⟩) (by unfold chT; rw [r14, r31]; first | exact Or.inr ⟨by omega, f1.trans r31⟩ | exact Or.inr ⟨by omega, rfl⟩)
    have pt := rfX_put (F1 := x8) (Q := pgRm Q a1.toInt a2.toInt b j) (b := b) (j := j) (l := rnL a1.toInt a2.toInt (Q.2.2.1 b j)) h2 hc hcf hQ6 hx hB2 hb hj3 (by rw [← e3]; exact fun x hx2 => by rw [h21 x hx2]) (by rw [pgRm_l]; rfl) (by rw [← e3]; exact nl)
    rw [pgRm_s] at pt
    exact ih (j + 1) (by omega) hj3 pt
  · intro F_2 l5_2 x1 x2 x3 x4 x5 x6 x7 x8 x9 x10 x11 x12 x13 x14 k e1 h1 h2 h3 h4 h5 h6 h7 h8 h9 h10 h11 h12 h13 h14 h15 h16 h17 h18 h19 h20 h21 h22 h23 h24 h25 h26 h27 h28 h29 h30 h31 h32 h33 h34 h35 ih
    intro j hj hj2 hx
    have hB := hB2 b hb
    rw [← hc1] at hB
    obtain ⟨ll, nn, pp, ss, v1, ⟨g1, g2, g3⟩, v3, v4, v5, -⟩ := show rk_2 γ c1 (F_2 c1) from RS_o h2 hB
    have ex1 : x1 = rwL γ el q0 b := by
      rw [← h7, v1]
      show ll = γ 14 (el (γ 14 q0) b)
      rw [← hc1, g1]
    have m : γ 2 (rwL γ el q0 b) + 1 = Q.2.1 b := (hx.2.1 b hb).1
    rw [ex1] at h8
    have e3 : x3 = rAt γ el q0 b j := by
      rw [← h13, v1]
      show nn = _
      rw [show rAt γ el q0 b j = γ 15 (el (γ 14 q0) b) from if_neg (show ¬ j < γ 2 (rwL γ el q0 b) by omega), ← hc1, g2]
    have hj3 : j < Q.2.1 b := by omega
    have k3 := (rAt_k (j := j) h2 hc hcf (show b < γ 6 f by omega)).1
    rw [← e3] at k3
    have s3 : rwS (F_2 x3) := rwS_1 (RS_o h2 k3)
    have hl := hx.2.2 b hb j (show j ≤ γ 2 (rwL γ el q0 b) by omega)
    rw [← e3] at hl
    unfold lnQ at hl
    rw [pgRm_l] at hl
    have uA := uA_tr h17
    have uB := uB_tr h26
    have uS := ss_tr h29
    obtain ⟨z1, z10, z11, z12, z13, z14, z15, z16⟩ := cw_2 s3 h22
    obtain ⟨z2, z20, z21, z22, z23, z24, z25, z26⟩ := cw_1 z1 h34
    have f0 : fI (x13 x3) 0 = fI (F_2 x3) 0 := by rw [z20, z10]
    have f1 : fI (x13 x3) 1 = a2 := by rw [z21]
    have f2 : fI (x13 x3) 2 = a2 := by rw [z22, z12]
    have f3 : fI (x13 x3) 3 = fI (F_2 x3) 3 := by rw [z23, z13]
    have f4 : fI (x13 x3) 4 = fI (F_2 x3) 4 := by rw [z24, z14]
    have f5 : fI (x13 x3) 5 = fI (F_2 x3) 5 := by rw [z25, z15]
    have f6 : fI (x13 x3) 6 = fI (F_2 x3) 6 := by rw [z26, z16]
    have r14 : fI (F_2 x3) 0 = x4 := h14
    have r15 : fI (F_2 x3) 5 = x5 := h15
    have r19 : fI (F_2 x3) 2 = x7 := h19
    have r23 : fI (F_2 x3) 0 = x4 := by rw [← h23, z10]
    have r24 : fI (F_2 x3) 6 = x9 := by rw [← h24, z16]
    have r31 : fI (F_2 x3) 1 = x12 := by rw [← h31, z11]
    have nl := rn_ln hw hv (qk_l hO hb hj3) hl f0 f4 f5 f6 (by unfold chA; rw [r14, r15, r19]; exact Or.inl ⟨by omega, by rw [f2]⟩) (by unfold chB; rw [r14, r24]; exact Or.inr ⟨by omega, f3⟩) (by unfold chT; rw [r14, r31]; exact Or.inl ⟨by omega, by rw [f1]⟩)
    have pt := rfX_put (F1 := x13) (Q := pgRm Q a1.toInt a2.toInt b j) (b := b) (j := j) (l := rnL a1.toInt a2.toInt (Q.2.2.1 b j)) h2 hc hcf hQ6 hx hB2 hb hj3 (by rw [← e3]; exact fun x hx2 => by rw [h33 x hx2, h21 x hx2]) (by rw [pgRm_l]; rfl) (by rw [← e3]; exact nl)
    rw [pgRm_s] at pt
    exact ih (j + 1) (by omega) hj3 pt
  · intro F_2 l5_2 x1 x2 x3 x4 x5 x6 x7 x8 x9 x10 x11 x12 x13 k e1 h1 h2 h3 h4 h5 h6 h7 h8 h9 h10 h11 h12 h13 h14 h15 h16 h17 h18 h19 h20 h21 h22 h23 h24 h25 h26 h27 h28 h29 h30 h31 h32 h33 ih
    intro j hj hj2 hx
    have hB := hB2 b hb
    rw [← hc1] at hB
    obtain ⟨ll, nn, pp, ss, v1, ⟨g1, g2, g3⟩, v3, v4, v5, -⟩ := show rk_2 γ c1 (F_2 c1) from RS_o h2 hB
    have ex1 : x1 = rwL γ el q0 b := by
      rw [← h7, v1]
      show ll = γ 14 (el (γ 14 q0) b)
      rw [← hc1, g1]
    have m : γ 2 (rwL γ el q0 b) + 1 = Q.2.1 b := (hx.2.1 b hb).1
    rw [ex1] at h8
    have e3 : x3 = rAt γ el q0 b j := by
      rw [← h13, v1]
      show nn = _
      rw [show rAt γ el q0 b j = γ 15 (el (γ 14 q0) b) from if_neg (show ¬ j < γ 2 (rwL γ el q0 b) by omega), ← hc1, g2]
    have hj3 : j < Q.2.1 b := by omega
    have k3 := (rAt_k (j := j) h2 hc hcf (show b < γ 6 f by omega)).1
    rw [← e3] at k3
    have s3 : rwS (F_2 x3) := rwS_1 (RS_o h2 k3)
    have hl := hx.2.2 b hb j (show j ≤ γ 2 (rwL γ el q0 b) by omega)
    rw [← e3] at hl
    unfold lnQ at hl
    rw [pgRm_l] at hl
    have uA := uA_tr h17
    have uB := uB_tr h26
    have uS := ss_tr h31
    obtain ⟨z1, z10, z11, z12, z13, z14, z15, z16⟩ := cw_2 s3 h22
    have f0 : fI (x8 x3) 0 = fI (F_2 x3) 0 := by rw [z10]
    have f1 : fI (x8 x3) 1 = fI (F_2 x3) 1 := by rw [z11]
    have f2 : fI (x8 x3) 2 = a2 := by rw [z12]
    have f3 : fI (x8 x3) 3 = fI (F_2 x3) 3 := by rw [z13]
    have f4 : fI (x8 x3) 4 = fI (F_2 x3) 4 := by rw [z14]
    have f5 : fI (x8 x3) 5 = fI (F_2 x3) 5 := by rw [z15]
    have f6 : fI (x8 x3) 6 = fI (F_2 x3) 6 := by rw [z16]
    have r14 : fI (F_2 x3) 0 = x4 := h14
    have r15 : fI (F_2 x3) 5 = x5 := h15
    have r19 : fI (F_2 x3) 2 = x7 := h19
    have r23 : fI (F_2 x3) 0 = x4 := by rw [← h23, z10]
    have r24 : fI (F_2 x3) 6 = x9 := by rw [← h24, z16]
    have r28 : fI (F_2 x3) 3 = x11 := by rw [← h28, z13]
    have nl := rn_ln hw hv (qk_l hO hb hj3) hl f0 f4 f5 f6 (by unfold chA; rw [r14, r15, r19]; exact Or.inl ⟨by omega, by rw [f2]⟩) (by unfold chB; rw [r14, r24, r28]; first | exact Or.inr ⟨by omega, f3.trans r28⟩ | exact Or.inr ⟨by omega, rfl⟩) (by unfold chT; rw [r14]; exact Or.inr ⟨by omega, f1⟩)
    have pt := rfX_put (F1 := x8) (Q := pgRm Q a1.toInt a2.toInt b j) (b := b) (j := j) (l := rnL a1.toInt a2.toInt (Q.2.2.1 b j)) h2 hc hcf hQ6 hx hB2 hb hj3 (by rw [← e3]; exact fun x hx2 => by rw [h21 x hx2]) (by rw [pgRm_l]; rfl) (by rw [← e3]; exact nl)
    rw [pgRm_s] at pt
    exact ih (j + 1) (by omega) hj3 pt
  · intro F_2 l5_2 x1 x2 x3 x4 x5 x6 x7 x8 x9 x10 x11 x12 x13 x14 k e1 h1 h2 h3 h4 h5 h6 h7 h8 h9 h10 h11 h12 h13 h14 h15 h16 h17 h18 h19 h20 h21 h22 h23 h24 h25 h26 h27 h28 h29 h30 h31 h32 h33 h34 h35 ih
    intro j hj hj2 hx
    have hB := hB2 b hb
    rw [← hc1] at hB
    obtain ⟨ll, nn, pp, ss, v1, ⟨g1, g2, g3⟩, v3, v4, v5, -⟩ := show rk_2 γ c1 (F_2 c1) from RS_o h2 hB
    have ex1 : x1 = rwL γ el q0 b := by
      rw [← h7, v1]
      show ll = γ 14 (el (γ 14 q0) b)
      rw [← hc1, g1]
    have m : γ 2 (rwL γ el q0 b) + 1 = Q.2.1 b := (hx.2.1 b hb).1
    rw [ex1] at h8
    have e3 : x3 = rAt γ el q0 b j := by
      rw [← h13, v1]
      show nn = _
      rw [show rAt γ el q0 b j = γ 15 (el (γ 14 q0) b) from if_neg (show ¬ j < γ 2 (rwL γ el q0 b) by omega), ← hc1, g2]
    have hj3 : j < Q.2.1 b := by omega
    have k3 := (rAt_k (j := j) h2 hc hcf (show b < γ 6 f by omega)).1
    rw [← e3] at k3
    have s3 : rwS (F_2 x3) := rwS_1 (RS_o h2 k3)
    have hl := hx.2.2 b hb j (show j ≤ γ 2 (rwL γ el q0 b) by omega)
    rw [← e3] at hl
    unfold lnQ at hl
    rw [pgRm_l] at hl
    have uA := uA_tr h17
    have uB := uB_tr h26
    have uS := ss_tr h31
    obtain ⟨z1, z10, z11, z12, z13, z14, z15, z16⟩ := cw_2 s3 h22
    have f0 : fI (x8 x3) 0 = fI (F_2 x3) 0 := by rw [z10]
    have f1 : fI (x8 x3) 1 = fI (F_2 x3) 1 := by rw [z11]
    have f2 : fI (x8 x3) 2 = a2 := by rw [z12]
    have f3 : fI (x8 x3) 3 = fI (F_2 x3) 3 := by rw [z13]
    have f4 : fI (x8 x3) 4 = fI (F_2 x3) 4 := by rw [z14]
    have f5 : fI (x8 x3) 5 = fI (F_2 x3) 5 := by rw [z15]
    have f6 : fI (x8 x3) 6 = fI (F_2 x3) 6 := by rw [z16]
    have r14 : fI (F_2 x3) 0 = x4 := h14
    have r15 : fI (F_2 x3) 5 = x5 := h15
    have r19 : fI (F_2 x3) 2 = x7 := h19
    have r23 : fI (F_2 x3) 0 = x4 := by rw [← h23, z10]
    have r24 : fI (F_2 x3) 6 = x9 := by rw [← h24, z16]
    have r28 : fI (F_2 x3) 3 = x11 := by rw [← h28, z13]
    have r33 : fI (F_2 x3) 1 = x13 := by rw [← h33, z11]
    have nl := rn_ln hw hv (qk_l hO hb hj3) hl f0 f4 f5 f6 (by unfold chA; rw [r14, r15, r19]; exact Or.inl ⟨by omega, by rw [f2]⟩) (by unfold chB; rw [r14, r24, r28]; first | exact Or.inr ⟨by omega, f3.trans r28⟩ | exact Or.inr ⟨by omega, rfl⟩) (by unfold chT; rw [r14, r33]; first | exact Or.inr ⟨by omega, f1.trans r33⟩ | exact Or.inr ⟨by omega, rfl⟩)
    have pt := rfX_put (F1 := x8) (Q := pgRm Q a1.toInt a2.toInt b j) (b := b) (j := j) (l := rnL a1.toInt a2.toInt (Q.2.2.1 b j)) h2 hc hcf hQ6 hx hB2 hb hj3 (by rw [← e3]; exact fun x hx2 => by rw [h21 x hx2]) (by rw [pgRm_l]; rfl) (by rw [← e3]; exact nl)
    rw [pgRm_s] at pt
    exact ih (j + 1) (by omega) hj3 pt
  · intro F_2 l5_2 x1 x2 x3 x4 x5 x6 x7 x8 x9 x10 x11 x12 x13 x14 x15 k e1 h1 h2 h3 h4 h5 h6 h7 h8 h9 h10 h11 h12 h13 h14 h15 h16 h17 h18 h19 h20 h21 h22 h23 h24 h25 h26 h27 h28 h29 h30 h31 h32 h33 h34 h35 h36 h37 ih
    intro j hj hj2 hx
    have hB := hB2 b hb
    rw [← hc1] at hB
    obtain ⟨ll, nn, pp, ss, v1, ⟨g1, g2, g3⟩, v3, v4, v5, -⟩ := show rk_2 γ c1 (F_2 c1) from RS_o h2 hB
    have ex1 : x1 = rwL γ el q0 b := by
      rw [← h7, v1]
      show ll = γ 14 (el (γ 14 q0) b)
      rw [← hc1, g1]
    have m : γ 2 (rwL γ el q0 b) + 1 = Q.2.1 b := (hx.2.1 b hb).1
    rw [ex1] at h8
    have e3 : x3 = rAt γ el q0 b j := by
      rw [← h13, v1]
      show nn = _
      rw [show rAt γ el q0 b j = γ 15 (el (γ 14 q0) b) from if_neg (show ¬ j < γ 2 (rwL γ el q0 b) by omega), ← hc1, g2]
    have hj3 : j < Q.2.1 b := by omega
    have k3 := (rAt_k (j := j) h2 hc hcf (show b < γ 6 f by omega)).1
    rw [← e3] at k3
    have s3 : rwS (F_2 x3) := rwS_1 (RS_o h2 k3)
    have hl := hx.2.2 b hb j (show j ≤ γ 2 (rwL γ el q0 b) by omega)
    rw [← e3] at hl
    unfold lnQ at hl
    rw [pgRm_l] at hl
    have uA := uA_tr h17
    have uB := uB_tr h26
    have uS := ss_tr h31
    obtain ⟨z1, z10, z11, z12, z13, z14, z15, z16⟩ := cw_2 s3 h22
    obtain ⟨z2, z20, z21, z22, z23, z24, z25, z26⟩ := cw_1 z1 h36
    have f0 : fI (x14 x3) 0 = fI (F_2 x3) 0 := by rw [z20, z10]
    have f1 : fI (x14 x3) 1 = a2 := by rw [z21]
    have f2 : fI (x14 x3) 2 = a2 := by rw [z22, z12]
    have f3 : fI (x14 x3) 3 = fI (F_2 x3) 3 := by rw [z23, z13]
    have f4 : fI (x14 x3) 4 = fI (F_2 x3) 4 := by rw [z24, z14]
    have f5 : fI (x14 x3) 5 = fI (F_2 x3) 5 := by rw [z25, z15]
    have f6 : fI (x14 x3) 6 = fI (F_2 x3) 6 := by rw [z26, z16]
    have r14 : fI (F_2 x3) 0 = x4 := h14
    have r15 : fI (F_2 x3) 5 = x5 := h15
    have r19 : fI (F_2 x3) 2 = x7 := h19
    have r23 : fI (F_2 x3) 0 = x4 := by rw [← h23, z10]
    have r24 : fI (F_2 x3) 6 = x9 := by rw [← h24, z16]
    have r28 : fI (F_2 x3) 3 = x11 := by rw [← h28, z13]
    have r33 : fI (F_2 x3) 1 = x13 := by rw [← h33, z11]
    have nl := rn_ln hw hv (qk_l hO hb hj3) hl f0 f4 f5 f6 (by unfold chA; rw [r14, r15, r19]; exact Or.inl ⟨by omega, by rw [f2]⟩) (by unfold chB; rw [r14, r24, r28]; first | exact Or.inr ⟨by omega, f3.trans r28⟩ | exact Or.inr ⟨by omega, rfl⟩) (by unfold chT; rw [r14, r33]; exact Or.inl ⟨by omega, by rw [f1]⟩)
    have pt := rfX_put (F1 := x14) (Q := pgRm Q a1.toInt a2.toInt b j) (b := b) (j := j) (l := rnL a1.toInt a2.toInt (Q.2.2.1 b j)) h2 hc hcf hQ6 hx hB2 hb hj3 (by rw [← e3]; exact fun x hx2 => by rw [h35 x hx2, h21 x hx2]) (by rw [pgRm_l]; rfl) (by rw [← e3]; exact nl)
    rw [pgRm_s] at pt
    exact ih (j + 1) (by omega) hj3 pt
  · intro F_2 l5_2 x1 x2 x3 x4 x5 x6 x7 x8 x9 x10 x11 x12 x13 x14 k e1 h1 h2 h3 h4 h5 h6 h7 h8 h9 h10 h11 h12 h13 h14 h15 h16 h17 h18 h19 h20 h21 h22 h23 h24 h25 h26 h27 h28 h29 h30 h31 h32 h33 h34 h35 h36 ih
    intro j hj hj2 hx
    have hB := hB2 b hb
    rw [← hc1] at hB
    obtain ⟨ll, nn, pp, ss, v1, ⟨g1, g2, g3⟩, v3, v4, v5, -⟩ := show rk_2 γ c1 (F_2 c1) from RS_o h2 hB
    have ex1 : x1 = rwL γ el q0 b := by
      rw [← h7, v1]
      show ll = γ 14 (el (γ 14 q0) b)
      rw [← hc1, g1]
    have m : γ 2 (rwL γ el q0 b) + 1 = Q.2.1 b := (hx.2.1 b hb).1
    rw [ex1] at h8
    have e3 : x3 = rAt γ el q0 b j := by
      rw [← h13, v1]
      show nn = _
      rw [show rAt γ el q0 b j = γ 15 (el (γ 14 q0) b) from if_neg (show ¬ j < γ 2 (rwL γ el q0 b) by omega), ← hc1, g2]
    have hj3 : j < Q.2.1 b := by omega
    have k3 := (rAt_k (j := j) h2 hc hcf (show b < γ 6 f by omega)).1
    rw [← e3] at k3
    have s3 : rwS (F_2 x3) := rwS_1 (RS_o h2 k3)
    have hl := hx.2.2 b hb j (show j ≤ γ 2 (rwL γ el q0 b) by omega)
    rw [← e3] at hl
    unfold lnQ at hl
    rw [pgRm_l] at hl
    have uA := uA_tr h17
    have uB := uB_tr h26
    have uS := ss_tr h34
    obtain ⟨z1, z10, z11, z12, z13, z14, z15, z16⟩ := cw_2 s3 h22
    obtain ⟨z2, z20, z21, z22, z23, z24, z25, z26⟩ := cw_3 z1 h31
    have f0 : fI (x12 x3) 0 = fI (F_2 x3) 0 := by rw [z20, z10]
    have f1 : fI (x12 x3) 1 = fI (F_2 x3) 1 := by rw [z21, z11]
    have f2 : fI (x12 x3) 2 = a2 := by rw [z22, z12]
    have f3 : fI (x12 x3) 3 = a2 := by rw [z23]
    have f4 : fI (x12 x3) 4 = fI (F_2 x3) 4 := by rw [z24, z14]
    have f5 : fI (x12 x3) 5 = fI (F_2 x3) 5 := by rw [z25, z15]
    have f6 : fI (x12 x3) 6 = fI (F_2 x3) 6 := by rw [z26, z16]
    have r14 : fI (F_2 x3) 0 = x4 := h14
    have r15 : fI (F_2 x3) 5 = x5 := h15
    have r19 : fI (F_2 x3) 2 = x7 := h19
    have r23 : fI (F_2 x3) 0 = x4 := by rw [← h23, z10]
    have r24 : fI (F_2 x3) 6 = x9 := by rw [← h24, z16]
    have r28 : fI (F_2 x3) 3 = x11 := by rw [← h28, z13]
    have r32 : fI (F_2 x3) 0 = x4 := by rw [← h32, z20, z10]
    have nl := rn_ln hw hv (qk_l hO hb hj3) hl f0 f4 f5 f6 (by unfold chA; rw [r14, r15, r19]; exact Or.inl ⟨by omega, by rw [f2]⟩) (by unfold chB; rw [r14, r24, r28]; exact Or.inl ⟨by omega, by rw [f3]⟩) (by unfold chT; rw [r14]; exact Or.inr ⟨by omega, f1⟩)
    have pt := rfX_put (F1 := x12) (Q := pgRm Q a1.toInt a2.toInt b j) (b := b) (j := j) (l := rnL a1.toInt a2.toInt (Q.2.2.1 b j)) h2 hc hcf hQ6 hx hB2 hb hj3 (by rw [← e3]; exact fun x hx2 => by rw [h30 x hx2, h21 x hx2]) (by rw [pgRm_l]; rfl) (by rw [← e3]; exact nl)
    rw [pgRm_s] at pt
    exact ih (j + 1) (by omega) hj3 pt
  · intro F_2 l5_2 x1 x2 x3 x4 x5 x6 x7 x8 x9 x10 x11 x12 x13 x14 x15 k e1 h1 h2 h3 h4 h5 h6 h7 h8 h9 h10 h11 h12 h13 h14 h15 h16 h17 h18 h19 h20 h21 h22 h23 h24 h25 h26 h27 h28 h29 h30 h31 h32 h33 h34 h35 h36 h37 h38 ih
    intro j hj hj2 hx
    have hB := hB2 b hb
    rw [← hc1] at hB
    obtain ⟨ll, nn, pp, ss, v1, ⟨g1, g2, g3⟩, v3, v4, v5, -⟩ := show rk_2 γ c1 (F_2 c1) from RS_o h2 hB
    have ex1 : x1 = rwL γ el q0 b := by
      rw [← h7, v1]
      show ll = γ 14 (el (γ 14 q0) b)
      rw [← hc1, g1]
    have m : γ 2 (rwL γ el q0 b) + 1 = Q.2.1 b := (hx.2.1 b hb).1
    rw [ex1] at h8
    have e3 : x3 = rAt γ el q0 b j := by
      rw [← h13, v1]
      show nn = _
      rw [show rAt γ el q0 b j = γ 15 (el (γ 14 q0) b) from if_neg (show ¬ j < γ 2 (rwL γ el q0 b) by omega), ← hc1, g2]
    have hj3 : j < Q.2.1 b := by omega
    have k3 := (rAt_k (j := j) h2 hc hcf (show b < γ 6 f by omega)).1
    rw [← e3] at k3
    have s3 : rwS (F_2 x3) := rwS_1 (RS_o h2 k3)
    have hl := hx.2.2 b hb j (show j ≤ γ 2 (rwL γ el q0 b) by omega)
    rw [← e3] at hl
    unfold lnQ at hl
    rw [pgRm_l] at hl
    have uA := uA_tr h17
    have uB := uB_tr h26
    have uS := ss_tr h34
    obtain ⟨z1, z10, z11, z12, z13, z14, z15, z16⟩ := cw_2 s3 h22
    obtain ⟨z2, z20, z21, z22, z23, z24, z25, z26⟩ := cw_3 z1 h31
    have f0 : fI (x12 x3) 0 = fI (F_2 x3) 0 := by rw [z20, z10]
    have f1 : fI (x12 x3) 1 = fI (F_2 x3) 1 := by rw [z21, z11]
    have f2 : fI (x12 x3) 2 = a2 := by rw [z22, z12]
    have f3 : fI (x12 x3) 3 = a2 := by rw [z23]
    have f4 : fI (x12 x3) 4 = fI (F_2 x3) 4 := by rw [z24, z14]
    have f5 : fI (x12 x3) 5 = fI (F_2 x3) 5 := by rw [z25, z15]
    have f6 : fI (x12 x3) 6 = fI (F_2 x3) 6 := by rw [z26, z16]
    have r14 : fI (F_2 x3) 0 = x4 := h14
    have r15 : fI (F_2 x3) 5 = x5 := h15
    have r19 : fI (F_2 x3) 2 = x7 := h19
    have r23 : fI (F_2 x3) 0 = x4 := by rw [← h23, z10]
    have r24 : fI (F_2 x3) 6 = x9 := by rw [← h24, z16]
    have r28 : fI (F_2 x3) 3 = x11 := by rw [← h28, z13]
    have r32 : fI (F_2 x3) 0 = x4 := by rw [← h32, z20, z10]
    have r36 : fI (F_2 x3) 1 = x14 := by rw [← h36, z21, z11]
    have nl := rn_ln hw hv (qk_l hO hb hj3) hl f0 f4 f5 f6 (by unfold chA; rw [r14, r15, r19]; exact Or.inl ⟨by omega, by rw [f2]⟩) (by unfold chB; rw [r14, r24, r28]; exact Or.inl ⟨by omega, by rw [f3]⟩) (by unfold chT; rw [r14, r36]; first | exact Or.inr ⟨by omega, f1.trans r36⟩ | exact Or.inr ⟨by omega, rfl⟩)
    have pt := rfX_put (F1 := x12) (Q := pgRm Q a1.toInt a2.toInt b j) (b := b) (j := j) (l := rnL a1.toInt a2.toInt (Q.2.2.1 b j)) h2 hc hcf hQ6 hx hB2 hb hj3 (by rw [← e3]; exact fun x hx2 => by rw [h30 x hx2, h21 x hx2]) (by rw [pgRm_l]; rfl) (by rw [← e3]; exact nl)
    rw [pgRm_s] at pt
    exact ih (j + 1) (by omega) hj3 pt
  · intro F_2 l5_2 x1 x2 x3 x4 x5 x6 x7 x8 x9 x10 x11 x12 x13 x14 x15 x16 k e1 h1 h2 h3 h4 h5 h6 h7 h8 h9 h10 h11 h12 h13 h14 h15 h16 h17 h18 h19 h20 h21 h22 h23 h24 h25 h26 h27 h28 h29 h30 h31 h32 h33 h34 h35 h36 h37 h38 h39 h40 ih
    intro j hj hj2 hx
    have hB := hB2 b hb
    rw [← hc1] at hB
    obtain ⟨ll, nn, pp, ss, v1, ⟨g1, g2, g3⟩, v3, v4, v5, -⟩ := show rk_2 γ c1 (F_2 c1) from RS_o h2 hB
    have ex1 : x1 = rwL γ el q0 b := by
      rw [← h7, v1]
      show ll = γ 14 (el (γ 14 q0) b)
      rw [← hc1, g1]
    have m : γ 2 (rwL γ el q0 b) + 1 = Q.2.1 b := (hx.2.1 b hb).1
    rw [ex1] at h8
    have e3 : x3 = rAt γ el q0 b j := by
      rw [← h13, v1]
      show nn = _
      rw [show rAt γ el q0 b j = γ 15 (el (γ 14 q0) b) from if_neg (show ¬ j < γ 2 (rwL γ el q0 b) by omega), ← hc1, g2]
    have hj3 : j < Q.2.1 b := by omega
    have k3 := (rAt_k (j := j) h2 hc hcf (show b < γ 6 f by omega)).1
    rw [← e3] at k3
    have s3 : rwS (F_2 x3) := rwS_1 (RS_o h2 k3)
    have hl := hx.2.2 b hb j (show j ≤ γ 2 (rwL γ el q0 b) by omega)
    rw [← e3] at hl
    unfold lnQ at hl
    rw [pgRm_l] at hl
    have uA := uA_tr h17
    have uB := uB_tr h26
    have uS := ss_tr h34
    obtain ⟨z1, z10, z11, z12, z13, z14, z15, z16⟩ := cw_2 s3 h22
    obtain ⟨z2, z20, z21, z22, z23, z24, z25, z26⟩ := cw_3 z1 h31
    obtain ⟨z3, z30, z31, z32, z33, z34, z35, z36⟩ := cw_1 z2 h39
    have f0 : fI (x15 x3) 0 = fI (F_2 x3) 0 := by rw [z30, z20, z10]
    have f1 : fI (x15 x3) 1 = a2 := by rw [z31]
    have f2 : fI (x15 x3) 2 = a2 := by rw [z32, z22, z12]
    have f3 : fI (x15 x3) 3 = a2 := by rw [z33, z23]
    have f4 : fI (x15 x3) 4 = fI (F_2 x3) 4 := by rw [z34, z24, z14]
    have f5 : fI (x15 x3) 5 = fI (F_2 x3) 5 := by rw [z35, z25, z15]
    have f6 : fI (x15 x3) 6 = fI (F_2 x3) 6 := by rw [z36, z26, z16]
    have r14 : fI (F_2 x3) 0 = x4 := h14
    have r15 : fI (F_2 x3) 5 = x5 := h15
    have r19 : fI (F_2 x3) 2 = x7 := h19
    have r23 : fI (F_2 x3) 0 = x4 := by rw [← h23, z10]
    have r24 : fI (F_2 x3) 6 = x9 := by rw [← h24, z16]
    have r28 : fI (F_2 x3) 3 = x11 := by rw [← h28, z13]
    have r32 : fI (F_2 x3) 0 = x4 := by rw [← h32, z20, z10]
    have r36 : fI (F_2 x3) 1 = x14 := by rw [← h36, z21, z11]
    have nl := rn_ln hw hv (qk_l hO hb hj3) hl f0 f4 f5 f6 (by unfold chA; rw [r14, r15, r19]; exact Or.inl ⟨by omega, by rw [f2]⟩) (by unfold chB; rw [r14, r24, r28]; exact Or.inl ⟨by omega, by rw [f3]⟩) (by unfold chT; rw [r14, r36]; exact Or.inl ⟨by omega, by rw [f1]⟩)
    have pt := rfX_put (F1 := x15) (Q := pgRm Q a1.toInt a2.toInt b j) (b := b) (j := j) (l := rnL a1.toInt a2.toInt (Q.2.2.1 b j)) h2 hc hcf hQ6 hx hB2 hb hj3 (by rw [← e3]; exact fun x hx2 => by rw [h38 x hx2, h30 x hx2, h21 x hx2]) (by rw [pgRm_l]; rfl) (by rw [← e3]; exact nl)
    rw [pgRm_s] at pt
    exact ih (j + 1) (by omega) hj3 pt
  · intro F_2 l5_2 x1 x2 x3 x4 x5 x6 x7 x8 x9 x10 k e1 h1 h2 h3 h4 h5 h6 h7 h8 h9 h10 h11 h12 h13 h14 h15 h16 h17 h18 h19 h20 h21 h22 h23 h24 h25 h26 h27 ih
    intro j hj hj2 hx
    have hB := hB2 b hb
    rw [← hc1] at hB
    obtain ⟨ll, nn, pp, ss, v1, ⟨g1, g2, g3⟩, v3, v4, v5, -⟩ := show rk_2 γ c1 (F_2 c1) from RS_o h2 hB
    have ex1 : x1 = rwL γ el q0 b := by
      rw [← h7, v1]
      show ll = γ 14 (el (γ 14 q0) b)
      rw [← hc1, g1]
    have m : γ 2 (rwL γ el q0 b) + 1 = Q.2.1 b := (hx.2.1 b hb).1
    rw [ex1] at h8
    have e3 : x3 = rAt γ el q0 b j := by
      rw [h13, ex1, show l5_2.toInt.toNat = j by rw [hj]; rfl]
      exact (if_pos (show j < γ 2 (rwL γ el q0 b) by omega)).symm
    have hj3 : j < Q.2.1 b := by omega
    have k3 := (rAt_k (j := j) h2 hc hcf (show b < γ 6 f by omega)).1
    rw [← e3] at k3
    have s3 : rwS (F_2 x3) := rwS_1 (RS_o h2 k3)
    have hl := hx.2.2 b hb j (show j ≤ γ 2 (rwL γ el q0 b) by omega)
    rw [← e3] at hl
    unfold lnQ at hl
    rw [pgRm_l] at hl
    have uA := uA_tr h18
    have uB := uB_tr h22
    have uS := ss_tr h25
    have f0 : fI (F_2 x3) 0 = fI (F_2 x3) 0 := rfl
    have f1 : fI (F_2 x3) 1 = fI (F_2 x3) 1 := rfl
    have f2 : fI (F_2 x3) 2 = fI (F_2 x3) 2 := rfl
    have f3 : fI (F_2 x3) 3 = fI (F_2 x3) 3 := rfl
    have f4 : fI (F_2 x3) 4 = fI (F_2 x3) 4 := rfl
    have f5 : fI (F_2 x3) 5 = fI (F_2 x3) 5 := rfl
    have f6 : fI (F_2 x3) 6 = fI (F_2 x3) 6 := rfl
    have r15 : fI (F_2 x3) 0 = x4 := h15
    have r16 : fI (F_2 x3) 5 = x5 := h16
    have r20 : fI (F_2 x3) 6 = x7 := h20
    have nl := rn_ln hw hv (qk_l hO hb hj3) hl f0 f4 f5 f6 (by unfold chA; rw [r15, r16]; exact Or.inr ⟨by omega, f2⟩) (by unfold chB; rw [r15, r20]; exact Or.inr ⟨by omega, f3⟩) (by unfold chT; rw [r15]; exact Or.inr ⟨by omega, f1⟩)
    have pt := rfX_put (F1 := F_2) (Q := pgRm Q a1.toInt a2.toInt b j) (b := b) (j := j) (l := rnL a1.toInt a2.toInt (Q.2.2.1 b j)) h2 hc hcf hQ6 hx hB2 hb hj3 (by rw [← e3]; exact fun x hx2 => rfl) (by rw [pgRm_l]; rfl) (by rw [← e3]; exact nl)
    rw [pgRm_s] at pt
    exact ih (j + 1) (by omega) hj3 pt
  · intro F_2 l5_2 x1 x2 x3 x4 x5 x6 x7 x8 x9 x10 x11 k e1 h1 h2 h3 h4 h5 h6 h7 h8 h9 h10 h11 h12 h13 h14 h15 h16 h17 h18 h19 h20 h21 h22 h23 h24 h25 h26 h27 h28 h29 ih
    intro j hj hj2 hx
    have hB := hB2 b hb
    rw [← hc1] at hB
    obtain ⟨ll, nn, pp, ss, v1, ⟨g1, g2, g3⟩, v3, v4, v5, -⟩ := show rk_2 γ c1 (F_2 c1) from RS_o h2 hB
    have ex1 : x1 = rwL γ el q0 b := by
      rw [← h7, v1]
      show ll = γ 14 (el (γ 14 q0) b)
      rw [← hc1, g1]
    have m : γ 2 (rwL γ el q0 b) + 1 = Q.2.1 b := (hx.2.1 b hb).1
    rw [ex1] at h8
    have e3 : x3 = rAt γ el q0 b j := by
      rw [h13, ex1, show l5_2.toInt.toNat = j by rw [hj]; rfl]
      exact (if_pos (show j < γ 2 (rwL γ el q0 b) by omega)).symm
    have hj3 : j < Q.2.1 b := by omega
    have k3 := (rAt_k (j := j) h2 hc hcf (show b < γ 6 f by omega)).1
    rw [← e3] at k3
    have s3 : rwS (F_2 x3) := rwS_1 (RS_o h2 k3)
    have hl := hx.2.2 b hb j (show j ≤ γ 2 (rwL γ el q0 b) by omega)
    rw [← e3] at hl
    unfold lnQ at hl
    rw [pgRm_l] at hl
    have uA := uA_tr h18
    have uB := uB_tr h22
    have uS := ss_tr h25
    have f0 : fI (F_2 x3) 0 = fI (F_2 x3) 0 := rfl
    have f1 : fI (F_2 x3) 1 = fI (F_2 x3) 1 := rfl
    have f2 : fI (F_2 x3) 2 = fI (F_2 x3) 2 := rfl
    have f3 : fI (F_2 x3) 3 = fI (F_2 x3) 3 := rfl
    have f4 : fI (F_2 x3) 4 = fI (F_2 x3) 4 := rfl
    have f5 : fI (F_2 x3) 5 = fI (F_2 x3) 5 := rfl
    have f6 : fI (F_2 x3) 6 = fI (F_2 x3) 6 := rfl
    have r15 : fI (F_2 x3) 0 = x4 := h15
    have r16 : fI (F_2 x3) 5 = x5 := h16
    have r20 : fI (F_2 x3) 6 = x7 := h20
    have r27 : fI (F_2 x3) 1 = x10 := h27
    have nl := rn_ln hw hv (qk_l hO hb hj3) hl f0 f4 f5 f6 (by unfold chA; rw [r15, r16]; exact Or.inr ⟨by omega, f2⟩) (by unfold chB; rw [r15, r20]; exact Or.inr ⟨by omega, f3⟩) (by unfold chT; rw [r15, r27]; first | exact Or.inr ⟨by omega, f1.trans r27⟩ | exact Or.inr ⟨by omega, rfl⟩)
    have pt := rfX_put (F1 := F_2) (Q := pgRm Q a1.toInt a2.toInt b j) (b := b) (j := j) (l := rnL a1.toInt a2.toInt (Q.2.2.1 b j)) h2 hc hcf hQ6 hx hB2 hb hj3 (by rw [← e3]; exact fun x hx2 => rfl) (by rw [pgRm_l]; rfl) (by rw [← e3]; exact nl)
    rw [pgRm_s] at pt
    exact ih (j + 1) (by omega) hj3 pt
  · intro F_2 l5_2 x1 x2 x3 x4 x5 x6 x7 x8 x9 x10 x11 x12 k e1 h1 h2 h3 h4 h5 h6 h7 h8 h9 h10 h11 h12 h13 h14 h15 h16 h17 h18 h19 h20 h21 h22 h23 h24 h25 h26 h27 h28 h29 h30 h31 ih
    intro j hj hj2 hx
    have hB := hB2 b hb
    rw [← hc1] at hB
    obtain ⟨ll, nn, pp, ss, v1, ⟨g1, g2, g3⟩, v3, v4, v5, -⟩ := show rk_2 γ c1 (F_2 c1) from RS_o h2 hB
    have ex1 : x1 = rwL γ el q0 b := by
      rw [← h7, v1]
      show ll = γ 14 (el (γ 14 q0) b)
      rw [← hc1, g1]
    have m : γ 2 (rwL γ el q0 b) + 1 = Q.2.1 b := (hx.2.1 b hb).1
    rw [ex1] at h8
    have e3 : x3 = rAt γ el q0 b j := by
      rw [h13, ex1, show l5_2.toInt.toNat = j by rw [hj]; rfl]
      exact (if_pos (show j < γ 2 (rwL γ el q0 b) by omega)).symm
    have hj3 : j < Q.2.1 b := by omega
    have k3 := (rAt_k (j := j) h2 hc hcf (show b < γ 6 f by omega)).1
    rw [← e3] at k3
    have s3 : rwS (F_2 x3) := rwS_1 (RS_o h2 k3)
    have hl := hx.2.2 b hb j (show j ≤ γ 2 (rwL γ el q0 b) by omega)
    rw [← e3] at hl
    unfold lnQ at hl
    rw [pgRm_l] at hl
    have uA := uA_tr h18
    have uB := uB_tr h22
    have uS := ss_tr h25
    obtain ⟨z1, z10, z11, z12, z13, z14, z15, z16⟩ := cw_1 s3 h30
    have f0 : fI (x11 x3) 0 = fI (F_2 x3) 0 := by rw [z10]
    have f1 : fI (x11 x3) 1 = a2 := by rw [z11]
    have f2 : fI (x11 x3) 2 = fI (F_2 x3) 2 := by rw [z12]
    have f3 : fI (x11 x3) 3 = fI (F_2 x3) 3 := by rw [z13]
    have f4 : fI (x11 x3) 4 = fI (F_2 x3) 4 := by rw [z14]
    have f5 : fI (x11 x3) 5 = fI (F_2 x3) 5 := by rw [z15]
    have f6 : fI (x11 x3) 6 = fI (F_2 x3) 6 := by rw [z16]
    have r15 : fI (F_2 x3) 0 = x4 := h15
    have r16 : fI (F_2 x3) 5 = x5 := h16
    have r20 : fI (F_2 x3) 6 = x7 := h20
    have r27 : fI (F_2 x3) 1 = x10 := h27
    have nl := rn_ln hw hv (qk_l hO hb hj3) hl f0 f4 f5 f6 (by unfold chA; rw [r15, r16]; exact Or.inr ⟨by omega, f2⟩) (by unfold chB; rw [r15, r20]; exact Or.inr ⟨by omega, f3⟩) (by unfold chT; rw [r15, r27]; exact Or.inl ⟨by omega, by rw [f1]⟩)
    have pt := rfX_put (F1 := x11) (Q := pgRm Q a1.toInt a2.toInt b j) (b := b) (j := j) (l := rnL a1.toInt a2.toInt (Q.2.2.1 b j)) h2 hc hcf hQ6 hx hB2 hb hj3 (by rw [← e3]; exact fun x hx2 => by rw [h29 x hx2]) (by rw [pgRm_l]; rfl) (by rw [← e3]; exact nl)
    rw [pgRm_s] at pt
    exact ih (j + 1) (by omega) hj3 pt
  · intro F_2 l5_2 x1 x2 x3 x4 x5 x6 x7 x8 x9 x10 x11 k e1 h1 h2 h3 h4 h5 h6 h7 h8 h9 h10 h11 h12 h13 h14 h15 h16 h17 h18 h19 h20 h21 h22 h23 h24 h25 h26 h27 h28 h29 ih
    intro j hj hj2 hx
    have hB := hB2 b hb
    rw [← hc1] at hB
    obtain ⟨ll, nn, pp, ss, v1, ⟨g1, g2, g3⟩, v3, v4, v5, -⟩ := show rk_2 γ c1 (F_2 c1) from RS_o h2 hB
    have ex1 : x1 = rwL γ el q0 b := by
      rw [← h7, v1]
      show ll = γ 14 (el (γ 14 q0) b)
      rw [← hc1, g1]
    have m : γ 2 (rwL γ el q0 b) + 1 = Q.2.1 b := (hx.2.1 b hb).1
    rw [ex1] at h8
    have e3 : x3 = rAt γ el q0 b j := by
      rw [h13, ex1, show l5_2.toInt.toNat = j by rw [hj]; rfl]
      exact (if_pos (show j < γ 2 (rwL γ el q0 b) by omega)).symm
    have hj3 : j < Q.2.1 b := by omega
    have k3 := (rAt_k (j := j) h2 hc hcf (show b < γ 6 f by omega)).1
    rw [← e3] at k3
    have s3 : rwS (F_2 x3) := rwS_1 (RS_o h2 k3)
    have hl := hx.2.2 b hb j (show j ≤ γ 2 (rwL γ el q0 b) by omega)
    rw [← e3] at hl
    unfold lnQ at hl
    rw [pgRm_l] at hl
    have uA := uA_tr h18
    have uB := uB_tr h22
    have uS := ss_tr h27
    have f0 : fI (F_2 x3) 0 = fI (F_2 x3) 0 := rfl
    have f1 : fI (F_2 x3) 1 = fI (F_2 x3) 1 := rfl
    have f2 : fI (F_2 x3) 2 = fI (F_2 x3) 2 := rfl
    have f3 : fI (F_2 x3) 3 = fI (F_2 x3) 3 := rfl
    have f4 : fI (F_2 x3) 4 = fI (F_2 x3) 4 := rfl
    have f5 : fI (F_2 x3) 5 = fI (F_2 x3) 5 := rfl
    have f6 : fI (F_2 x3) 6 = fI (F_2 x3) 6 := rfl
    have r15 : fI (F_2 x3) 0 = x4 := h15
    have r16 : fI (F_2 x3) 5 = x5 := h16
    have r20 : fI (F_2 x3) 6 = x7 := h20
    have r24 : fI (F_2 x3) 3 = x9 := h24
    have nl := rn_ln hw hv (qk_l hO hb hj3) hl f0 f4 f5 f6 (by unfold chA; rw [r15, r16]; exact Or.inr ⟨by omega, f2⟩) (by unfold chB; rw [r15, r20, r24]; first | exact Or.inr ⟨by omega, f3.trans r24⟩ | exact Or.inr ⟨by omega, rfl⟩) (by unfold chT; rw [r15]; exact Or.inr ⟨by omega, f1⟩)
    have pt := rfX_put (F1 := F_2) (Q := pgRm Q a1.toInt a2.toInt b j) (b := b) (j := j) (l := rnL a1.toInt a2.toInt (Q.2.2.1 b j)) h2 hc hcf hQ6 hx hB2 hb hj3 (by rw [← e3]; exact fun x hx2 => rfl) (by rw [pgRm_l]; rfl) (by rw [← e3]; exact nl)
    rw [pgRm_s] at pt
    exact ih (j + 1) (by omega) hj3 pt
  · intro F_2 l5_2 x1 x2 x3 x4 x5 x6 x7 x8 x9 x10 x11 x12 k e1 h1 h2 h3 h4 h5 h6 h7 h8 h9 h10 h11 h12 h13 h14 h15 h16 h17 h18 h19 h20 h21 h22 h23 h24 h25 h26 h27 h28 h29 h30 h31 ih
    intro j hj hj2 hx
    have hB := hB2 b hb
    rw [← hc1] at hB
    obtain ⟨ll, nn, pp, ss, v1, ⟨g1, g2, g3⟩, v3, v4, v5, -⟩ := show rk_2 γ c1 (F_2 c1) from RS_o h2 hB
    have ex1 : x1 = rwL γ el q0 b := by
      rw [← h7, v1]
      show ll = γ 14 (el (γ 14 q0) b)
      rw [← hc1, g1]
    have m : γ 2 (rwL γ el q0 b) + 1 = Q.2.1 b := (hx.2.1 b hb).1
    rw [ex1] at h8
    have e3 : x3 = rAt γ el q0 b j := by
      rw [h13, ex1, show l5_2.toInt.toNat = j by rw [hj]; rfl]
      exact (if_pos (show j < γ 2 (rwL γ el q0 b) by omega)).symm
    have hj3 : j < Q.2.1 b := by omega
    have k3 := (rAt_k (j := j) h2 hc hcf (show b < γ 6 f by omega)).1
    rw [← e3] at k3
    have s3 : rwS (F_2 x3) := rwS_1 (RS_o h2 k3)
    have hl := hx.2.2 b hb j (show j ≤ γ 2 (rwL γ el q0 b) by omega)
    rw [← e3] at hl
    unfold lnQ at hl
    rw [pgRm_l] at hl
    have uA := uA_tr h18
    have uB := uB_tr h22
    have uS := ss_tr h27
    have f0 : fI (F_2 x3) 0 = fI (F_2 x3) 0 := rfl
    have f1 : fI (F_2 x3) 1 = fI (F_2 x3) 1 := rfl
    have f2 : fI (F_2 x3) 2 = fI (F_2 x3) 2 := rfl
    have f3 : fI (F_2 x3) 3 = fI (F_2 x3) 3 := rfl
    have f4 : fI (F_2 x3) 4 = fI (F_2 x3) 4 := rfl
    have f5 : fI (F_2 x3) 5 = fI (F_2 x3) 5 := rfl
    have f6 : fI (F_2 x3) 6 = fI (F_2 x3) 6 := rfl
    have r15 : fI (F_2 x3) 0 = x4 := h15
    have r16 : fI (F_2 x3) 5 = x5 := h16
    have r20 : fI (F_2 x3) 6 = x7 := h20
    have r24 : fI (F_2 x3) 3 = x9 := h24
    have r29 : fI (F_2 x3) 1 = x11 := h29
    have nl := rn_ln hw hv (qk_l hO hb hj3) hl f0 f4 f5 f6 (by unfold chA; rw [r15, r16]; exact Or.inr ⟨by omega, f2⟩) (by unfold chB; rw [r15, r20, r24]; first | exact Or.inr ⟨by omega, f3.trans r24⟩ | exact Or.inr ⟨by omega, rfl⟩) (by unfold chT; rw [r15, r29]; first | exact Or.inr ⟨by omega, f1.trans r29⟩ | exact Or.inr ⟨by omega, rfl⟩)
    have pt := rfX_put (F1 := F_2) (Q := pgRm Q a1.toInt a2.toInt b j) (b := b) (j := j) (l := rnL a1.toInt a2.toInt (Q.2.2.1 b j)) h2 hc hcf hQ6 hx hB2 hb hj3 (by rw [← e3]; exact fun x hx2 => rfl) (by rw [pgRm_l]; rfl) (by rw [← e3]; exact nl)
    rw [pgRm_s] at pt
    exact ih (j + 1) (by omega) hj3 pt
  · intro F_2 l5_2 x1 x2 x3 x4 x5 x6 x7 x8 x9 x10 x11 x12 x13 k e1 h1 h2 h3 h4 h5 h6 h7 h8 h9 h10 h11 h12 h13 h14 h15 h16 h17 h18 h19 h20 h21 h22 h23 h24 h25 h26 h27 h28 h29 h30 h31 h32 h33 ih
    intro j hj hj2 hx
    have hB := hB2 b hb
    rw [← hc1] at hB
    obtain ⟨ll, nn, pp, ss, v1, ⟨g1, g2, g3⟩, v3, v4, v5, -⟩ := show rk_2 γ c1 (F_2 c1) from RS_o h2 hB
    have ex1 : x1 = rwL γ el q0 b := by
      rw [← h7, v1]
      show ll = γ 14 (el (γ 14 q0) b)
      rw [← hc1, g1]
    have m : γ 2 (rwL γ el q0 b) + 1 = Q.2.1 b := (hx.2.1 b hb).1
    rw [ex1] at h8
    have e3 : x3 = rAt γ el q0 b j := by
      rw [h13, ex1, show l5_2.toInt.toNat = j by rw [hj]; rfl]
      exact (if_pos (show j < γ 2 (rwL γ el q0 b) by omega)).symm
    have hj3 : j < Q.2.1 b := by omega
    have k3 := (rAt_k (j := j) h2 hc hcf (show b < γ 6 f by omega)).1
    rw [← e3] at k3
    have s3 : rwS (F_2 x3) := rwS_1 (RS_o h2 k3)
    have hl := hx.2.2 b hb j (show j ≤ γ 2 (rwL γ el q0 b) by omega)
    rw [← e3] at hl
    unfold lnQ at hl
    rw [pgRm_l] at hl
    have uA := uA_tr h18
    have uB := uB_tr h22
    have uS := ss_tr h27
    obtain ⟨z1, z10, z11, z12, z13, z14, z15, z16⟩ := cw_1 s3 h32
    have f0 : fI (x12 x3) 0 = fI (F_2 x3) 0 := by rw [z10]
    have f1 : fI (x12 x3) 1 = a2 := by rw [z11]
    have f2 : fI (x12 x3) 2 = fI (F_2 x3) 2 := by rw [z12]
    have f3 : fI (x12 x3) 3 = fI (F_2 x3) 3 := by rw [z13]
    have f4 : fI (x12 x3) 4 = fI (F_2 x3) 4 := by rw [z14]
    have f5 : fI (x12 x3) 5 = fI (F_2 x3) 5 := by rw [z15]
    have f6 : fI (x12 x3) 6 = fI (F_2 x3) 6 := by rw [z16]
    have r15 : fI (F_2 x3) 0 = x4 := h15
    have r16 : fI (F_2 x3) 5 = x5 := h16
    have r20 : fI (F_2 x3) 6 = x7 := h20
    have r24 : fI (F_2 x3) 3 = x9 := h24
    have r29 : fI (F_2 x3) 1 = x11 := h29
    have nl := rn_ln hw hv (qk_l hO hb hj3) hl f0 f4 f5 f6 (by unfold chA; rw [r15, r16]; exact Or.inr ⟨by omega, f2⟩) (by unfold chB; rw [r15, r20, r24]; first | exact Or.inr ⟨by omega, f3.trans r24⟩ | exact Or.inr ⟨by omega, rfl⟩) (by unfold chT; rw [r15, r29]; exact Or.inl ⟨by omega, by rw [f1]⟩)
    have pt := rfX_put (F1 := x12) (Q := pgRm Q a1.toInt a2.toInt b j) (b := b) (j := j) (l := rnL a1.toInt a2.toInt (Q.2.2.1 b j)) h2 hc hcf hQ6 hx hB2 hb hj3 (by rw [← e3]; exact fun x hx2 => by rw [h31 x hx2]) (by rw [pgRm_l]; rfl) (by rw [← e3]; exact nl)
    rw [pgRm_s] at pt
    exact ih (j + 1) (by omega) hj3 pt
  · intro F_2 l5_2 x1 x2 x3 x4 x5 x6 x7 x8 x9 x10 x11 x12 k e1 h1 h2 h3 h4 h5 h6 h7 h8 h9 h10 h11 h12 h13 h14 h15 h16 h17 h18 h19 h20 h21 h22 h23 h24 h25 h26 h27 h28 h29 h30 h31 h32 ih
    intro j hj hj2 hx
    have hB := hB2 b hb
    rw [← hc1] at hB
    obtain ⟨ll, nn, pp, ss, v1, ⟨g1, g2, g3⟩, v3, v4, v5, -⟩ := show rk_2 γ c1 (F_2 c1) from RS_o h2 hB
    have ex1 : x1 = rwL γ el q0 b := by
      rw [← h7, v1]
      show ll = γ 14 (el (γ 14 q0) b)
      rw [← hc1, g1]
    have m : γ 2 (rwL γ el q0 b) + 1 = Q.2.1 b := (hx.2.1 b hb).1
    rw [ex1] at h8
    have e3 : x3 = rAt γ el q0 b j := by
      rw [h13, ex1, show l5_2.toInt.toNat = j by rw [hj]; rfl]
      exact (if_pos (show j < γ 2 (rwL γ el q0 b) by omega)).symm
    have hj3 : j < Q.2.1 b := by omega
    have k3 := (rAt_k (j := j) h2 hc hcf (show b < γ 6 f by omega)).1
    rw [← e3] at k3
    have s3 : rwS (F_2 x3) := rwS_1 (RS_o h2 k3)
    have hl := hx.2.2 b hb j (show j ≤ γ 2 (rwL γ el q0 b) by omega)
    rw [← e3] at hl
    unfold lnQ at hl
    rw [pgRm_l] at hl
    have uA := uA_tr h18
    have uB := uB_tr h22
    have uS := ss_tr h30
    obtain ⟨z1, z10, z11, z12, z13, z14, z15, z16⟩ := cw_3 s3 h27
    have f0 : fI (x10 x3) 0 = fI (F_2 x3) 0 := by rw [z10]
    have f1 : fI (x10 x3) 1 = fI (F_2 x3) 1 := by rw [z11]
    have f2 : fI (x10 x3) 2 = fI (F_2 x3) 2 := by rw [z12]
    have f3 : fI (x10 x3) 3 = a2 := by rw [z13]
    have f4 : fI (x10 x3) 4 = fI (F_2 x3) 4 := by rw [z14]
    have f5 : fI (x10 x3) 5 = fI (F_2 x3) 5 := by rw [z15]
    have f6 : fI (x10 x3) 6 = fI (F_2 x3) 6 := by rw [z16]
    have r15 : fI (F_2 x3) 0 = x4 := h15
    have r16 : fI (F_2 x3) 5 = x5 := h16
    have r20 : fI (F_2 x3) 6 = x7 := h20
    have r24 : fI (F_2 x3) 3 = x9 := h24
    have r28 : fI (F_2 x3) 0 = x4 := by rw [← h28, z10]
    have nl := rn_ln hw hv (qk_l hO hb hj3) hl f0 f4 f5 f6 (by unfold chA; rw [r15, r16]; exact Or.inr ⟨by omega, f2⟩) (by unfold chB; rw [r15, r20, r24]; exact Or.inl ⟨by omega, by rw [f3]⟩) (by unfold chT; rw [r15]; exact Or.inr ⟨by omega, f1⟩)
    have pt := rfX_put (F1 := x10) (Q := pgRm Q a1.toInt a2.toInt b j) (b := b) (j := j) (l := rnL a1.toInt a2.toInt (Q.2.2.1 b j)) h2 hc hcf hQ6 hx hB2 hb hj3 (by rw [← e3]; exact fun x hx2 => by rw [h26 x hx2]) (by rw [pgRm_l]; rfl) (by rw [← e3]; exact nl)
    rw [pgRm_s] at pt
    exact ih (j + 1) (by omega) hj3 pt
  · intro F_2 l5_2 x1 x2 x3 x4 x5 x6 x7 x8 x9 x10 x11 x12 x13 k e1 h1 h2 h3 h4 h5 h6 h7 h8 h9 h10 h11 h12 h13 h14 h15 h16 h17 h18 h19 h20 h21 h22 h23 h24 h25 h26 h27 h28 h29 h30 h31 h32 h33 h34 ih
    intro j hj hj2 hx
    have hB := hB2 b hb
    rw [← hc1] at hB
    obtain ⟨ll, nn, pp, ss, v1, ⟨g1, g2, g3⟩, v3, v4, v5, -⟩ := show rk_2 γ c1 (F_2 c1) from RS_o h2 hB
    have ex1 : x1 = rwL γ el q0 b := by
      rw [← h7, v1]
      show ll = γ 14 (el (γ 14 q0) b)
      rw [← hc1, g1]
    have m : γ 2 (rwL γ el q0 b) + 1 = Q.2.1 b := (hx.2.1 b hb).1
    rw [ex1] at h8
    have e3 : x3 = rAt γ el q0 b j := by
      rw [h13, ex1, show l5_2.toInt.toNat = j by rw [hj]; rfl]
      exact (if_pos (show j < γ 2 (rwL γ el q0 b) by omega)).symm
    have hj3 : j < Q.2.1 b := by omega
    have k3 := (rAt_k (j := j) h2 hc hcf (show b < γ 6 f by omega)).1
    rw [← e3] at k3
    have s3 : rwS (F_2 x3) := rwS_1 (RS_o h2 k3)
    have hl := hx.2.2 b hb j (show j ≤ γ 2 (rwL γ el q0 b) by omega)
    rw [← e3] at hl
    unfold lnQ at hl
    rw [pgRm_l] at hl
    have uA := uA_tr h18
    have uB := uB_tr h22
    have uS := ss_tr h30
    obtain ⟨z1, z10, z11, z12, z13, z14, z15, z16⟩ := cw_3 s3 h27
    have f0 : fI (x10 x3) 0 = fI (F_2 x3) 0 := by rw [z10]
    have f1 : fI (x10 x3) 1 = fI (F_2 x3) 1 := by rw [z11]
    have f2 : fI (x10 x3) 2 = fI (F_2 x3) 2 := by rw [z12]
    have f3 : fI (x10 x3) 3 = a2 := by rw [z13]
    have f4 : fI (x10 x3) 4 = fI (F_2 x3) 4 := by rw [z14]
    have f5 : fI (x10 x3) 5 = fI (F_2 x3) 5 := by rw [z15]
    have f6 : fI (x10 x3) 6 = fI (F_2 x3) 6 := by rw [z16]
    have r15 : fI (F_2 x3) 0 = x4 := h15
    have r16 : fI (F_2 x3) 5 = x5 := h16
    have r20 : fI (F_2 x3) 6 = x7 := h20
    have r24 : fI (F_2 x3) 3 = x9 := h24
    have r28 : fI (F_2 x3) 0 = x4 := by rw [← h28, z10]
    have r32 : fI (F_2 x3) 1 = x12 := by rw [← h32, z11]
    have nl := rn_ln hw hv (qk_l hO hb hj3) hl f0 f4 f5 f6 (by unfold chA; rw [r15, r16]; exact Or.inr ⟨by omega, f2⟩) (by unfold chB; rw [r15, r20, r24]; exact Or.inl ⟨by omega, by rw [f3]⟩) (by unfold chT; rw [r15, r32]; first | exact Or.inr ⟨by omega, f1.trans r32⟩ | exact Or.inr ⟨by omega, rfl⟩)
    have pt := rfX_put (F1 := x10) (Q := pgRm Q a1.toInt a2.toInt b j) (b := b) (j := j) (l := rnL a1.toInt a2.toInt (Q.2.2.1 b j)) h2 hc hcf hQ6 hx hB2 hb hj3 (by rw [← e3]; exact fun x hx2 => by rw [h26 x hx2]) (by rw [pgRm_l]; rfl) (by rw [← e3]; exact nl)
    rw [pgRm_s] at pt
    exact ih (j + 1) (by omega) hj3 pt
  · intro F_2 l5_2 x1 x2 x3 x4 x5 x6 x7 x8 x9 x10 x11 x12 x13 x14 k e1 h1 h2 h3 h4 h5 h6 h7 h8 h9 h10 h11 h12 h13 h14 h15 h16 h17 h18 h19 h20 h21 h22 h23 h24 h25 h26 h27 h28 h29 h30 h31 h32 h33 h34 h35 h36 ih
    intro j hj hj2 hx
    have hB := hB2 b hb
    rw [← hc1] at hB
    obtain ⟨ll, nn, pp, ss, v1, ⟨g1, g2, g3⟩, v3, v4, v5, -⟩ := show rk_2 γ c1 (F_2 c1) from RS_o h2 hB
    have ex1 : x1 = rwL γ el q0 b := by
      rw [← h7, v1]
      show ll = γ 14 (el (γ 14 q0) b)
      rw [← hc1, g1]
    have m : γ 2 (rwL γ el q0 b) + 1 = Q.2.1 b := (hx.2.1 b hb).1
    rw [ex1] at h8
    have e3 : x3 = rAt γ el q0 b j := by
      rw [h13, ex1, show l5_2.toInt.toNat = j by rw [hj]; rfl]
      exact (if_pos (show j < γ 2 (rwL γ el q0 b) by omega)).symm
    have hj3 : j < Q.2.1 b := by omega
    have k3 := (rAt_k (j := j) h2 hc hcf (show b < γ 6 f by omega)).1
    rw [← e3] at k3
    have s3 : rwS (F_2 x3) := rwS_1 (RS_o h2 k3)
    have hl := hx.2.2 b hb j (show j ≤ γ 2 (rwL γ el q0 b) by omega)
    rw [← e3] at hl
    unfold lnQ at hl
    rw [pgRm_l] at hl
    have uA := uA_tr h18
    have uB := uB_tr h22
    have uS := ss_tr h30
    obtain ⟨z1, z10, z11, z12, z13, z14, z15, z16⟩ := cw_3 s3 h27
    obtain ⟨z2, z20, z21, z22, z23, z24, z25, z26⟩ := cw_1 z1 h35
    have f0 : fI (x13 x3) 0 = fI (F_2 x3) 0 := by rw [z20, z10]
    have f1 : fI (x13 x3) 1 = a2 := by rw [z21]
    have f2 : fI (x13 x3) 2 = fI (F_2 x3) 2 := by rw [z22, z12]
    have f3 : fI (x13 x3) 3 = a2 := by rw [z23, z13]
    have f4 : fI (x13 x3) 4 = fI (F_2 x3) 4 := by rw [z24, z14]
    have f5 : fI (x13 x3) 5 = fI (F_2 x3) 5 := by rw [z25, z15]
    have f6 : fI (x13 x3) 6 = fI (F_2 x3) 6 := by rw [z26, z16]
    have r15 : fI (F_2 x3) 0 = x4 := h15
    have r16 : fI (F_2 x3) 5 = x5 := h16
    have r20 : fI (F_2 x3) 6 = x7 := h20
    have r24 : fI (F_2 x3) 3 = x9 := h24
    have r28 : fI (F_2 x3) 0 = x4 := by rw [← h28, z10]
    have r32 : fI (F_2 x3) 1 = x12 := by rw [← h32, z11]
    have nl := rn_ln hw hv (qk_l hO hb hj3) hl f0 f4 f5 f6 (by unfold chA; rw [r15, r16]; exact Or.inr ⟨by omega, f2⟩) (by unfold chB; rw [r15, r20, r24]; exact Or.inl ⟨by omega, by rw [f3]⟩) (by unfold chT; rw [r15, r32]; exact Or.inl ⟨by omega, by rw [f1]⟩)
    have pt := rfX_put (F1 := x13) (Q := pgRm Q a1.toInt a2.toInt b j) (b := b) (j := j) (l := rnL a1.toInt a2.toInt (Q.2.2.1 b j)) h2 hc hcf hQ6 hx hB2 hb hj3 (by rw [← e3]; exact fun x hx2 => by rw [h34 x hx2, h26 x hx2]) (by rw [pgRm_l]; rfl) (by rw [← e3]; exact nl)
    rw [pgRm_s] at pt
    exact ih (j + 1) (by omega) hj3 pt
  · intro F_2 l5_2 x1 x2 x3 x4 x5 x6 x7 x8 x9 x10 x11 k e1 h1 h2 h3 h4 h5 h6 h7 h8 h9 h10 h11 h12 h13 h14 h15 h16 h17 h18 h19 h20 h21 h22 h23 h24 h25 h26 h27 h28 h29 ih
    intro j hj hj2 hx
    have hB := hB2 b hb
    rw [← hc1] at hB
    obtain ⟨ll, nn, pp, ss, v1, ⟨g1, g2, g3⟩, v3, v4, v5, -⟩ := show rk_2 γ c1 (F_2 c1) from RS_o h2 hB
    have ex1 : x1 = rwL γ el q0 b := by
      rw [← h7, v1]
      show ll = γ 14 (el (γ 14 q0) b)
      rw [← hc1, g1]
    have m : γ 2 (rwL γ el q0 b) + 1 = Q.2.1 b := (hx.2.1 b hb).1
    rw [ex1] at h8
    have e3 : x3 = rAt γ el q0 b j := by
      rw [h13, ex1, show l5_2.toInt.toNat = j by rw [hj]; rfl]
      exact (if_pos (show j < γ 2 (rwL γ el q0 b) by omega)).symm
    have hj3 : j < Q.2.1 b := by omega
    have k3 := (rAt_k (j := j) h2 hc hcf (show b < γ 6 f by omega)).1
    rw [← e3] at k3
    have s3 : rwS (F_2 x3) := rwS_1 (RS_o h2 k3)
    have hl := hx.2.2 b hb j (show j ≤ γ 2 (rwL γ el q0 b) by omega)
    rw [← e3] at hl
    unfold lnQ at hl
    rw [pgRm_l] at hl
    have uA := uA_tr h18
    have uB := uB_tr h24
    have uS := ss_tr h27
    have f0 : fI (F_2 x3) 0 = fI (F_2 x3) 0 := rfl
    have f1 : fI (F_2 x3) 1 = fI (F_2 x3) 1 := rfl
    have f2 : fI (F_2 x3) 2 = fI (F_2 x3) 2 := rfl
    have f3 : fI (F_2 x3) 3 = fI (F_2 x3) 3 := rfl
    have f4 : fI (F_2 x3) 4 = fI (F_2 x3) 4 := rfl
    have f5 : fI (F_2 x3) 5 = fI (F_2 x3) 5 := rfl
    have f6 : fI (F_2 x3) 6 = fI (F_2 x3) 6 := rfl
    have r15 : fI (F_2 x3) 0 = x4 := h15
    have r16 : fI (F_2 x3) 5 = x5 := h16
    have r20 : fI (F_2 x3) 2 = x7 := h20
    have r22 : fI (F_2 x3) 6 = x8 := h22
    have nl := rn_ln hw hv (qk_l hO hb hj3) hl f0 f4 f5 f6 (by unfold chA; rw [r15, r16, r20]; first | exact Or.inr ⟨by omega, f2.trans r20⟩ | exact Or.inr ⟨by omega, rfl⟩) (by unfold chB; rw [r15, r22]; exact Or.inr ⟨by omega, f3⟩) (by unfold chT; rw [r15]; exact Or.inr ⟨by omega, f1⟩)
    have pt := rfX_put (F1 := F_2) (Q := pgRm Q a1.toInt a2.toInt b j) (b := b) (j := j) (l := rnL a1.toInt a2.toInt (Q.2.2.1 b j)) h2 hc hcf hQ6 hx hB2 hb hj3 (by rw [← e3]; exact fun x hx2 => rfl) (by rw [pgRm_l]; rfl) (by rw [← e3]; exact nl)
    rw [pgRm_s] at pt
    exact ih (j + 1) (by omega) hj3 pt
  · intro F_2 l5_2 x1 x2 x3 x4 x5 x6 x7 x8 x9 x10 x11 x12 k e1 h1 h2 h3 h4 h5 h6 h7 h8 h9 h10 h11 h12 h13 h14 h15 h16 h17 h18 h19 h20 h21 h22 h23 h24 h25 h26 h27 h28 h29 h30 h31 ih
    intro j hj hj2 hx
    have hB := hB2 b hb
    rw [← hc1] at hB
    obtain ⟨ll, nn, pp, ss, v1, ⟨g1, g2, g3⟩, v3, v4, v5, -⟩ := show rk_2 γ c1 (F_2 c1) from RS_o h2 hB
    have ex1 : x1 = rwL γ el q0 b := by
      rw [← h7, v1]
      show ll = γ 14 (el (γ 14 q0) b)
      rw [← hc1, g1]
    have m : γ 2 (rwL γ el q0 b) + 1 = Q.2.1 b := (hx.2.1 b hb).1
    rw [ex1] at h8
    have e3 : x3 = rAt γ el q0 b j := by
      rw [h13, ex1, show l5_2.toInt.toNat = j by rw [hj]; rfl]
      exact (if_pos (show j < γ 2 (rwL γ el q0 b) by omega)).symm
    have hj3 : j < Q.2.1 b := by omega
    have k3 := (rAt_k (j := j) h2 hc hcf (show b < γ 6 f by omega)).1
    rw [← e3] at k3
    have s3 : rwS (F_2 x3) := rwS_1 (RS_o h2 k3)
    have hl := hx.2.2 b hb j (show j ≤ γ 2 (rwL γ el q0 b) by omega)
    rw [← e3] at hl
    unfold lnQ at hl
    rw [pgRm_l] at hl
    have uA := uA_tr h18
    have uB := uB_tr h24
    have uS := ss_tr h27
    have f0 : fI (F_2 x3) 0 = fI (F_2 x3) 0 := rfl
    have f1 : fI (F_2 x3) 1 = fI (F_2 x3) 1 := rfl
    have f2 : fI (F_2 x3) 2 = fI (F_2 x3) 2 := rfl
    have f3 : fI (F_2 x3) 3 = fI (F_2 x3) 3 := rfl
    have f4 : fI (F_2 x3) 4 = fI (F_2 x3) 4 := rfl
    have f5 : fI (F_2 x3) 5 = fI (F_2 x3) 5 := rfl
    have f6 : fI (F_2 x3) 6 = fI (F_2 x3) 6 := rfl
    have r15 : fI (F_2 x3) 0 = x4 := h15
    have r16 : fI (F_2 x3) 5 = x5 := h16
    have r20 : fI (F_2 x3) 2 = x7 := h20
    have r22 : fI (F_2 x3) 6 = x8 := h22
    have r29 : fI (F_2 x3) 1 = x11 := h29
    have nl := rn_ln hw hv (qk_l hO hb hj3) hl f0 f4 f5 f6 (by unfold chA; rw [r15, r16, r20]; first | exact Or.inr ⟨by omega, f2.trans r20⟩ | exact Or.inr ⟨by omega, rfl⟩) (by unfold chB; rw [r15, r22]; exact Or.inr ⟨by omega, f3⟩) (by unfold chT; rw [r15, r29]; first | exact Or.inr ⟨by omega, f1.trans r29⟩ | exact Or.inr ⟨by omega, rfl⟩)
    have pt := rfX_put (F1 := F_2) (Q := pgRm Q a1.toInt a2.toInt b j) (b := b) (j := j) (l := rnL a1.toInt a2.toInt (Q.2.2.1 b j)) h2 hc hcf hQ6 hx hB2 hb hj3 (by rw [← e3]; exact fun x hx2 => rfl) (by rw [pgRm_l]; rfl) (by rw [← e3]; exact nl)
    rw [pgRm_s] at pt
    exact ih (j + 1) (by omega) hj3 pt
  · intro F_2 l5_2 x1 x2 x3 x4 x5 x6 x7 x8 x9 x10 x11 x12 x13 k e1 h1 h2 h3 h4 h5 h6 h7 h8 h9 h10 h11 h12 h13 h14 h15 h16 h17 h18 h19 h20 h21 h22 h23 h24 h25 h26 h27 h28 h29 h30 h31 h32 h33 ih
    intro j hj hj2 hx
    have hB := hB2 b hb
    rw [← hc1] at hB
    obtain ⟨ll, nn, pp, ss, v1, ⟨g1, g2, g3⟩, v3, v4, v5, -⟩ := show rk_2 γ c1 (F_2 c1) from RS_o h2 hB
    have ex1 : x1 = rwL γ el q0 b := by
      rw [← h7, v1]
      show ll = γ 14 (el (γ 14 q0) b)
      rw [← hc1, g1]
    have m : γ 2 (rwL γ el q0 b) + 1 = Q.2.1 b := (hx.2.1 b hb).1
    rw [ex1] at h8
    have e3 : x3 = rAt γ el q0 b j := by
      rw [h13, ex1, show l5_2.toInt.toNat = j by rw [hj]; rfl]
      exact (if_pos (show j < γ 2 (rwL γ el q0 b) by omega)).symm
    have hj3 : j < Q.2.1 b := by omega
    have k3 := (rAt_k (j := j) h2 hc hcf (show b < γ 6 f by omega)).1
    rw [← e3] at k3
    have s3 : rwS (F_2 x3) := rwS_1 (RS_o h2 k3)
    have hl := hx.2.2 b hb j (show j ≤ γ 2 (rwL γ el q0 b) by omega)
    rw [← e3] at hl
    unfold lnQ at hl
    rw [pgRm_l] at hl
    have uA := uA_tr h18
    have uB := uB_tr h24
    have uS := ss_tr h27
    obtain ⟨z1, z10, z11, z12, z13, z14, z15, z16⟩ := cw_1 s3 h32
    have f0 : fI (x12 x3) 0 = fI (F_2 x3) 0 := by rw [z10]
    have f1 : fI (x12 x3) 1 = a2 := by rw [z11]
    have f2 : fI (x12 x3) 2 = fI (F_2 x3) 2 := by rw [z12]
    have f3 : fI (x12 x3) 3 = fI (F_2 x3) 3 := by rw [z13]
    have f4 : fI (x12 x3) 4 = fI (F_2 x3) 4 := by rw [z14]
    have f5 : fI (x12 x3) 5 = fI (F_2 x3) 5 := by rw [z15]
    have f6 : fI (x12 x3) 6 = fI (F_2 x3) 6 := by rw [z16]
    have r15 : fI (F_2 x3) 0 = x4 := h15
    have r16 : fI (F_2 x3) 5 = x5 := h16
    have r20 : fI (F_2 x3) 2 = x7 := h20
    have r22 : fI (F_2 x3) 6 = x8 := h22
    have r29 : fI (F_2 x3) 1 = x11 := h29
    have nl := rn_ln hw hv (qk_l hO hb hj3) hl f0 f4 f5 f6 (by unfold chA; rw [r15, r16, r20]; first | exact Or.inr ⟨by omega, f2.trans r20⟩ | exact Or.inr ⟨by omega, rfl⟩) (by unfold chB; rw [r15, r22]; exact Or.inr ⟨by omega, f3⟩) (by unfold chT; rw [r15, r29]; exact Or.inl ⟨by omega, by rw [f1]⟩)
    have pt := rfX_put (F1 := x12) (Q := pgRm Q a1.toInt a2.toInt b j) (b := b) (j := j) (l := rnL a1.toInt a2.toInt (Q.2.2.1 b j)) h2 hc hcf hQ6 hx hB2 hb hj3 (by rw [← e3]; exact fun x hx2 => by rw [h31 x hx2]) (by rw [pgRm_l]; rfl) (by rw [← e3]; exact nl)
    rw [pgRm_s] at pt
    exact ih (j + 1) (by omega) hj3 pt
  · intro F_2 l5_2 x1 x2 x3 x4 x5 x6 x7 x8 x9 x10 x11 x12 k e1 h1 h2 h3 h4 h5 h6 h7 h8 h9 h10 h11 h12 h13 h14 h15 h16 h17 h18 h19 h20 h21 h22 h23 h24 h25 h26 h27 h28 h29 h30 h31 ih
    intro j hj hj2 hx
    have hB := hB2 b hb
    rw [← hc1] at hB
    obtain ⟨ll, nn, pp, ss, v1, ⟨g1, g2, g3⟩, v3, v4, v5, -⟩ := show rk_2 γ c1 (F_2 c1) from RS_o h2 hB
    have ex1 : x1 = rwL γ el q0 b := by
      rw [← h7, v1]
      show ll = γ 14 (el (γ 14 q0) b)
      rw [← hc1, g1]
    have m : γ 2 (rwL γ el q0 b) + 1 = Q.2.1 b := (hx.2.1 b hb).1
    rw [ex1] at h8
    have e3 : x3 = rAt γ el q0 b j := by
      rw [h13, ex1, show l5_2.toInt.toNat = j by rw [hj]; rfl]
      exact (if_pos (show j < γ 2 (rwL γ el q0 b) by omega)).symm
    have hj3 : j < Q.2.1 b := by omega
    have k3 := (rAt_k (j := j) h2 hc hcf (show b < γ 6 f by omega)).1
    rw [← e3] at k3
    have s3 : rwS (F_2 x3) := rwS_1 (RS_o h2 k3)
    have hl := hx.2.2 b hb j (show j ≤ γ 2 (rwL γ el q0 b) by omega)
    rw [← e3] at hl
    unfold lnQ at hl
    rw [pgRm_l] at hl
    have uA := uA_tr h18
    have uB := uB_tr h24
    have uS := ss_tr h29
    have f0 : fI (F_2 x3) 0 = fI (F_2 x3) 0 := rfl
    have f1 : fI (F_2 x3) 1 = fI (F_2 x3) 1 := rfl
    have f2 : fI (F_2 x3) 2 = fI (F_2 x3) 2 := rfl
    have f3 : fI (F_2 x3) 3 = fI (F_2 x3) 3 := rfl
    have f4 : fI (F_2 x3) 4 = fI (F_2 x3) 4 := rfl
    have f5 : fI (F_2 x3) 5 = fI (F_2 x3) 5 := rfl
    have f6 : fI (F_2 x3) 6 = fI (F_2 x3) 6 := rfl
    have r15 : fI (F_2 x3) 0 = x4 := h15
    have r16 : fI (F_2 x3) 5 = x5 := h16
    have r20 : fI (F_2 x3) 2 = x7 := h20
    have r22 : fI (F_2 x3) 6 = x8 := h22
    have r26 : fI (F_2 x3) 3 = x10 := h26
    have nl := rn_ln hw hv (qk_l hO hb hj3) hl f0 f4 f5 f6 (by unfold chA; rw [r15, r16, r20]; first | exact Or.inr ⟨by omega, f2.trans r20⟩ | exact Or.inr ⟨by omega, rfl⟩) (by unfold chB; rw [r15, r22, r26]; first | exact Or.inr ⟨by omega, f3.trans r26⟩ | exact Or.inr ⟨by omega, rfl⟩) (by unfold chT; rw [r15]; exact Or.inr ⟨by omega, f1⟩)
    have pt := rfX_put (F1 := F_2) (Q := pgRm Q a1.toInt a2.toInt b j) (b := b) (j := j) (l := rnL a1.toInt a2.toInt (Q.2.2.1 b j)) h2 hc hcf hQ6 hx hB2 hb hj3 (by rw [← e3]; exact fun x hx2 => rfl) (by rw [pgRm_l]; rfl) (by rw [← e3]; exact nl)
    rw [pgRm_s] at pt
    exact ih (j + 1) (by omega) hj3 pt
  · intro F_2 l5_2 x1 x2 x3 x4 x5 x6 x7 x8 x9 x10 x11 x12 x13 k e1 h1 h2 h3 h4 h5 h6 h7 h8 h9 h10 h11 h12 h13 h14 h15 h16 h17 h18 h19 h20 h21 h22 h23 h24 h25 h26 h27 h28 h29 h30 h31 h32 h33 ih
    intro j hj hj2 hx
    have hB := hB2 b hb
    rw [← hc1] at hB
    obtain ⟨ll, nn, pp, ss, v1, ⟨g1, g2, g3⟩, v3, v4, v5, -⟩ := show rk_2 γ c1 (F_2 c1) from RS_o h2 hB
    have ex1 : x1 = rwL γ el q0 b := by
      rw [← h7, v1]
      show ll = γ 14 (el (γ 14 q0) b)
      rw [← hc1, g1]
    have m : γ 2 (rwL γ el q0 b) + 1 = Q.2.1 b := (hx.2.1 b hb).1
    rw [ex1] at h8
    have e3 : x3 = rAt γ el q0 b j := by
      rw [h13, ex1, show l5_2.toInt.toNat = j by rw [hj]; rfl]
      exact (if_pos (show j < γ 2 (rwL γ el q0 b) by omega)).symm
    have hj3 : j < Q.2.1 b := by omega
    have k3 := (rAt_k (j := j) h2 hc hcf (show b < γ 6 f by omega)).1
    rw [← e3] at k3
    have s3 : rwS (F_2 x3) := rwS_1 (RS_o h2 k3)
    have hl := hx.2.2 b hb j (show j ≤ γ 2 (rwL γ el q0 b) by omega)
    rw [← e3] at hl
    unfold lnQ at hl
    rw [pgRm_l] at hl
    have uA := uA_tr h18
    have uB := uB_tr h24
    have uS := ss_tr h29
    have f0 : fI (F_2 x3) 0 = fI (F_2 x3) 0 := rfl
    have f1 : fI (F_2 x3) 1 = fI (F_2 x3) 1 := rfl
    have f2 : fI (F_2 x3) 2 = fI (F_2 x3) 2 := rfl
    have f3 : fI (F_2 x3) 3 = fI (F_2 x3) 3 := rfl
    have f4 : fI (F_2 x3) 4 = fI (F_2 x3) 4 := rfl
    have f5 : fI (F_2 x3) 5 = fI (F_2 x3) 5 := rfl
    have f6 : fI (F_2 x3) 6 = fI (F_2 x3) 6 := rfl
    have r15 : fI (F_2 x3) 0 = x4 := h15
    have r16 : fI (F_2 x3) 5 = x5 := h16
    have r20 : fI (F_2 x3) 2 = x7 := h20
    have r22 : fI (F_2 x3) 6 = x8 := h22
    have r26 : fI (F_2 x3) 3 = x10 := h26
    have r31 : fI (F_2 x3) 1 = x12 := h31
    have nl := rn_ln hw hv (qk_l hO hb hj3) hl f0 f4 f5 f6 (by unfold chA; rw [r15, r16, r20]; first | exact Or.inr ⟨by omega, f2.trans r20⟩ | exact Or.inr ⟨by omega, rfl⟩) (by unfold chB; rw [r15, r22, r26]; first | exact Or.inr ⟨by omega, f3.trans r26⟩ | exact Or.inr ⟨by omega, rfl⟩) (by unfold chT; rw [r15, r31]; first | exact Or.inr ⟨by omega, f1.trans r31⟩ | exact Or.inr ⟨by omega, rfl⟩)
    have pt := rfX_put (F1 := F_2) (Q := pgRm Q a1.toInt a2.toInt b j) (b := b) (j := j) (l := rnL a1.toInt a2.toInt (Q.2.2.1 b j)) h2 hc hcf hQ6 hx hB2 hb hj3 (by rw [← e3]; exact fun x hx2 => rfl) (by rw [pgRm_l]; rfl) (by rw [← e3]; exact nl)
    rw [pgRm_s] at pt
    exact ih (j + 1) (by omega) hj3 pt
  · intro F_2 l5_2 x1 x2 x3 x4 x5 x6 x7 x8 x9 x10 x11 x12 x13 x14 k e1 h1 h2 h3 h4 h5 h6 h7 h8 h9 h10 h11 h12 h13 h14 h15 h16 h17 h18 h19 h20 h21 h22 h23 h24 h25 h26 h27 h28 h29 h30 h31 h32 h33 h34 h35 ih
    intro j hj hj2 hx
    have hB := hB2 b hb
    rw [← hc1] at hB
    obtain ⟨ll, nn, pp, ss, v1, ⟨g1, g2, g3⟩, v3, v4, v5, -⟩ := show rk_2 γ c1 (F_2 c1) from RS_o h2 hB
    have ex1 : x1 = rwL γ el q0 b := by
      rw [← h7, v1]
      show ll = γ 14 (el (γ 14 q0) b)
      rw [← hc1, g1]
    have m : γ 2 (rwL γ el q0 b) + 1 = Q.2.1 b := (hx.2.1 b hb).1
    rw [ex1] at h8
    have e3 : x3 = rAt γ el q0 b j := by
      rw [h13, ex1, show l5_2.toInt.toNat = j by rw [hj]; rfl]
      exact (if_pos (show j < γ 2 (rwL γ el q0 b) by omega)).symm
    have hj3 : j < Q.2.1 b := by omega
    have k3 := (rAt_k (j := j) h2 hc hcf (show b < γ 6 f by omega)).1
    rw [← e3] at k3
    have s3 : rwS (F_2 x3) := rwS_1 (RS_o h2 k3)
    have hl := hx.2.2 b hb j (show j ≤ γ 2 (rwL γ el q0 b) by omega)
    rw [← e3] at hl
    unfold lnQ at hl
    rw [pgRm_l] at hl
    have uA := uA_tr h18
    have uB := uB_tr h24
    have uS := ss_tr h29
    obtain ⟨z1, z10, z11, z12, z13, z14, z15, z16⟩ := cw_1 s3 h34
    have f0 : fI (x13 x3) 0 = fI (F_2 x3) 0 := by rw [z10]
    have f1 : fI (x13 x3) 1 = a2 := by rw [z11]
    have f2 : fI (x13 x3) 2 = fI (F_2 x3) 2 := by rw [z12]
    have f3 : fI (x13 x3) 3 = fI (F_2 x3) 3 := by rw [z13]
    have f4 : fI (x13 x3) 4 = fI (F_2 x3) 4 := by rw [z14]
    have f5 : fI (x13 x3) 5 = fI (F_2 x3) 5 := by rw [z15]
    have f6 : fI (x13 x3) 6 = fI (F_2 x3) 6 := by rw [z16]
    have r15 : fI (F_2 x3) 0 = x4 := h15
    have r16 : fI (F_2 x3) 5 = x5 := h16
    have r20 : fI (F_2 x3) 2 = x7 := h20
    have r22 : fI (F_2 x3) 6 = x8 := h22
    have r26 : fI (F_2 x3) 3 = x10 := h26
    have r31 : fI (F_2 x3) 1 = x12 := h31
    have nl := rn_ln hw hv (qk_l hO hb hj3) hl f0 f4 f5 f6 (by unfold chA; rw [r15, r16, r20]; first | exact Or.inr ⟨by omega, f2.trans r20⟩ | exact Or.inr ⟨by omega, rfl⟩) (by unfold chB; rw [r15, r22, r26]; first | exact Or.inr ⟨by omega, f3.trans r26⟩ | exact Or.inr ⟨by omega, rfl⟩) (by unfold chT; rw [r15, r31]; exact Or.inl ⟨by omega, by rw [f1]⟩)
    have pt := rfX_put (F1 := x13) (Q := pgRm Q a1.toInt a2.toInt b j) (b := b) (j := j) (l := rnL a1.toInt a2.toInt (Q.2.2.1 b j)) h2 hc hcf hQ6 hx hB2 hb hj3 (by rw [← e3]; exact fun x hx2 => by rw [h33 x hx2]) (by rw [pgRm_l]; rfl) (by rw [← e3]; exact nl)
    rw [pgRm_s] at pt
    exact ih (j + 1) (by omega) hj3 pt
  · intro F_2 l5_2 x1 x2 x3 x4 x5 x6 x7 x8 x9 x10 x11 x12 x13 k e1 h1 h2 h3 h4 h5 h6 h7 h8 h9 h10 h11 h12 h13 h14 h15 h16 h17 h18 h19 h20 h21 h22 h23 h24 h25 h26 h27 h28 h29 h30 h31 h32 h33 h34 ih
    intro j hj hj2 hx
    have hB := hB2 b hb
    rw [← hc1] at hB
    obtain ⟨ll, nn, pp, ss, v1, ⟨g1, g2, g3⟩, v3, v4, v5, -⟩ := show rk_2 γ c1 (F_2 c1) from RS_o h2 hB
    have ex1 : x1 = rwL γ el q0 b := by
      rw [← h7, v1]
      show ll = γ 14 (el (γ 14 q0) b)
      rw [← hc1, g1]
    have m : γ 2 (rwL γ el q0 b) + 1 = Q.2.1 b := (hx.2.1 b hb).1
    rw [ex1] at h8
    have e3 : x3 = rAt γ el q0 b j := by
      rw [h13, ex1, show l5_2.toInt.toNat = j by rw [hj]; rfl]
      exact (if_pos (show j < γ 2 (rwL γ el q0 b) by omega)).symm
    have hj3 : j < Q.2.1 b := by omega
    have k3 := (rAt_k (j := j) h2 hc hcf (show b < γ 6 f by omega)).1
    rw [← e3] at k3
    have s3 : rwS (F_2 x3) := rwS_1 (RS_o h2 k3)
    have hl := hx.2.2 b hb j (show j ≤ γ 2 (rwL γ el q0 b) by omega)
    rw [← e3] at hl
    unfold lnQ at hl
    rw [pgRm_l] at hl
    have uA := uA_tr h18
    have uB := uB_tr h24
    have uS := ss_tr h32
    obtain ⟨z1, z10, z11, z12, z13, z14, z15, z16⟩ := cw_3 s3 h29
    have f0 : fI (x11 x3) 0 = fI (F_2 x3) 0 := by rw [z10]
    have f1 : fI (x11 x3) 1 = fI (F_2 x3) 1 := by rw [z11]
    have f2 : fI (x11 x3) 2 = fI (F_2 x3) 2 := by rw [z12]
    have f3 : fI (x11 x3) 3 = a2 := by rw [z13]
    have f4 : fI (x11 x3) 4 = fI (F_2 x3) 4 := by rw [z14]
    have f5 : fI (x11 x3) 5 = fI (F_2 x3) 5 := by rw [z15]
    have f6 : fI (x11 x3) 6 = fI (F_2 x3) 6 := by rw [z16]
    have r15 : fI (F_2 x3) 0 = x4 := h15
    have r16 : fI (F_2 x3) 5 = x5 := h16
    have r20 : fI (F_2 x3) 2 = x7 := h20
    have r22 : fI (F_2 x3) 6 = x8 := h22
    have r26 : fI (F_2 x3) 3 = x10 := h26
    have r30 : fI (F_2 x3) 0 = x4 := by rw [← h30, z10]
    have nl := rn_ln hw hv (qk_l hO hb hj3) hl f0 f4 f5 f6 (by unfold chA; rw [r15, r16, r20]; first | exact Or.inr ⟨by omega, f2.trans r20⟩ | exact Or.inr ⟨by omega, rfl⟩) (by unfold chB; rw [r15, r22, r26]; exact Or.inl ⟨by omega, by rw [f3]⟩) (by unfold chT; rw [r15]; exact Or.inr ⟨by omega, f1⟩)
    have pt := rfX_put (F1 := x11) (Q := pgRm Q a1.toInt a2.toInt b j) (b := b) (j := j) (l := rnL a1.toInt a2.toInt (Q.2.2.1 b j)) h2 hc hcf hQ6 hx hB2 hb hj3 (by rw [← e3]; exact fun x hx2 => by rw [h28 x hx2]) (by rw [pgRm_l]; rfl) (by rw [← e3]; exact nl)
    rw [pgRm_s] at pt
    exact ih (j + 1) (by omega) hj3 pt
  · intro F_2 l5_2 x1 x2 x3 x4 x5 x6 x7 x8 x9 x10 x11 x12 x13 x14 k e1 h1 h2 h3 h4 h5 h6 h7 h8 h9 h10 h11 h12 h13 h14 h15 h16 h17 h18 h19 h20 h21 h22 h23 h24 h25 h26 h27 h28 h29 h30 h31 h32 h33 h34 h35 h36 ih
    intro j hj hj2 hx
    have hB := hB2 b hb
    rw [← hc1] at hB
    obtain ⟨ll, nn, pp, ss, v1, ⟨g1, g2, g3⟩, v3, v4, v5, -⟩ := show rk_2 γ c1 (F_2 c1) from RS_o h2 hB
    have ex1 : x1 = rwL γ el q0 b := by
      rw [← h7, v1]
      show ll = γ 14 (el (γ 14 q0) b)
      rw [← hc1, g1]
    have m : γ 2 (rwL γ el q0 b) + 1 = Q.2.1 b := (hx.2.1 b hb).1
    rw [ex1] at h8
    have e3 : x3 = rAt γ el q0 b j := by
      rw [h13, ex1, show l5_2.toInt.toNat = j by rw [hj]; rfl]
      exact (if_pos (show j < γ 2 (rwL γ el q0 b) by omega)).symm
    have hj3 : j < Q.2.1 b := by omega
    have k3 := (rAt_k (j := j) h2 hc hcf (show b < γ 6 f by omega)).1
    rw [← e3] at k3
    have s3 : rwS (F_2 x3) := rwS_1 (RS_o h2 k3)
    have hl := hx.2.2 b hb j (show j ≤ γ 2 (rwL γ el q0 b) by omega)
    rw [← e3] at hl
    unfold lnQ at hl
    rw [pgRm_l] at hl
    have uA := uA_tr h18
    have uB := uB_tr h24
    have uS := ss_tr h32
    obtain ⟨z1, z10, z11, z12, z13, z14, z15, z16⟩ := cw_3 s3 h29
    have f0 : fI (x11 x3) 0 = fI (F_2 x3) 0 := by rw [z10]
    have f1 : fI (x11 x3) 1 = fI (F_2 x3) 1 := by rw [z11]
    have f2 : fI (x11 x3) 2 = fI (F_2 x3) 2 := by rw [z12]
    have f3 : fI (x11 x3) 3 = a2 := by rw [z13]
    have f4 : fI (x11 x3) 4 = fI (F_2 x3) 4 := by rw [z14]
    have f5 : fI (x11 x3) 5 = fI (F_2 x3) 5 := by rw [z15]
    have f6 : fI (x11 x3) 6 = fI (F_2 x3) 6 := by rw [z16]
    have r15 : fI (F_2 x3) 0 = x4 := h15
    have r16 : fI (F_2 x3) 5 = x5 := h16
    have r20 : fI (F_2 x3) 2 = x7 := h20
    have r22 : fI (F_2 x3) 6 = x8 := h22
    have r26 : fI (F_2 x3) 3 = x10 := h26
    have r30 : fI (F_2 x3) 0 = x4 := by rw [← h30, z10]
    have r34 : fI (F_2 x3) 1 = x13 := by rw [← h34, z11]
    have nl := rn_ln hw hv (qk_l hO hb hj3) hl f0 f4 f5 f6 (by unfold chA; rw [r15, r16, r20]; first | exact Or.inr ⟨by omega, f2.trans r20⟩ | exact Or.inr ⟨by omega, rfl⟩) (by unfold chB; rw [r15, r22, r26]; exact Or.inl ⟨by omega, by rw [f3]⟩) (by unfold chT; rw [r15, r34]; first | exact Or.inr ⟨by omega, f1.trans r34⟩ | exact Or.inr ⟨by omega, rfl⟩)
    have pt := rfX_put (F1 := x11) (Q := pgRm Q a1.toInt a2.toInt b j) (b := b) (j := j) (l := rnL a1.toInt a2.toInt (Q.2.2.1 b j)) h2 hc hcf hQ6 hx hB2 hb hj3 (by rw [← e3]; exact fun x hx2 => by rw [h28 x hx2]) (by rw [pgRm_l]; rfl) (by rw [← e3]; exact nl)
    rw [pgRm_s] at pt
    exact ih (j + 1) (by omega) hj3 pt
  · intro F_2 l5_2 x1 x2 x3 x4 x5 x6 x7 x8 x9 x10 x11 x12 x13 x14 x15 k e1 h1 h2 h3 h4 h5 h6 h7 h8 h9 h10 h11 h12 h13 h14 h15 h16 h17 h18 h19 h20 h21 h22 h23 h24 h25 h26 h27 h28 h29 h30 h31 h32 h33 h34 h35 h36 h37 h38 ih
    intro j hj hj2 hx
    have hB := hB2 b hb
    rw [← hc1] at hB
    obtain ⟨ll, nn, pp, ss, v1, ⟨g1, g2, g3⟩, v3, v4, v5, -⟩ := show rk_2 γ c1 (F_2 c1) from RS_o h2 hB
    have ex1 : x1 = rwL γ el q0 b := by
      rw [← h7, v1]
      show ll = γ 14 (el (γ 14 q0) b)
      rw [← hc1, g1]
    have m : γ 2 (rwL γ el q0 b) + 1 = Q.2.1 b := (hx.2.1 b hb).1
    rw [ex1] at h8
    have e3 : x3 = rAt γ el q0 b j := by
      rw [h13, ex1, show l5_2.toInt.toNat = j by rw [hj]; rfl]
      exact (if_pos (show j < γ 2 (rwL γ el q0 b) by omega)).symm
    have hj3 : j < Q.2.1 b := by omega
    have k3 := (rAt_k (j := j) h2 hc hcf (show b < γ 6 f by omega)).1
    rw [← e3] at k3
    have s3 : rwS (F_2 x3) := rwS_1 (RS_o h2 k3)
    have hl := hx.2.2 b hb j (show j ≤ γ 2 (rwL γ el q0 b) by omega)
    rw [← e3] at hl
    unfold lnQ at hl
    rw [pgRm_l] at hl
    have uA := uA_tr h18
    have uB := uB_tr h24
    have uS := ss_tr h32
    obtain ⟨z1, z10, z11, z12, z13, z14, z15, z16⟩ := cw_3 s3 h29
    obtain ⟨z2, z20, z21, z22, z23, z24, z25, z26⟩ := cw_1 z1 h37
    have f0 : fI (x14 x3) 0 = fI (F_2 x3) 0 := by rw [z20, z10]
    have f1 : fI (x14 x3) 1 = a2 := by rw [z21]
    have f2 : fI (x14 x3) 2 = fI (F_2 x3) 2 := by rw [z22, z12]
    have f3 : fI (x14 x3) 3 = a2 := by rw [z23, z13]
    have f4 : fI (x14 x3) 4 = fI (F_2 x3) 4 := by rw [z24, z14]
    have f5 : fI (x14 x3) 5 = fI (F_2 x3) 5 := by rw [z25, z15]
    have f6 : fI (x14 x3) 6 = fI (F_2 x3) 6 := by rw [z26, z16]
    have r15 : fI (F_2 x3) 0 = x4 := h15
    have r16 : fI (F_2 x3) 5 = x5 := h16
    have r20 : fI (F_2 x3) 2 = x7 := h20
    have r22 : fI (F_2 x3) 6 = x8 := h22
    have r26 : fI (F_2 x3) 3 = x10 := h26
    have r30 : fI (F_2 x3) 0 = x4 := by rw [← h30, z10]
    have r34 : fI (F_2 x3) 1 = x13 := by rw [← h34, z11]
    have nl := rn_ln hw hv (qk_l hO hb hj3) hl f0 f4 f5 f6 (by unfold chA; rw [r15, r16, r20]; first | exact Or.inr ⟨by omega, f2.trans r20⟩ | exact Or.inr ⟨by omega, rfl⟩) (by unfold chB; rw [r15, r22, r26]; exact Or.inl ⟨by omega, by rw [f3]⟩) (by unfold chT; rw [r15, r34]; exact Or.inl ⟨by omega, by rw [f1]⟩)
    have pt := rfX_put (F1 := x14) (Q := pgRm Q a1.toInt a2.toInt b j) (b := b) (j := j) (l := rnL a1.toInt a2.toInt (Q.2.2.1 b j)) h2 hc hcf hQ6 hx hB2 hb hj3 (by rw [← e3]; exact fun x hx2 => by rw [h36 x hx2, h28 x hx2]) (by rw [pgRm_l]; rfl) (by rw [← e3]; exact nl)
    rw [pgRm_s] at pt
    exact ih (j + 1) (by omega) hj3 pt
  · intro F_2 l5_2 x1 x2 x3 x4 x5 x6 x7 x8 x9 x10 x11 x12 k e1 h1 h2 h3 h4 h5 h6 h7 h8 h9 h10 h11 h12 h13 h14 h15 h16 h17 h18 h19 h20 h21 h22 h23 h24 h25 h26 h27 h28 h29 h30 h31 h32 ih
    intro j hj hj2 hx
    have hB := hB2 b hb
    rw [← hc1] at hB
    obtain ⟨ll, nn, pp, ss, v1, ⟨g1, g2, g3⟩, v3, v4, v5, -⟩ := show rk_2 γ c1 (F_2 c1) from RS_o h2 hB
    have ex1 : x1 = rwL γ el q0 b := by
      rw [← h7, v1]
      show ll = γ 14 (el (γ 14 q0) b)
      rw [← hc1, g1]
    have m : γ 2 (rwL γ el q0 b) + 1 = Q.2.1 b := (hx.2.1 b hb).1
    rw [ex1] at h8
    have e3 : x3 = rAt γ el q0 b j := by
      rw [h13, ex1, show l5_2.toInt.toNat = j by rw [hj]; rfl]
      exact (if_pos (show j < γ 2 (rwL γ el q0 b) by omega)).symm
    have hj3 : j < Q.2.1 b := by omega
    have k3 := (rAt_k (j := j) h2 hc hcf (show b < γ 6 f by omega)).1
    rw [← e3] at k3
    have s3 : rwS (F_2 x3) := rwS_1 (RS_o h2 k3)
    have hl := hx.2.2 b hb j (show j ≤ γ 2 (rwL γ el q0 b) by omega)
    rw [← e3] at hl
    unfold lnQ at hl
    rw [pgRm_l] at hl
    have uA := uA_tr h18
    have uB := uB_tr h27
    have uS := ss_tr h30
    obtain ⟨z1, z10, z11, z12, z13, z14, z15, z16⟩ := cw_2 s3 h23
    have f0 : fI (x8 x3) 0 = fI (F_2 x3) 0 := by rw [z10]
    have f1 : fI (x8 x3) 1 = fI (F_2 x3) 1 := by rw [z11]
    have f2 : fI (x8 x3) 2 = a2 := by rw [z12]
    have f3 : fI (x8 x3) 3 = fI (F_2 x3) 3 := by rw [z13]
    have f4 : fI (x8 x3) 4 = fI (F_2 x3) 4 := by rw [z14]
    have f5 : fI (x8 x3) 5 = fI (F_2 x3) 5 := by rw [z15]
    have f6 : fI (x8 x3) 6 = fI (F_2 x3) 6 := by rw [z16]
    have r15 : fI (F_2 x3) 0 = x4 := h15
    have r16 : fI (F_2 x3) 5 = x5 := h16
    have r20 : fI (F_2 x3) 2 = x7 := h20
    have r24 : fI (F_2 x3) 0 = x4 := by rw [← h24, z10]
    have r25 : fI (F_2 x3) 6 = x9 := by rw [← h25, z16]
    have nl := rn_ln hw hv (qk_l hO hb hj3) hl f0 f4 f5 f6 (by unfold chA; rw [r15, r16, r20]; exact Or.inl ⟨by omega, by rw [f2]⟩) (by unfold chB; rw [r15, r25]; exact Or.inr ⟨by omega, f3⟩) (by unfold chT; rw [r15]; exact Or.inr ⟨by omega, f1⟩)
    have pt := rfX_put (F1 := x8) (Q := pgRm Q a1.toInt a2.toInt b j) (b := b) (j := j) (l := rnL a1.toInt a2.toInt (Q.2.2.1 b j)) h2 hc hcf hQ6 hx hB2 hb hj3 (by rw [← e3]; exact fun x hx2 => by rw [h22 x hx2]) (by rw [pgRm_l]; rfl) (by rw [← e3]; exact nl)
    rw [pgRm_s] at pt
    exact ih (j + 1) (by omega) hj3 pt
  · intro F_2 l5_2 x1 x2 x3 x4 x5 x6 x7 x8 x9 x10 x11 x12 x13 k e1 h1 h2 h3 h4 h5 h6 h7 h8 h9 h10 h11 h12 h13 h14 h15 h16 h17 h18 h19 h20 h21 h22 h23 h24 h25 h26 h27 h28 h29 h30 h31 h32 h33 h34 ih
    intro j hj hj2 hx
    have hB := hB2 b hb
    rw [← hc1] at hB
    obtain ⟨ll, nn, pp, ss, v1, ⟨g1, g2, g3⟩, v3, v4, v5, -⟩ := show rk_2 γ c1 (F_2 c1) from RS_o h2 hB
    have ex1 : x1 = rwL γ el q0 b := by
      rw [← h7, v1]
      show ll = γ 14 (el (γ 14 q0) b)
      rw [← hc1, g1]
    have m : γ 2 (rwL γ el q0 b) + 1 = Q.2.1 b := (hx.2.1 b hb).1
    rw [ex1] at h8
    have e3 : x3 = rAt γ el q0 b j := by
      rw [h13, ex1, show l5_2.toInt.toNat = j by rw [hj]; rfl]
      exact (if_pos (show j < γ 2 (rwL γ el q0 b) by omega)).symm
    have hj3 : j < Q.2.1 b := by omega
    have k3 := (rAt_k (j := j) h2 hc hcf (show b < γ 6 f by omega)).1
    rw [← e3] at k3
    have s3 : rwS (F_2 x3) := rwS_1 (RS_o h2 k3)
    have hl := hx.2.2 b hb j (show j ≤ γ 2 (rwL γ el q0 b) by omega)
    rw [← e3] at hl
    unfold lnQ at hl
    rw [pgRm_l] at hl
    have uA := uA_tr h18
    have uB := uB_tr h27
    have uS := ss_tr h30
    obtain ⟨z1, z10, z11, z12, z13, z14, z15, z16⟩ := cw_2 s3 h23
    have f0 : fI (x8 x3) 0 = fI (F_2 x3) 0 := by rw [z10]
    have f1 : fI (x8 x3) 1 = fI (F_2 x3) 1 := by rw [z11]
    have f2 : fI (x8 x3) 2 = a2 := by rw [z12]
    have f3 : fI (x8 x3) 3 = fI (F_2 x3) 3 := by rw [z13]
    have f4 : fI (x8 x3) 4 = fI (F_2 x3) 4 := by rw [z14]
    have f5 : fI (x8 x3) 5 = fI (F_2 x3) 5 := by rw [z15]
    have f6 : fI (x8 x3) 6 = fI (F_2 x3) 6 := by rw [z16]
    have r15 : fI (F_2 x3) 0 = x4 := h15
    have r16 : fI (F_2 x3) 5 = x5 := h16
    have r20 : fI (F_2 x3) 2 = x7 := h20
    have r24 : fI (F_2 x3) 0 = x4 := by rw [← h24, z10]
    have r25 : fI (F_2 x3) 6 = x9 := by rw [← h25, z16]
    have r32 : fI (F_2 x3) 1 = x12 := by rw [← h32, z11]
    have nl := rn_ln hw hv (qk_l hO hb hj3) hl f0 f4 f5 f6 (by unfold chA; rw [r15, r16, r20]; exact Or.inl ⟨by omega, by rw [f2]⟩) (by unfold chB; rw [r15, r25]; exact Or.inr ⟨by omega, f3⟩) (by unfold chT; rw [r15, r32]; first | exact Or.inr ⟨by omega, f1.trans r32⟩ | exact Or.inr ⟨by omega, rfl⟩)
    have pt := rfX_put (F1 := x8) (Q := pgRm Q a1.toInt a2.toInt b j) (b := b) (j := j) (l := rnL a1.toInt a2.toInt (Q.2.2.1 b j)) h2 hc hcf hQ6 hx hB2 hb hj3 (by rw [← e3]; exact fun x hx2 => by rw [h22 x hx2]) (by rw [pgRm_l]; rfl) (by rw [← e3]; exact nl)
    rw [pgRm_s] at pt
    exact ih (j + 1) (by omega) hj3 pt
  · intro F_2 l5_2 x1 x2 x3 x4 x5 x6 x7 x8 x9 x10 x11 x12 x13 x14 k e1 h1 h2 h3 h4 h5 h6 h7 h8 h9 h10 h11 h12 h13 h14 h15 h16 h17 h18 h19 h20 h21 h22 h23 h24 h25 h26 h27 h28 h29 h30 h31 h32 h33 h34 h35 h36 ih
    intro j hj hj2 hx
    have hB := hB2 b hb
    rw [← hc1] at hB
    obtain ⟨ll, nn, pp, ss, v1, ⟨g1, g2, g3⟩, v3, v4, v5, -⟩ := show rk_2 γ c1 (F_2 c1) from RS_o h2 hB
    have ex1 : x1 = rwL γ el q0 b := by
      rw [← h7, v1]
      show ll = γ 14 (el (γ 14 q0) b)
      rw [← hc1, g1]
    have m : γ 2 (rwL γ el q0 b) + 1 = Q.2.1 b := (hx.2.1 b hb).1
    rw [ex1] at h8
    have e3 : x3 = rAt γ el q0 b j := by
      rw [h13, ex1, show l5_2.toInt.toNat = j by rw [hj]; rfl]
      exact (if_pos (show j < γ 2 (rwL γ el q0 b) by omega)).symm
    have hj3 : j < Q.2.1 b := by omega
    have k3 := (rAt_k (j := j) h2 hc hcf (show b < γ 6 f by omega)).1
    rw [← e3] at k3
    have s3 : rwS (F_2 x3) := rwS_1 (RS_o h2 k3)
    have hl := hx.2.2 b hb j (show j ≤ γ 2 (rwL γ el q0 b) by omega)
    rw [← e3] at hl
    unfold lnQ at hl
    rw [pgRm_l] at hl
    have uA := uA_tr h18
    have uB := uB_tr h27
    have uS := ss_tr h30
    obtain ⟨z1, z10, z11, z12, z13, z14, z15, z16⟩ := cw_2 s3 h23
    obtain ⟨z2, z20, z21, z22, z23, z24, z25, z26⟩ := cw_1 z1 h35
    have f0 : fI (x13 x3) 0 = fI (F_2 x3) 0 := by rw [z20, z10]
    have f1 : fI (x13 x3) 1 = a2 := by rw [z21]
    have f2 : fI (x13 x3) 2 = a2 := by rw [z22, z12]
    have f3 : fI (x13 x3) 3 = fI (F_2 x3) 3 := by rw [z23, z13]
    have f4 : fI (x13 x3) 4 = fI (F_2 x3) 4 := by rw [z24, z14]
    have f5 : fI (x13 x3) 5 = fI (F_2 x3) 5 := by rw [z25, z15]
    have f6 : fI (x13 x3) 6 = fI (F_2 x3) 6 := by rw [z26, z16]
    have r15 : fI (F_2 x3) 0 = x4 := h15
    have r16 : fI (F_2 x3) 5 = x5 := h16
    have r20 : fI (F_2 x3) 2 = x7 := h20
    have r24 : fI (F_2 x3) 0 = x4 := by rw [← h24, z10]
    have r25 : fI (F_2 x3) 6 = x9 := by rw [← h25, z16]
    have r32 : fI (F_2 x3) 1 = x12 := by rw [← h32, z11]
    have nl := rn_ln hw hv (qk_l hO hb hj3) hl f0 f4 f5 f6 (by unfold chA; rw [r15, r16, r20]; exact Or.inl ⟨by omega, by rw [f2]⟩) (by unfold chB; rw [r15, r25]; exact Or.inr ⟨by omega, f3⟩) (by unfold chT; rw [r15, r32]; exact Or.inl ⟨by omega, by rw [f1]⟩)
    have pt := rfX_put (F1 := x13) (Q := pgRm Q a1.toInt a2.toInt b j) (b := b) (j := j) (l := rnL a1.toInt a2.toInt (Q.2.2.1 b j)) h2 hc hcf hQ6 hx hB2 hb hj3 (by rw [← e3]; exact fun x hx2 => by rw [h34 x hx2, h22 x hx2]) (by rw [pgRm_l]; rfl) (by rw [← e3]; exact nl)
    rw [pgRm_s] at pt
    exact ih (j + 1) (by omega) hj3 pt
  · intro F_2 l5_2 x1 x2 x3 x4 x5 x6 x7 x8 x9 x10 x11 x12 x13 k e1 h1 h2 h3 h4 h5 h6 h7 h8 h9 h10 h11 h12 h13 h14 h15 h16 h17 h18 h19 h20 h21 h22 h23 h24 h25 h26 h27 h28 h29 h30 h31 h32 h33 h34 ih
    intro j hj hj2 hx
    have hB := hB2 b hb
    rw [← hc1] at hB
    obtain ⟨ll, nn, pp, ss, v1, ⟨g1, g2, g3⟩, v3, v4, v5, -⟩ := show rk_2 γ c1 (F_2 c1) from RS_o h2 hB
    have ex1 : x1 = rwL γ el q0 b := by
      rw [← h7, v1]
      show ll = γ 14 (el (γ 14 q0) b)
      rw [← hc1, g1]
    have m : γ 2 (rwL γ el q0 b) + 1 = Q.2.1 b := (hx.2.1 b hb).1
    rw [ex1] at h8
    have e3 : x3 = rAt γ el q0 b j := by
      rw [h13, ex1, show l5_2.toInt.toNat = j by rw [hj]; rfl]
      exact (if_pos (show j < γ 2 (rwL γ el q0 b) by omega)).symm
    have hj3 : j < Q.2.1 b := by omega
    have k3 := (rAt_k (j := j) h2 hc hcf (show b < γ 6 f by omega)).1
    rw [← e3] at k3
    have s3 : rwS (F_2 x3) := rwS_1 (RS_o h2 k3)
    have hl := hx.2.2 b hb j (show j ≤ γ 2 (rwL γ el q0 b) by omega)
    rw [← e3] at hl
    unfold lnQ at hl
    rw [pgRm_l] at hl
    have uA := uA_tr h18
    have uB := uB_tr h27
    have uS := ss_tr h32
    obtain ⟨z1, z10, z11, z12, z13, z14, z15, z16⟩ := cw_2 s3 h23
    have f0 : fI (x8 x3) 0 = fI (F_2 x3) 0 := by rw [z10]
    have f1 : fI (x8 x3) 1 = fI (F_2 x3) 1 := by rw [z11]
    have f2 : fI (x8 x3) 2 = a2 := by rw [z12]
    have f3 : fI (x8 x3) 3 = fI (F_2 x3) 3 := by rw [z13]
    have f4 : fI (x8 x3) 4 = fI (F_2 x3) 4 := by rw [z14]
    have f5 : fI (x8 x3) 5 = fI (F_2 x3) 5 := by rw [z15]
    have f6 : fI (x8 x3) 6 = fI (F_2 x3) 6 := by rw [z16]
    have r15 : fI (F_2 x3) 0 = x4 := h15
    have r16 : fI (F_2 x3) 5 = x5 := h16
    have r20 : fI (F_2 x3) 2 = x7 := h20
    have r24 : fI (F_2 x3) 0 = x4 := by rw [← h24, z10]
    have r25 : fI (F_2 x3) 6 = x9 := by rw [← h25, z16]
    have r29 : fI (F_2 x3) 3 = x11 := by rw [← h29, z13]
    have nl := rn_ln hw hv (qk_l hO hb hj3) hl f0 f4 f5 f6 (by unfold chA; rw [r15, r16, r20]; exact Or.inl ⟨by omega, by rw [f2]⟩) (by unfold chB; rw [r15, r25, r29]; first | exact Or.inr ⟨by omega, f3.trans r29⟩ | exact Or.inr ⟨by omega, rfl⟩) (by unfold chT; rw [r15]; exact Or.inr ⟨by omega, f1⟩)
    have pt := rfX_put (F1 := x8) (Q := pgRm Q a1.toInt a2.toInt b j) (b := b) (j := j) (l := rnL a1.toInt a2.toInt (Q.2.2.1 b j)) h2 hc hcf hQ6 hx hB2 hb hj3 (by rw [← e3]; exact fun x hx2 => by rw [h22 x hx2]) (by rw [pgRm_l]; rfl) (by rw [← e3]; exact nl)
    rw [pgRm_s] at pt
    exact ih (j + 1) (by omega) hj3 pt
  · intro F_2 l5_2 x1 x2 x3 x4 x5 x6 x7 x8 x9 x10 x11 x12 x13 x14 k e1 h1 h2 h3 h4 h5 h6 h7 h8 h9 h10 h11 h12 h13 h14 h15 h16 h17 h18 h19 h20 h21 h22 h23 h24 h25 h26 h27 h28 h29 h30 h31 h32 h33 h34 h35 h36 ih
    intro j hj hj2 hx
    have hB := hB2 b hb
    rw [← hc1] at hB
    obtain ⟨ll, nn, pp, ss, v1, ⟨g1, g2, g3⟩, v3, v4, v5, -⟩ := show rk_2 γ c1 (F_2 c1) from RS_o h2 hB
    have ex1 : x1 = rwL γ el q0 b := by
      rw [← h7, v1]
      show ll = γ 14 (el (γ 14 q0) b)
      rw [← hc1, g1]
    have m : γ 2 (rwL γ el q0 b) + 1 = Q.2.1 b := (hx.2.1 b hb).1
    rw [ex1] at h8
    have e3 : x3 = rAt γ el q0 b j := by
      rw [h13, ex1, show l5_2.toInt.toNat = j by rw [hj]; rfl]
      exact (if_pos (show j < γ 2 (rwL γ el q0 b) by omega)).symm
    have hj3 : j < Q.2.1 b := by omega
    have k3 := (rAt_k (j := j) h2 hc hcf (show b < γ 6 f by omega)).1
    rw [← e3] at k3
    have s3 : rwS (F_2 x3) := rwS_1 (RS_o h2 k3)
    have hl := hx.2.2 b hb j (show j ≤ γ 2 (rwL γ el q0 b) by omega)
    rw [← e3] at hl
    unfold lnQ at hl
    rw [pgRm_l] at hl
    have uA := uA_tr h18
    have uB := uB_tr h27
    have uS := ss_tr h32
    obtain ⟨z1, z10, z11, z12, z13, z14, z15, z16⟩ := cw_2 s3 h23
    have f0 : fI (x8 x3) 0 = fI (F_2 x3) 0 := by rw [z10]
    have f1 : fI (x8 x3) 1 = fI (F_2 x3) 1 := by rw [z11]
    have f2 : fI (x8 x3) 2 = a2 := by rw [z12]
    have f3 : fI (x8 x3) 3 = fI (F_2 x3) 3 := by rw [z13]
    have f4 : fI (x8 x3) 4 = fI (F_2 x3) 4 := by rw [z14]
    have f5 : fI (x8 x3) 5 = fI (F_2 x3) 5 := by rw [z15]
    have f6 : fI (x8 x3) 6 = fI (F_2 x3) 6 := by rw [z16]
    have r15 : fI (F_2 x3) 0 = x4 := h15
    have r16 : fI (F_2 x3) 5 = x5 := h16
    have r20 : fI (F_2 x3) 2 = x7 := h20
    have r24 : fI (F_2 x3) 0 = x4 := by rw [← h24, z10]
    have r25 : fI (F_2 x3) 6 = x9 := by rw [← h25, z16]
    have r29 : fI (F_2 x3) 3 = x11 := by rw [← h29, z13]
    have r34 : fI (F_2 x3) 1 = x13 := by rw [← h34, z11]
    have nl := rn_ln hw hv (qk_l hO hb hj3) hl f0 f4 f5 f6 (by unfold chA; rw [r15, r16, r20]; exact Or.inl ⟨by omega, by rw [f2]⟩) (by unfold chB; rw [r15, r25, r29]; first | exact Or.inr ⟨by omega, f3.trans r29⟩ | exact Or.inr ⟨by omega, rfl⟩) (by unfold chT; rw [r15, r34]; first | exact Or.inr ⟨by omega, f1.trans r34⟩ | exact Or.inr ⟨by omega, rfl⟩)
    have pt := rfX_put (F1 := x8) (Q := pgRm Q a1.toInt a2.toInt b j) (b := b) (j := j) (l := rnL a1.toInt a2.toInt (Q.2.2.1 b j)) h2 hc hcf hQ6 hx hB2 hb hj3 (by rw [← e3]; exact fun x hx2 => by rw [h22 x hx2]) (by rw [pgRm_l]; rfl) (by rw [← e3]; exact nl)
    rw [pgRm_s] at pt
    exact ih (j + 1) (by omega) hj3 pt
  · intro F_2 l5_2 x1 x2 x3 x4 x5 x6 x7 x8 x9 x10 x11 x12 x13 x14 x15 k e1 h1 h2 h3 h4 h5 h6 h7 h8 h9 h10 h11 h12 h13 h14 h15 h16 h17 h18 h19 h20 h21 h22 h23 h24 h25 h26 h27 h28 h29 h30 h31 h32 h33 h34 h35 h36 h37 h38 ih
    intro j hj hj2 hx
    have hB := hB2 b hb
    rw [← hc1] at hB
    obtain ⟨ll, nn, pp, ss, v1, ⟨g1, g2, g3⟩, v3, v4, v5, -⟩ := show rk_2 γ c1 (F_2 c1) from RS_o h2 hB
    have ex1 : x1 = rwL γ el q0 b := by
      rw [← h7, v1]
      show ll = γ 14 (el (γ 14 q0) b)
      rw [← hc1, g1]
    have m : γ 2 (rwL γ el q0 b) + 1 = Q.2.1 b := (hx.2.1 b hb).1
    rw [ex1] at h8
    have e3 : x3 = rAt γ el q0 b j := by
      rw [h13, ex1, show l5_2.toInt.toNat = j by rw [hj]; rfl]
      exact (if_pos (show j < γ 2 (rwL γ el q0 b) by omega)).symm
    have hj3 : j < Q.2.1 b := by omega
    have k3 := (rAt_k (j := j) h2 hc hcf (show b < γ 6 f by omega)).1
    rw [← e3] at k3
    have s3 : rwS (F_2 x3) := rwS_1 (RS_o h2 k3)
    have hl := hx.2.2 b hb j (show j ≤ γ 2 (rwL γ el q0 b) by omega)
    rw [← e3] at hl
    unfold lnQ at hl
    rw [pgRm_l] at hl
    have uA := uA_tr h18
    have uB := uB_tr h27
    have uS := ss_tr h32
    obtain ⟨z1, z10, z11, z12, z13, z14, z15, z16⟩ := cw_2 s3 h23
    obtain ⟨z2, z20, z21, z22, z23, z24, z25, z26⟩ := cw_1 z1 h37
    have f0 : fI (x14 x3) 0 = fI (F_2 x3) 0 := by rw [z20, z10]
    have f1 : fI (x14 x3) 1 = a2 := by rw [z21]
    have f2 : fI (x14 x3) 2 = a2 := by rw [z22, z12]
    have f3 : fI (x14 x3) 3 = fI (F_2 x3) 3 := by rw [z23, z13]
    have f4 : fI (x14 x3) 4 = fI (F_2 x3) 4 := by rw [z24, z14]
    have f5 : fI (x14 x3) 5 = fI (F_2 x3) 5 := by rw [z25, z15]
    have f6 : fI (x14 x3) 6 = fI (F_2 x3) 6 := by rw [z26, z16]
    have r15 : fI (F_2 x3) 0 = x4 := h15
    have r16 : fI (F_2 x3) 5 = x5 := h16
    have r20 : fI (F_2 x3) 2 = x7 := h20
    have r24 : fI (F_2 x3) 0 = x4 := by rw [← h24, z10]
    have r25 : fI (F_2 x3) 6 = x9 := by rw [← h25, z16]
    have r29 : fI (F_2 x3) 3 = x11 := by rw [← h29, z13]
    have r34 : fI (F_2 x3) 1 = x13 := by rw [← h34, z11]
    have nl := rn_ln hw hv (qk_l hO hb hj3) hl f0 f4 f5 f6 (by unfold chA; rw [r15, r16, r20]; exact Or.inl ⟨by omega, by rw [f2]⟩) (by unfold chB; rw [r15, r25, r29]; first | exact Or.inr ⟨by omega, f3.trans r29⟩ | exact Or.inr ⟨by omega, rfl⟩) (by unfold chT; rw [r15, r34]; exact Or.inl ⟨by omega, by rw [f1]⟩)
    have pt := rfX_put (F1 := x14) (Q := pgRm Q a1.toInt a2.toInt b j) (b := b) (j := j) (l := rnL a1.toInt a2.toInt (Q.2.2.1 b j)) h2 hc hcf hQ6 hx hB2 hb hj3 (by rw [← e3]; exact fun x hx2 => by rw [h36 x hx2, h22 x hx2]) (by rw [pgRm_l]; rfl) (by rw [← e3]; exact nl)
    rw [pgRm_s] at pt
    exact ih (j + 1) (by omega) hj3 pt
  · intro F_2 l5_2 x1 x2 x3 x4 x5 x6 x7 x8 x9 x10 x11 x12 x13 x14 k e1 h1 h2 h3 h4 h5 h6 h7 h8 h9 h10 h11 h12 h13 h14 h15 h16 h17 h18 h19 h20 h21 h22 h23 h24 h25 h26 h27 h28 h29 h30 h31 h32 h33 h34 h35 h36 h37 ih
    intro j hj hj2 hx
    have hB := hB2 b hb
    rw [← hc1] at hB
    obtain ⟨ll, nn, pp, ss, v1, ⟨g1, g2, g3⟩, v3, v4, v5, -⟩ := show rk_2 γ c1 (F_2 c1) from RS_o h2 hB
    have ex1 : x1 = rwL γ el q0 b := by
      rw [← h7, v1]
      show ll = γ 14 (el (γ 14 q0) b)
      rw [← hc1, g1]
    have m : γ 2 (rwL γ el q0 b) + 1 = Q.2.1 b := (hx.2.1 b hb).1
    rw [ex1] at h8
    have e3 : x3 = rAt γ el q0 b j := by
      rw [h13, ex1, show l5_2.toInt.toNat = j by rw [hj]; rfl]
      exact (if_pos (show j < γ 2 (rwL γ el q0 b) by omega)).symm
    have hj3 : j < Q.2.1 b := by omega
    have k3 := (rAt_k (j := j) h2 hc hcf (show b < γ 6 f by omega)).1
    rw [← e3] at k3
    have s3 : rwS (F_2 x3) := rwS_1 (RS_o h2 k3)
    have hl := hx.2.2 b hb j (show j ≤ γ 2 (rwL γ el q0 b) by omega)
    rw [← e3] at hl
    unfold lnQ at hl
    rw [pgRm_l] at hl
    have uA := uA_tr h18
    have uB := uB_tr h27
    have uS := ss_tr h35
    obtain ⟨z1, z10, z11, z12, z13, z14, z15, z16⟩ := cw_2 s3 h23
    obtain ⟨z2, z20, z21, z22, z23, z24, z25, z26⟩ := cw_3 z1 h32
    have f0 : fI (x12 x3) 0 = fI (F_2 x3) 0 := by rw [z20, z10]
    have f1 : fI (x12 x3) 1 = fI (F_2 x3) 1 := by rw [z21, z11]
    have f2 : fI (x12 x3) 2 = a2 := by rw [z22, z12]
    have f3 : fI (x12 x3) 3 = a2 := by rw [z23]
    have f4 : fI (x12 x3) 4 = fI (F_2 x3) 4 := by rw [z24, z14]
    have f5 : fI (x12 x3) 5 = fI (F_2 x3) 5 := by rw [z25, z15]
    have f6 : fI (x12 x3) 6 = fI (F_2 x3) 6 := by rw [z26, z16]
    have r15 : fI (F_2 x3) 0 = x4 := h15
    have r16 : fI (F_2 x3) 5 = x5 := h16
    have r20 : fI (F_2 x3) 2 = x7 := h20
    have r24 : fI (F_2 x3) 0 = x4 := by rw [← h24, z10]
    have r25 : fI (F_2 x3) 6 = x9 := by rw [← h25, z16]
    have r29 : fI (F_2 x3) 3 = x11 := by rw [← h29, z13]
    have r33 : fI (F_2 x3) 0 = x4 := by rw [← h33, z20, z10]
    have nl := rn_ln hw hv (qk_l hO hb hj3) hl f0 f4 f5 f6 (by unfold chA; rw [r15, r16, r20]; exact Or.inl ⟨by omega, by rw [f2]⟩) (by unfold chB; rw [r15, r25, r29]; exact Or.inl ⟨by omega, by rw [f3]⟩) (by unfold chT; rw [r15]; exact Or.inr ⟨by omega, f1⟩)
    have pt := rfX_put (F1 := x12) (Q := pgRm Q a1.toInt a2.toInt b j) (b := b) (j := j) (l := rnL a1.toInt a2.toInt (Q.2.2.1 b j)) h2 hc hcf hQ6 hx hB2 hb hj3 (by rw [← e3]; exact fun x hx2 => by rw [h31 x hx2, h22 x hx2]) (by rw [pgRm_l]; rfl) (by rw [← e3]; exact nl)
    rw [pgRm_s] at pt
    exact ih (j + 1) (by omega) hj3 pt
  · intro F_2 l5_2 x1 x2 x3 x4 x5 x6 x7 x8 x9 x10 x11 x12 x13 x14 x15 k e1 h1 h2 h3 h4 h5 h6 h7 h8 h9 h10 h11 h12 h13 h14 h15 h16 h17 h18 h19 h20 h21 h22 h23 h24 h25 h26 h27 h28 h29 h30 h31 h32 h33 h34 h35 h36 h37 h38 h39 ih
    intro j hj hj2 hx
    have hB := hB2 b hb
    rw [← hc1] at hB
    obtain ⟨ll, nn, pp, ss, v1, ⟨g1, g2, g3⟩, v3, v4, v5, -⟩ := show rk_2 γ c1 (F_2 c1) from RS_o h2 hB
    have ex1 : x1 = rwL γ el q0 b := by
      rw [← h7, v1]
      show ll = γ 14 (el (γ 14 q0) b)
      rw [← hc1, g1]
    have m : γ 2 (rwL γ el q0 b) + 1 = Q.2.1 b := (hx.2.1 b hb).1
    rw [ex1] at h8
    have e3 : x3 = rAt γ el q0 b j := by
      rw [h13, ex1, show l5_2.toInt.toNat = j by rw [hj]; rfl]
      exact (if_pos (show j < γ 2 (rwL γ el q0 b) by omega)).symm
    have hj3 : j < Q.2.1 b := by omega
    have k3 := (rAt_k (j := j) h2 hc hcf (show b < γ 6 f by omega)).1
    rw [← e3] at k3
    have s3 : rwS (F_2 x3) := rwS_1 (RS_o h2 k3)
    have hl := hx.2.2 b hb j (show j ≤ γ 2 (rwL γ el q0 b) by omega)
    rw [← e3] at hl
    unfold lnQ at hl
    rw [pgRm_l] at hl
    have uA := uA_tr h18
    have uB := uB_tr h27
    have uS := ss_tr h35
    obtain ⟨z1, z10, z11, z12, z13, z14, z15, z16⟩ := cw_2 s3 h23
    obtain ⟨z2, z20, z21, z22, z23, z24, z25, z26⟩ := cw_3 z1 h32
    have f0 : fI (x12 x3) 0 = fI (F_2 x3) 0 := by rw [z20, z10]
    have f1 : fI (x12 x3) 1 = fI (F_2 x3) 1 := by rw [z21, z11]
    have f2 : fI (x12 x3) 2 = a2 := by rw [z22, z12]
    have f3 : fI (x12 x3) 3 = a2 := by rw [z23]
    have f4 : fI (x12 x3) 4 = fI (F_2 x3) 4 := by rw [z24, z14]
    have f5 : fI (x12 x3) 5 = fI (F_2 x3) 5 := by rw [z25, z15]
    have f6 : fI (x12 x3) 6 = fI (F_2 x3) 6 := by rw [z26, z16]
    have r15 : fI (F_2 x3) 0 = x4 := h15
    have r16 : fI (F_2 x3) 5 = x5 := h16
    have r20 : fI (F_2 x3) 2 = x7 := h20
    have r24 : fI (F_2 x3) 0 = x4 := by rw [← h24, z10]
    have r25 : fI (F_2 x3) 6 = x9 := by rw [← h25, z16]
    have r29 : fI (F_2 x3) 3 = x11 := by rw [← h29, z13]
    have r33 : fI (F_2 x3) 0 = x4 := by rw [← h33, z20, z10]
    have r37 : fI (F_2 x3) 1 = x14 := by rw [← h37, z21, z11]
    have nl := rn_ln hw hv (qk_l hO hb hj3) hl f0 f4 f5 f6 (by unfold chA; rw [r15, r16, r20]; exact Or.inl ⟨by omega, by rw [f2]⟩) (by unfold chB; rw [r15, r25, r29]; exact Or.inl ⟨by omega, by rw [f3]⟩) (by unfold chT; rw [r15, r37]; first | exact Or.inr ⟨by omega, f1.trans r37⟩ | exact Or.inr ⟨by omega, rfl⟩)
    have pt := rfX_put (F1 := x12) (Q := pgRm Q a1.toInt a2.toInt b j) (b := b) (j := j) (l := rnL a1.toInt a2.toInt (Q.2.2.1 b j)) h2 hc hcf hQ6 hx hB2 hb hj3 (by rw [← e3]; exact fun x hx2 => by rw [h31 x hx2, h22 x hx2]) (by rw [pgRm_l]; rfl) (by rw [← e3]; exact nl)
    rw [pgRm_s] at pt
    exact ih (j + 1) (by omega) hj3 pt
  · intro F_2 l5_2 x1 x2 x3 x4 x5 x6 x7 x8 x9 x10 x11 x12 x13 x14 x15 x16 k e1 h1 h2 h3 h4 h5 h6 h7 h8 h9 h10 h11 h12 h13 h14 h15 h16 h17 h18 h19 h20 h21 h22 h23 h24 h25 h26 h27 h28 h29 h30 h31 h32 h33 h34 h35 h36 h37 h38 h39 h40 h41 ih
    intro j hj hj2 hx
    have hB := hB2 b hb
    rw [← hc1] at hB
    obtain ⟨ll, nn, pp, ss, v1, ⟨g1, g2, g3⟩, v3, v4, v5, -⟩ := show rk_2 γ c1 (F_2 c1) from RS_o h2 hB
    have ex1 : x1 = rwL γ el q0 b := by
      rw [← h7, v1]
      show ll = γ 14 (el (γ 14 q0) b)
      rw [← hc1, g1]
    have m : γ 2 (rwL γ el q0 b) + 1 = Q.2.1 b := (hx.2.1 b hb).1
    rw [ex1] at h8
    have e3 : x3 = rAt γ el q0 b j := by
      rw [h13, ex1, show l5_2.toInt.toNat = j by rw [hj]; rfl]
      exact (if_pos (show j < γ 2 (rwL γ el q0 b) by omega)).symm
    have hj3 : j < Q.2.1 b := by omega
    have k3 := (rAt_k (j := j) h2 hc hcf (show b < γ 6 f by omega)).1
    rw [← e3] at k3
    have s3 : rwS (F_2 x3) := rwS_1 (RS_o h2 k3)
    have hl := hx.2.2 b hb j (show j ≤ γ 2 (rwL γ el q0 b) by omega)
    rw [← e3] at hl
    unfold lnQ at hl
    rw [pgRm_l] at hl
    have uA := uA_tr h18
    have uB := uB_tr h27
    have uS := ss_tr h35
    obtain ⟨z1, z10, z11, z12, z13, z14, z15, z16⟩ := cw_2 s3 h23
    obtain ⟨z2, z20, z21, z22, z23, z24, z25, z26⟩ := cw_3 z1 h32
    obtain ⟨z3, z30, z31, z32, z33, z34, z35, z36⟩ := cw_1 z2 h40
    have f0 : fI (x15 x3) 0 = fI (F_2 x3) 0 := by rw [z30, z20, z10]
    have f1 : fI (x15 x3) 1 = a2 := by rw [z31]
    have f2 : fI (x15 x3) 2 = a2 := by rw [z32, z22, z12]
    have f3 : fI (x15 x3) 3 = a2 := by rw [z33, z23]
    have f4 : fI (x15 x3) 4 = fI (F_2 x3) 4 := by rw [z34, z24, z14]
    have f5 : fI (x15 x3) 5 = fI (F_2 x3) 5 := by rw [z35, z25, z15]
    have f6 : fI (x15 x3) 6 = fI (F_2 x3) 6 := by rw [z36, z26, z16]
    have r15 : fI (F_2 x3) 0 = x4 := h15
    have r16 : fI (F_2 x3) 5 = x5 := h16
    have r20 : fI (F_2 x3) 2 = x7 := h20
    have r24 : fI (F_2 x3) 0 = x4 := by rw [← h24, z10]
    have r25 : fI (F_2 x3) 6 = x9 := by rw [← h25, z16]
    have r29 : fI (F_2 x3) 3 = x11 := by rw [← h29, z13]
    have r33 : fI (F_2 x3) 0 = x4 := by rw [← h33, z20, z10]
    have r37 : fI (F_2 x3) 1 = x14 := by rw [← h37, z21, z11]
    have nl := rn_ln hw hv (qk_l hO hb hj3) hl f0 f4 f5 f6 (by unfold chA; rw [r15, r16, r20]; exact Or.inl ⟨by omega, by rw [f2]⟩) (by unfold chB; rw [r15, r25, r29]; exact Or.inl ⟨by omega, by rw [f3]⟩) (by unfold chT; rw [r15, r37]; exact Or.inl ⟨by omega, by rw [f1]⟩)
    have pt := rfX_put (F1 := x15) (Q := pgRm Q a1.toInt a2.toInt b j) (b := b) (j := j) (l := rnL a1.toInt a2.toInt (Q.2.2.1 b j)) h2 hc hcf hQ6 hx hB2 hb hj3 (by rw [← e3]; exact fun x hx2 => by rw [h39 x hx2, h31 x hx2, h22 x hx2]) (by rw [pgRm_l]; rfl) (by rw [← e3]; exact nl)
    rw [pgRm_s] at pt
    exact ih (j + 1) (by omega) hj3 pt
theorem rr2_tl {a2 : Int32} {a1 : Int32} {q0 : Nat} {s1 : Nat → va_E} {s2 : Int32} {k : Nat} {e1 : Nat → va_E} (hc : γ 0 q0 = 9) (hcf : γ 1 q0 = f) (hQ6 : γ 6 f = Q.1) (hB2 : ∀ i, i < Q.1 → γ 0 (el (γ 14 q0) i) = 2) (hO : qOk Q) (hw : 0 ≤ a1.toInt) (hv : 0 ≤ a2.toInt) (h : tl_RModel_rename_2 D I γ el P F a2 a1 q0 s1 s2 k e1) : ∀ b : Nat, s2.toInt = (b : Int) → b ≤ Q.1 → rfX γ el s1 q0 (pgRm Q a1.toInt a2.toInt b 0) → rfX γ el e1 q0 (pgRm Q a1.toInt a2.toInt Q.1 0) := by
  refine h (fun s1 s2 _ e1 => ∀ b : Nat, s2.toInt = (b : Int) → b ≤ Q.1 → rfX γ el s1 q0 (pgRm Q a1.toInt a2.toInt b 0) → rfX γ el e1 q0 (pgRm Q a1.toInt a2.toInt Q.1 0)) ?_ ?_
  · intro F_1 l3_1 x1 h1 h2 h3 h4 h5 h6 h7 h8
    intro b hb hb2 hx
    have q := hx.1
    have q' : (fI (F_1 q0) 3).toInt = (Q.1 : Int) := q
    rw [h7] at q'
    rw [show Q.1 = b by omega]
    exact hx
  · intro F_1 l3_1 x1 x2 x3 x4 x5 x6 k e1 h1 h2 h3 h4 h5 h6 h7 h8 h9 h10 h11 h12 h13 h14 ih
    intro b hb hb2 hx
    have q' : (fI (F_1 q0) 3).toInt = (Q.1 : Int) := hx.1
    rw [h7] at q'
    have hb3 : b < Q.1 := by omega
    obtain ⟨lb, lr, rn, md, w1, ⟨w2, -⟩, -⟩ := show rk_9 γ el q0 (F_1 q0) from RS_o h2 hc
    have e3 : x3 = el (γ 14 q0) b := by
      rw [h10, ← h9, w1, show l3_1.toInt.toNat = b by rw [hb]; rfl]
      show el lb b = _
      rw [w2]
    have r := rr20_tl hc hcf hQ6 hB2 hO hw hv hb3 e3 h13 0 (by decide) (Nat.zero_le _) hx
    refine ih (b + 1) (by omega) (by omega) (rfX_c r rfl (fun i hi => ⟨rfl, rfl, fun k hk => ?_⟩))
    show (if i < b + 1 ∨ (i = b + 1 ∧ k < 0) then rnL a1.toInt a2.toInt (Q.2.2.1 i k) else Q.2.2.1 i k) = (if i < b ∨ (i = b ∧ k < Q.2.1 b) then rnL a1.toInt a2.toInt (Q.2.2.1 i k) else Q.2.2.1 i k)
    have hk' : k < Q.2.1 i := hk
    by_cases e : i < b + 1
    · rw [if_pos (Or.inl e), if_pos ?_]
      by_cases e2 : i = b
      · rw [e2] at hk'; exact Or.inr ⟨e2, hk'⟩
      · exact Or.inl (by omega)
    · rw [if_neg (by omega), if_neg (by omega)]
theorem rnm_tr {q0 : Nat} {a1 : Int32} {a2 : Int32} {o1 : Nat → va_E} (hc : γ 0 q0 = 9) (hcf : γ 1 q0 = f) (hQ6 : γ 6 f = Q.1) (hB2 : ∀ i, i < Q.1 → γ 0 (el (γ 14 q0) i) = 2) (hO : qOk Q) (hw : 0 ≤ a1.toInt) (hv : 0 ≤ a2.toInt) (hq : rfX γ el F q0 Q) (h : tr_RModel_rename D I γ el P F q0 a1 a2 o1) : rfX γ el o1 q0 (pgRn Q a1.toInt a2.toInt) := by
  refine h (fun o1 => rfX γ el o1 q0 (pgRn Q a1.toInt a2.toInt)) ?_
  · intro x1 h1
    have r := rr2_tl hc hcf hQ6 hB2 hO hw hv h1 0 (by decide) (Nat.zero_le _) (rfX_c hq rfl (fun i hi => ⟨rfl, rfl, fun k hk => if_neg (by omega)⟩))
    exact rfX_c r rfl (fun i hi => ⟨rfl, rfl, fun k hk => (if_pos (Or.inl hi)).symm⟩)
theorem dgR {q0 r : Nat} {x : Int32} {g : Nat → Int64} (hT : RS D I P F γ el) (hm : γ 0 q0 = 10) (hG : ∀ n k, n < 2000 → k < 2000 → (egS γ F n k = true ↔ JJ Q n k)) (hr : r < 2000) (hF : F (γ 11 r) = .inl (I .long, 32, .inr (.inl g))) (h : tr_RModel_count g x) : x = dgc Q r := by
  refine dgc_e ⟨g, 0, fun y hy => ?_, co_tr h⟩
  have e : cL (F (γ 11 r)) = g := by rw [hF]; rfl
  by_cases c : y < 2000
  · rw [← hG r y hr c]
    unfold egS rbt gbit
    rw [e, Nat.mul_zero, Nat.zero_add]
  · refine ⟨fun z => ?_, fun z => absurd (JJ_lt z).2 c⟩
    rw [Nat.mul_zero, Nat.zero_add, ← e] at z
    exact absurd z (hi0 hT hm r y hr (by omega) hy rfl)
theorem rm33_tl {q0 : Nat} {a1 : Int32} {a2 : Int32} {a3 : Int32} {s1 : Int32} {s2 : Int32} {k : Nat} {e1 : Int32} {v u : Nat} (hT : RS D I P F γ el) (hm : γ 0 q0 = 10) (hG : ∀ n k, n < 2000 → k < 2000 → (egS γ F n k = true ↔ JJ Q n k)) (hv : a1.toInt = (v : Int)) (hu : a2.toInt = (u : Int)) (hv2 : v < 2000) (hu2 : u < 2000) (h : tl_RModel_mayMerge_33 D I γ el F q0 a1 a2 a3 s1 s2 k e1) : ∀ i : Nat, s1.toInt = (i : Int) → i ≤ 2000 → s2.toInt = (cntP (crw (JJ Q) (dgc Q) a3.toInt v u) i : Int) → e1.toInt = (cntP (crw (JJ Q) (dgc Q) a3.toInt v u) 2000 : Int) := by
  refine h (fun s1 s2 _ e1 => ∀ i : Nat, s1.toInt = (i : Int) → i ≤ 2000 → s2.toInt = (cntP (crw (JJ Q) (dgc Q) a3.toInt v u) i : Int) → e1.toInt = (cntP (crw (JJ Q) (dgc Q) a3.toInt v u) 2000 : Int)) ?_ ?_ ?_ ?_ ?_ ?_ ?_ ?_
  · intro l5_1 l4_1 h1 h2
    intro i hi hi2 hs
    rw [hs, show i = 2000 by omega]
  · intro l5_1 l4_1 x1 x2 x3 x4 x5 k e1 h1 h2 h3 h4 h5 h6 h7 h8 h9 h10 ih
    intro i hi hi2 hs
    have hi3 : i < 2000 := by omega
    have ei : l5_1.toInt.toNat = i := by rw [hi]; rfl
    rw [show a1.toInt.toNat = v by rw [hv]; rfl] at h4
    rw [show a2.toInt.toNat = u by rw [hu]; rfl] at h7
    rw [h4] at h5
    rw [h7] at h8
    have p1 := ha_tr (by omega) h6
    have p2 := ha_tr (by omega) h9
    rw [ei] at p1 p2
    have q1 := hG v i hv2 hi3
    have q2 := hG u i hu2 hi3
    rw [show egS γ F v i = rbt x2 i by unfold egS; rw [h5]; rfl] at q1
    rw [show egS γ F u i = rbt x4 i by unfold egS; rw [h8]; rfl] at q2
    have j1 : ¬ JJ Q v i := fun z => by
      have y := q1.mpr z
      rcases p1 with ⟨-, w⟩ | ⟨w, -⟩
      · rw [w] at y; cases y
      · exact absurd w (by decide)
    have j2 : ¬ JJ Q u i := fun z => by
      have y := q2.mpr z
      rcases p2 with ⟨-, w⟩ | ⟨w, -⟩
      · rw [w] at y; cases y
      · exact absurd w (by decide)
    have le := cntP_le (T := crw (JJ Q) (dgc Q) a3.toInt v u) i
    have cr : ¬ crw (JJ Q) (dgc Q) a3.toInt v u i := fun z => z.elim (fun y => j1 y.1) (fun y => y.2.1.elim j1 j2)
    have cn : cntP (crw (JJ Q) (dgc Q) a3.toInt v u) (i + 1) = cntP (crw (JJ Q) (dgc Q) a3.toInt v u) i := by
      show cntP (crw (JJ Q) (dgc Q) a3.toInt v u) i + @ite Nat (crw (JJ Q) (dgc Q) a3.toInt v u i) (Classical.propDecidable _) 1 0 = _
      rw [if_neg cr, Nat.add_zero]
    exact ih (i + 1) (by omega) (by omega) (by rw [cn]; omega)
  · intro l5_1 l4_1 x1 x2 x3 x4 x5 x6 x7 x8 x9 x10 k e1 h1 h2 h3 h4 h5 h6 h7 h8 h9 h10 h11 h12 h13 h14 h15 h16 ih
    intro i hi hi2 hs
    have hi3 : i < 2000 := by omega
    have ei : l5_1.toInt.toNat = i := by rw [hi]; rfl
    rw [show a1.toInt.toNat = v by rw [hv]; rfl] at h4
    rw [show a2.toInt.toNat = u by rw [hu]; rfl] at h7
    rw [h4] at h5
    rw [h7] at h8
    have p1 := ha_tr (by omega) h6
    have p2 := ha_tr (by omega) h9
    rw [ei] at p1 p2
    have q1 := hG v i hv2 hi3
    have q2 := hG u i hu2 hi3
    rw [show egS γ F v i = rbt x2 i by unfold egS; rw [h5]; rfl] at q1
    rw [show egS γ F u i = rbt x4 i by unfold egS; rw [h8]; rfl] at q2
    have j1 : ¬ JJ Q v i := fun z => by
      have y := q1.mpr z
      rcases p1 with ⟨-, w⟩ | ⟨w, -⟩
      · rw [w] at y; cases y
      · exact absurd w (by decide)
    have j2 : JJ Q u i := q2.mp (p2.elim (fun z => absurd z.1 (by decide)) (fun z => z.2))
    rw [ei] at h10
    rw [h10] at h11
    have dg := dgR hT hm hG hi3 h11 h12
    have e8 : x8.toInt = (dgc Q i).toInt := by rw [← dg]; omega
    have cr : ¬ crw (JJ Q) (dgc Q) a3.toInt v u i := fun z => z.elim (fun y => j1 y.1) (fun y => by have := y.2.2; omega)
    have le := cntP_le (T := crw (JJ Q) (dgc Q) a3.toInt v u) i
    have cn : cntP (crw (JJ Q) (dgc Q) a3.toInt v u) (i + 1) = cntP (crw (JJ Q) (dgc Q) a3.toInt v u) i := by
      show cntP (crw (JJ Q) (dgc Q) a3.toInt v u) i + @ite Nat (crw (JJ Q) (dgc Q) a3.toInt v u i) (Classical.propDecidable _) 1 0 = _
      rw [if_neg cr, Nat.add_zero]
    exact ih (i + 1) (by omega) (by omega) (by rw [cn]; omega)
  · intro l5_1 l4_1 x1 x2 x3 x4 x5 x6 x7 x8 x9 x10 k e1 h1 h2 h3 h4 h5 h6 h7 h8 h9 h10 h11 h12 h13 h14 h15 h16 ih
    intro i hi hi2 hs
    have hi3 : i < 2000 := by omega
    have ei : l5_1.toInt.toNat = i := by rw [hi]; rfl
    rw [show a1.toInt.toNat = v by rw [hv]; rfl] at h4
    rw [show a2.toInt.toNat = u by rw [hu]; rfl] at h7
    rw [h4] at h5
    rw [h7] at h8
    have p1 := ha_tr (by omega) h6
    have p2 := ha_tr (by omega) h9
    rw [ei] at p1 p2
    have q1 := hG v i hv2 hi3
    have q2 := hG u i hu2 hi3
    rw [show egS γ F v i = rbt x2 i by unfold egS; rw [h5]; rfl] at q1
    rw [show egS γ F u i = rbt x4 i by unfold egS; rw [h8]; rfl] at q2
    have j1 : ¬ JJ Q v i := fun z => by
      have y := q1.mpr z
      rcases p1 with ⟨-, w⟩ | ⟨w, -⟩
      · rw [w] at y; cases y
      · exact absurd w (by decide)
    have j2 : JJ Q u i := q2.mp (p2.elim (fun z => absurd z.1 (by decide)) (fun z => z.2))
    rw [ei] at h10
    rw [h10] at h11
    have dg := dgR hT hm hG hi3 h11 h12
    have e8 : x8.toInt = (dgc Q i).toInt := by rw [← dg]; omega
    have cr : crw (JJ Q) (dgc Q) a3.toInt v u i := Or.inr ⟨fun z => j1 z.1, Or.inr j2, by omega⟩
    have le := cntP_le (T := crw (JJ Q) (dgc Q) a3.toInt v u) i
    have cn : cntP (crw (JJ Q) (dgc Q) a3.toInt v u) (i + 1) = cntP (crw (JJ Q) (dgc Q) a3.toInt v u) i + 1 := by
      show cntP (crw (JJ Q) (dgc Q) a3.toInt v u) i + @ite Nat (crw (JJ Q) (dgc Q) a3.toInt v u i) (Classical.propDecidable _) 1 0 = _
      rw [if_pos cr]
    have o1 : Int32.toInt 1 = 1 := by decide
    have a9 := px_add h15 (by omega) (by omega)
    exact ih (i + 1) (by omega) (by omega) (by rw [cn]; omega)
  · intro l5_1 l4_1 x1 x2 x3 x4 x5 x6 x7 x8 x9 x10 k e1 h1 h2 h3 h4 h5 h6 h7 h8 h9 h10 h11 h12 h13 h14 h15 h16 ih
    intro i hi hi2 hs
    have hi3 : i < 2000 := by omega
    have ei : l5_1.toInt.toNat = i := by rw [hi]; rfl
    rw [show a1.toInt.toNat = v by rw [hv]; rfl] at h4
    rw [show a2.toInt.toNat = u by rw [hu]; rfl] at h7
    rw [h4] at h5
    rw [h7] at h8
    have p1 := ha_tr (by omega) h6
    have p2 := ha_tr (by omega) h9
    rw [ei] at p1 p2
    have q1 := hG v i hv2 hi3
    have q2 := hG u i hu2 hi3
    rw [show egS γ F v i = rbt x2 i by unfold egS; rw [h5]; rfl] at q1
    rw [show egS γ F u i = rbt x4 i by unfold egS; rw [h8]; rfl] at q2
    have j1 : JJ Q v i := q1.mp (p1.elim (fun z => absurd z.1 (by decide)) (fun z => z.2))
    have j2 : ¬ JJ Q u i := fun z => by
      have y := q2.mpr z
      rcases p2 with ⟨-, w⟩ | ⟨w, -⟩
      · rw [w] at y; cases y
      · exact absurd w (by decide)
    rw [ei] at h10
    rw [h10] at h11
    have dg := dgR hT hm hG hi3 h11 h12
    have e8 : x8.toInt = (dgc Q i).toInt := by rw [← dg]; omega
    have cr : ¬ crw (JJ Q) (dgc Q) a3.toInt v u i := fun z => z.elim (fun y => j2 y.2.1) (fun y => by have := y.2.2; omega)
    have le := cntP_le (T := crw (JJ Q) (dgc Q) a3.toInt v u) i
    have cn : cntP (crw (JJ Q) (dgc Q) a3.toInt v u) (i + 1) = cntP (crw (JJ Q) (dgc Q) a3.toInt v u) i := by
      show cntP (crw (JJ Q) (dgc Q) a3.toInt v u) i + @ite Nat (crw (JJ Q) (dgc Q) a3.toInt v u i) (Classical.propDecidable _) 1 0 = _
      rw [if_neg cr, Nat.add_zero]
    exact ih (i + 1) (by omega) (by omega) (by rw [cn]; omega)
  · intro l5_1 l4_1 x1 x2 x3 x4 x5 x6 x7 x8 x9 x10 k e1 h1 h2 h3 h4 h5 h6 h7 h8 h9 h10 h11 h12 h13 h14 h15 h16 ih
    intro i hi hi2 hs
    have hi3 : i < 2000 := by omega
    have ei : l5_1.toInt.toNat = i := by rw [hi]; rfl
    rw [show a1.toInt.toNat = v by rw [hv]; rfl] at h4
    rw [show a2.toInt.toNat = u by rw [hu]; rfl] at h7
    rw [h4] at h5
    rw [h7] at h8
    have p1 := ha_tr (by omega) h6
    have p2 := ha_tr (by omega) h9
    rw [ei] at p1 p2
    have q1 := hG v i hv2 hi3
    have q2 := hG u i hu2 hi3
    rw [show egS γ F v i = rbt x2 i by unfold egS; rw [h5]; rfl] at q1
    rw [show egS γ F u i = rbt x4 i by unfold egS; rw [h8]; rfl] at q2
    have j1 : JJ Q v i := q1.mp (p1.elim (fun z => absurd z.1 (by decide)) (fun z => z.2))
    have j2 : ¬ JJ Q u i := fun z => by
      have y := q2.mpr z
      rcases p2 with ⟨-, w⟩ | ⟨w, -⟩
      · rw [w] at y; cases y
      · exact absurd w (by decide)
    rw [ei] at h10
    rw [h10] at h11
    have dg := dgR hT hm hG hi3 h11 h12
    have e8 : x8.toInt = (dgc Q i).toInt := by rw [← dg]; omega
    have cr : crw (JJ Q) (dgc Q) a3.toInt v u i := Or.inr ⟨fun z => j2 z.2, Or.inl j1, by omega⟩
    have le := cntP_le (T := crw (JJ Q) (dgc Q) a3.toInt v u) i
    have cn : cntP (crw (JJ Q) (dgc Q) a3.toInt v u) (i + 1) = cntP (crw (JJ Q) (dgc Q) a3.toInt v u) i + 1 := by
      show cntP (crw (JJ Q) (dgc Q) a3.toInt v u) i + @ite Nat (crw (JJ Q) (dgc Q) a3.toInt v u i) (Classical.propDecidable _) 1 0 = _
      rw [if_pos cr]
    have o1 : Int32.toInt 1 = 1 := by decide
    have a9 := px_add h15 (by omega) (by omega)
    exact ih (i + 1) (by omega) (by omega) (by rw [cn]; omega)
  · intro l5_1 l4_1 x1 x2 x3 x4 x5 x6 x7 x8 x9 x10 k e1 h1 h2 h3 h4 h5 h6 h7 h8 h9 h10 h11 h12 h13 h14 h15 h16 ih
    intro i hi hi2 hs
    have hi3 : i < 2000 := by omega
    have ei : l5_1.toInt.toNat = i := by rw [hi]; rfl
    rw [show a1.toInt.toNat = v by rw [hv]; rfl] at h4
    rw [show a2.toInt.toNat = u by rw [hu]; rfl] at h7
    rw [h4] at h5
    rw [h7] at h8
    have p1 := ha_tr (by omega) h6
    have p2 := ha_tr (by omega) h9
    rw [ei] at p1 p2
    have q1 := hG v i hv2 hi3
    have q2 := hG u i hu2 hi3
    rw [show egS γ F v i = rbt x2 i by unfold egS; rw [h5]; rfl] at q1
    rw [show egS γ F u i = rbt x4 i by unfold egS; rw [h8]; rfl] at q2
    have j1 : JJ Q v i := q1.mp (p1.elim (fun z => absurd z.1 (by decide)) (fun z => z.2))
    have j2 : JJ Q u i := q2.mp (p2.elim (fun z => absurd z.1 (by decide)) (fun z => z.2))
    rw [ei] at h10
    rw [h10] at h11
    have dg := dgR hT hm hG hi3 h11 h12
    rw [h13, dg] at h14
    have cr : ¬ crw (JJ Q) (dgc Q) a3.toInt v u i := fun z => z.elim (fun y => by have := y.2.2; omega) (fun y => y.1 ⟨j1, j2⟩)
    have le := cntP_le (T := crw (JJ Q) (dgc Q) a3.toInt v u) i
    have cn : cntP (crw (JJ Q) (dgc Q) a3.toInt v u) (i + 1) = cntP (crw (JJ Q) (dgc Q) a3.toInt v u) i := by
      show cntP (crw (JJ Q) (dgc Q) a3.toInt v u) i + @ite Nat (crw (JJ Q) (dgc Q) a3.toInt v u i) (Classical.propDecidable _) 1 0 = _
      rw [if_neg cr, Nat.add_zero]
    exact ih (i + 1) (by omega) (by omega) (by rw [cn]; omega)
  · intro l5_1 l4_1 x1 x2 x3 x4 x5 x6 x7 x8 x9 x10 k e1 h1 h2 h3 h4 h5 h6 h7 h8 h9 h10 h11 h12 h13 h14 h15 h16 ih
    intro i hi hi2 hs
    have hi3 : i < 2000 := by omega
    have ei : l5_1.toInt.toNat = i := by rw [hi]; rfl
    rw [show a1.toInt.toNat = v by rw [hv]; rfl] at h4
    rw [show a2.toInt.toNat = u by rw [hu]; rfl] at h7
    rw [h4] at h5
    rw [h7] at h8
    have p1 := ha_tr (by omega) h6
    have p2 := ha_tr (by omega) h9
    rw [ei] at p1 p2
    have q1 := hG v i hv2 hi3
    have q2 := hG u i hu2 hi3
    rw [show egS γ F v i = rbt x2 i by unfold egS; rw [h5]; rfl] at q1
    rw [show egS γ F u i = rbt x4 i by unfold egS; rw [h8]; rfl] at q2
    have j1 : JJ Q v i := q1.mp (p1.elim (fun z => absurd z.1 (by decide)) (fun z => z.2))
    have j2 : JJ Q u i := q2.mp (p2.elim (fun z => absurd z.1 (by decide)) (fun z => z.2))
    rw [ei] at h10
    rw [h10] at h11
    have dg := dgR hT hm hG hi3 h11 h12
    rw [h13, dg] at h14
    have cr : crw (JJ Q) (dgc Q) a3.toInt v u i := Or.inl ⟨j1, j2, h14⟩
    have le := cntP_le (T := crw (JJ Q) (dgc Q) a3.toInt v u) i
    have cn : cntP (crw (JJ Q) (dgc Q) a3.toInt v u) (i + 1) = cntP (crw (JJ Q) (dgc Q) a3.toInt v u) i + 1 := by
      show cntP (crw (JJ Q) (dgc Q) a3.toInt v u) i + @ite Nat (crw (JJ Q) (dgc Q) a3.toInt v u i) (Classical.propDecidable _) 1 0 = _
      rw [if_pos cr]
    have o1 : Int32.toInt 1 = 1 := by decide
    have a9 := px_add h15 (by omega) (by omega)
    exact ih (i + 1) (by omega) (by omega) (by rw [cn]; omega)
theorem rmm_tr {q0 : Nat} {a1 : Int32} {a2 : Int32} {a3 : Int32} {o1 : Int32} {v u : Nat} (hT : RS D I P F γ el) (hm : γ 0 q0 = 10) (hG : ∀ n k, n < 2000 → k < 2000 → (egS γ F n k = true ↔ JJ Q n k)) (hv : a1.toInt = (v : Int)) (hu : a2.toInt = (u : Int)) (h : tr_RModel_mayMerge D I γ el F q0 a1 a2 a3 o1) : o1.toInt ≠ 0 ↔ mgc Q a3.toInt v u := by
  have z : cntP (crw (JJ Q) (dgc Q) a3.toInt v u) 2048 = cntP (crw (JJ Q) (dgc Q) a3.toInt v u) 2000 := by
    refine cntP_zz (by decide) (fun r hr q => ?_)
    have hl : JJ Q v r ∨ JJ Q u r := q.elim (fun y => Or.inl y.1) (fun y => y.2.1)
    have := hl.elim (fun y => (JJ_lt y).2) (fun y => (JJ_lt y).2)
    omega
  refine h (fun o1 => o1.toInt ≠ 0 ↔ mgc Q a3.toInt v u) ?_ ?_ ?_ ?_ ?_
  · intro h1
    rw [px_0]
    exact ⟨fun y => absurd rfl y, fun y => by have a := y.1; have b := y.2.1; omega⟩
  · intro h1 h2
    rw [px_0]
    exact ⟨fun y => absurd rfl y, fun y => by have a := y.1; have b := y.2.1; omega⟩
  · intro x1 x2 x3 h1 h2 h3 h4 h5 h6 h7 h8
    rw [show a1.toInt.toNat = v by rw [hv]; rfl] at h4
    rw [h4] at h5
    have p1 := ha_tr (by omega) h6
    rw [show a2.toInt.toNat = u by rw [hu]; rfl] at p1
    have q1 := hG v u (by omega) (by omega)
    rw [show egS γ F v u = rbt x2 u by unfold egS; rw [h5]; rfl] at q1
    have nj : ¬ JJ Q v u := fun w => by
      have y := q1.mpr w
      rcases p1 with ⟨-, k⟩ | ⟨k, -⟩
      · rw [k] at y; cases y
      · exact absurd k (by decide)
    have r := rm33_tl hT hm hG hv hu (by omega) (by omega) h7 0 (by decide) (Nat.zero_le _) (by rfl)
    rw [px_0]
    exact ⟨fun y => absurd rfl y, fun y => by have q := y.2.2.2; rw [z] at q; omega⟩
  · intro x1 x2 x3 h1 h2 h3 h4 h5 h6 h7 h8
    rw [show a1.toInt.toNat = v by rw [hv]; rfl] at h4
    rw [h4] at h5
    have p1 := ha_tr (by omega) h6
    rw [show a2.toInt.toNat = u by rw [hu]; rfl] at p1
    have q1 := hG v u (by omega) (by omega)
    rw [show egS γ F v u = rbt x2 u by unfold egS; rw [h5]; rfl] at q1
    have nj : ¬ JJ Q v u := fun w => by
      have y := q1.mpr w
      rcases p1 with ⟨-, k⟩ | ⟨k, -⟩
      · rw [k] at y; cases y
      · exact absurd k (by decide)
    have r := rm33_tl hT hm hG hv hu (by omega) (by omega) h7 0 (by decide) (Nat.zero_le _) (by rfl)
    rw [px_1]
    exact ⟨fun _ => ⟨by omega, by omega, nj, by rw [z]; omega⟩, fun _ => by decide⟩
  · intro x1 x2 h1 h2 h3 h4 h5 h6
    rw [show a1.toInt.toNat = v by rw [hv]; rfl] at h4
    rw [h4] at h5
    have p1 := ha_tr (by omega) h6
    rw [show a2.toInt.toNat = u by rw [hu]; rfl] at p1
    have q1 := hG v u (by omega) (by omega)
    rw [show egS γ F v u = rbt x2 u by unfold egS; rw [h5]; rfl] at q1
    rw [px_0]
    exact ⟨fun y => absurd rfl y, fun y => absurd (q1.mp (p1.elim (fun z => absurd z.1 (by decide)) (fun z => z.2))) y.2.2.1⟩
end MRR
end
