/-! rows v = 0 in front -/
noncomputable def pz (Q : gPg) (T : Nat → Prop) (n : Nat) : gPg := (Q.1, fun b => if b = 0 then cntP T n + Q.2.1 0 else Q.2.1 b, fun b j => if b = 0 then (if j < cntP T n then mkL 14 (nthT T 100 j : Int) (-1) 0 (-1) 0 else Q.2.2.1 0 (j - cntP T n)) else Q.2.2.1 b j, Q.2.2.2)
theorem cnt_n {T : Nat → Prop} {n : Nat} (h : ¬ T n) : cntP T (n + 1) = cntP T n := by
  show cntP T n + @ite Nat (T n) (Classical.propDecidable (T n)) 1 0 = cntP T n
  rw [if_neg h]; rfl
theorem cnt_y {T : Nat → Prop} {n : Nat} (h : T n) : cntP T (n + 1) = cntP T n + 1 := by
  show cntP T n + @ite Nat (T n) (Classical.propDecidable (T n)) 1 0 = cntP T n + 1
  rw [if_pos h]
theorem pz_n {Q : gPg} {T : Nat → Prop} {n : Nat} (h : ¬ T n) : pz Q T (n + 1) = pz Q T n := by
  unfold pz
  rw [cnt_n h]
theorem pz_0 {Q : gPg} {T : Nat → Prop} : ∀ b, (pz Q T 0).2.1 b = Q.2.1 b ∧ ∀ j, (pz Q T 0).2.2.1 b j = Q.2.2.1 b j := fun b => by
  show (if b = 0 then 0 + Q.2.1 0 else Q.2.1 b) = Q.2.1 b ∧ ∀ j, (if b = 0 then (if j < 0 then mkL 14 (nthT T 100 j : Int) (-1) 0 (-1) 0 else Q.2.2.1 0 (j - 0)) else Q.2.2.1 b j) = Q.2.2.1 b j
  by_cases e : b = 0
  · rw [if_pos e, e]
    exact ⟨by omega, fun j => by rw [if_pos rfl, if_neg (Nat.not_lt_zero j)]; rfl⟩
  · rw [if_neg e]
    exact ⟨rfl, fun j => if_neg e⟩
theorem pz_f {Q : gPg} {T : Nat → Prop} {m : Nat} : ∀ d, (∀ v, m ≤ v → ¬ T v) → pz Q T (m + d) = pz Q T m
  | 0, _ => rfl
  | d + 1, h => by rw [show m + (d + 1) = (m + d) + 1 by omega, pz_n (h _ (by omega)), pz_f d h]
section ZRS
variable {D : va_G} {I : FieldType → ClassId} {P P1 : List Nat} {F F1 : Nat → va_E} {γ γ1 el el1 : Nat → Nat → Nat} {f c q0 x : Nat} {Q : gPg} {K KF : List Nat} {T : Nat → Prop}
theorem rfW_st (hT : RS D I P F γ el) (h : rfW γ el F c Q) (c0 : γ 0 c = 9) (hB2 : ∀ i, i < Q.1 → γ 0 (el (γ 14 c) i) = 2) (sk : rSk f K KF D I P F γ el P1 F1 γ1 el1) (hK : 1 ∉ KF ∧ 2 ∉ KF) (hc3 : (fI (F1 c) 3).toInt = (fI (F c) 3).toInt) (hc : el1 (γ 14 c) = el (γ 14 c)) (hl : ∀ a, γ 0 a = 3 → γ1 2 a = γ 2 a ∧ el1 a = el a) : rfW γ1 el1 F1 c Q := by
  have e14 : γ1 14 c = γ 14 c := (rSk_s sk (show rKd γ c 9 from c0) (by decide)).2.1
  refine ⟨hc3.trans h.1, trivial, fun b hb => ?_⟩
  rw [e14, hc]
  have hB := hB2 b hb
  obtain ⟨-, s14, s15, -⟩ := rSk_s sk (show rKd γ _ 2 from hB) (by decide)
  exact rfBw_c hT hB (h.2.2 b hb) (hF_sk sk hK) s14 s15 (hl _ (rfB_l hT hB).1)
theorem rfW_ow {W : List Nat} (hT : RS D I P F γ el) (h : rfW γ el F c Q) (c0 : γ 0 c = 9) (hB2 : ∀ i, i < Q.1 → γ 0 (el (γ 14 c) i) = 2) (hfr : rFr W P F F1) (hW : ∀ w, w ∈ W → γ 0 w ≠ 1 ∧ γ 0 w ≠ 2 ∧ γ 0 w ≠ 9) : rfW γ el F1 c Q := by
  refine ⟨by rw [hfr c (hT.1 c (by omega)) (fun z => (hW c z).2.2 c0)]; exact h.1, trivial, fun b hb => ?_⟩
  exact rfBw_c hT (hB2 b hb) (h.2.2 b hb) (hF_ow hT hfr (fun w hw => ⟨(hW w hw).1, (hW w hw).2.1⟩)) rfl rfl ⟨rfl, rfl⟩
/-- a row v = 0 more -/
theorem rfW_ins {n : Nat} (hT : RS D I P F γ el) (h : rfW γ el F c (pz Q T n)) (hP0 : 0 < Q.1) (hL0 : 0 < Q.2.1 0) (c0 : γ 0 c = 9) (hB2 : ∀ i, i < Q.1 → γ 0 (el (γ 14 c) i) = 2) (sk : rSk f K KF D I P F γ el P1 F1 γ1 el1) (hK : 1 ∉ KF ∧ 2 ∉ KF) (h9 : 9 ∉ KF) (hc : el1 (γ 14 c) = el (γ 14 c)) (hTn : T n) (hn : n < 100)
    (h2 : γ1 2 (γ 14 (el (γ 14 c) 0)) = γ 2 (γ 14 (el (γ 14 c) 0)) + 1) (hel : ∀ i, el1 (γ 14 (el (γ 14 c) 0)) i = if i < cntP T n then el (γ 14 (el (γ 14 c) 0)) i else if i = cntP T n then x else el (γ 14 (el (γ 14 c) 0)) (i - 1)) (hl : ∀ a, γ 0 a ≠ 0 → a ≠ γ 14 (el (γ 14 c) 0) → γ1 2 a = γ 2 a ∧ el1 a = el a) (hx : F1 x = F x)
    (hr : rwF (mkL 14 (n : Int) (-1) 0 (-1) 0) (fI (F x) 0) (fI (F x) 1) (fI (F x) 2) (fI (F x) 3) (fI (F x) 5) (fI (F x) 6) (fI (F x) 4)) : rfW γ1 el1 F1 c (pz Q T (n + 1)) := by
  have e14 : γ1 14 c = γ 14 c := (rSk_s sk (show rKd γ c 9 from c0) (by decide)).2.1
  have eF : F1 c = F c := rSk_F sk (show rKd γ c 9 from c0) (by decide) h9
  refine ⟨by rw [eF]; exact h.1, trivial, fun b hb => ?_⟩
  have hB := hB2 b hb
  obtain ⟨-, s14, s15, -⟩ := rSk_s sk (show rKd γ _ 2 from hB) (by decide)
  obtain ⟨l3, l20⟩ := rfB_l hT hB
  rw [e14, hc]
  have hb0 := h.2.2 b hb
  by_cases e : b = 0
  · subst e
    obtain ⟨n0, ⟨r1, r2⟩, e3⟩ := hb0
    have eL : (pz Q T n).2.1 0 = cntP T n + Q.2.1 0 := rfl
    have eL1 : (pz Q T (n + 1)).2.1 0 = cntP T n + 1 + Q.2.1 0 := by rw [show (pz Q T (n + 1)).2.1 0 = cntP T (n + 1) + Q.2.1 0 from rfl, cnt_y hTn]
    have hln : ∀ j, (pz Q T n).2.2.1 0 j = if j < cntP T n then mkL 14 (nthT T 100 j : Int) (-1) 0 (-1) 0 else Q.2.2.1 0 (j - cntP T n) := fun j => rfl
    have hln1 : ∀ j, (pz Q T (n + 1)).2.2.1 0 j = if j < cntP T n + 1 then mkL 14 (nthT T 100 j : Int) (-1) 0 (-1) 0 else Q.2.2.1 0 (j - (cntP T n + 1)) := fun j => by
      rw [← cnt_y hTn]; rfl
    have k3 := (show rk_3 D I γ el F (γ 14 (el (γ 14 c) 0)) from RS_o hT l3).2
    rw [eL] at n0 r1 r2 e3
    have hkF := hF_sk sk hK
    obtain ⟨ll, nn, p, s, v1, ⟨g1, g2, g3⟩, v3, v4, v5, -⟩ := show rk_2 γ (el (γ 14 c) 0) (F (el (γ 14 c) 0)) from RS_o hT hB
    refine ⟨by omega, ⟨by rw [s14, h2, r1, eL1]; omega, fun j hj => ?_⟩, ?_⟩
    · rw [eL1] at hj
      rw [s14, hel j, hln1 j]
      by_cases c1 : j < cntP T n
      · rw [if_pos c1, if_pos (by omega), hkF _ (Or.inl (k3 j (by omega)).1)]
        have z := r2 j (by omega)
        rw [hln j, if_pos c1] at z
        exact z
      · rw [if_neg c1]
        by_cases c2 : j = cntP T n
        · rw [if_pos c2, if_pos (by omega), hx, c2, nthT_e hTn hn]
          exact hr
        · rw [if_neg c2, if_neg (by omega), hkF _ (Or.inl (k3 (j - 1) (by omega)).1)]
          have z := r2 (j - 1) (by omega)
          rw [hln (j - 1), if_neg (by omega), show j - 1 - cntP T n = j - (cntP T n + 1) by omega] at z
          exact z
    · rw [eL1, s15, hkF _ (Or.inl (by rw [g2]; exact v5)), hkF _ (Or.inr hB), hln1, if_neg (by omega)]
      rw [hln, if_neg (by omega)] at e3
      rw [show cntP T n + 1 + Q.2.1 0 - 1 - (cntP T n + 1) = cntP T n + Q.2.1 0 - 1 - cntP T n by omega]
      exact e3
  · have eb : (pz Q T (n + 1)).2.1 b = (pz Q T n).2.1 b ∧ (pz Q T (n + 1)).2.2.1 b = (pz Q T n).2.2.1 b := by
      constructor
      · show (if b = 0 then _ else Q.2.1 b) = if b = 0 then _ else Q.2.1 b
        rw [if_neg e, if_neg e]
      · funext j
        show (if b = 0 then _ else Q.2.2.1 b j) = if b = 0 then _ else Q.2.2.1 b j
        rw [if_neg e, if_neg e]
    rw [eb.1, eb.2]
    have l20' := (rfB_l hT (hB2 0 hP0)).2
    have k4 := (show rk_4 D I γ el F (γ 14 c) from RS_o hT ((rc_at hT c0 rfl).2.1)).2
    refine rfBw_c hT hB hb0 (hF_sk sk hK) s14 s15 (hl _ (by omega) (fun q => e ?_))
    rw [q, l20'] at l20
    have hlen : b < γ 2 (γ 14 c) ∧ 0 < γ 2 (γ 14 c) := by
      obtain ⟨lb, lr, rn, md, w1, ⟨w2, -, -⟩, -, -, -, -, -, -, -, w10, -⟩ := show rk_9 γ el c (F c) from RS_o hT c0
      have z : md.toInt = (Q.1 : Int) := by have z := h.1; rw [w1] at z; exact z
      rw [w2]
      have hb : b < Q.1 := hb
      omega
    have y1 := (k4 b hlen.1).2.2
    have y2 := (k4 0 hlen.2).2.2
    rw [← l20] at y1
    omega
theorem z10 {γ0 el0 : Nat → Nat → Nat} {Fl : Nat → va_E} {s5 s6 : Int32} {s1 e2 : List Nat} {s2 e1 : Nat → va_E} {s3 s4 e3 e4 : Nat → Nat → Nat} {kx : Nat} (hT0 : RS D I P F γ0 el0) (hm0 : γ0 0 q0 = 10) (hc9 : γ0 0 c = 9) (hcf : γ0 1 c = f) (hQ6 : γ0 6 f = Q.1) (hP0 : 0 < Q.1) (hL0 : 0 < Q.2.1 0) (hT100 : ∀ v, 100 ≤ v → ¬ T v) (hlv : ∀ k, k < 2048 → (rbt (cL (Fl (γ0 10 0))) k = true ↔ T k)) (h : tl_RModel_zeros_10 D I γ0 el0 f P F c q0 s1 s2 s3 s4 s5 s6 kx e1 e2 e3 e4) : ∀ n : Nat, s5.toInt = (n : Int) → n ≤ 2000 → s6.toInt = (cntP T n : Int) → rfW s3 s4 s2 c (pz Q T n) → s2 (γ0 10 0) = Fl (γ0 10 0) → rfW e3 e4 e1 c (pz Q T 2000) ∧ RS D I e2 e1 e3 e4 ∧ rSk f [101] ([1, 3, 5, 6, 8, 9, 101] ++ npk) D I P F γ0 el0 e2 e1 e3 e4 := by
  obtain ⟨k0, k1, k2, k3⟩ := md_kd hT0 hm0
  have kl0 := (lr_kd hT0 k0 (show 0 < 40 by decide)).1
  refine h (fun s1 s2 s3 s4 s5 s6 _ e1 e2 e3 e4 => ∀ n : Nat, s5.toInt = (n : Int) → n ≤ 2000 → s6.toInt = (cntP T n : Int) → rfW s3 s4 s2 c (pz Q T n) → s2 (γ0 10 0) = Fl (γ0 10 0) → rfW e3 e4 e1 c (pz Q T 2000) ∧ RS D I e2 e1 e3 e4 ∧ rSk f [101] ([1, 3, 5, 6, 8, 9, 101] ++ npk) D I P F γ0 el0 e2 e1 e3 e4) ?_ ?_ ?_
  · intro P_1 F_1 gm_1 el_1 l3_1 l2_1 h1 h2 h3 h4 h5 h6 h7 h8 h9 h10 h11 h12
    intro n en hn e6 hW eL
    have hTs := h3
    have hk := h4
    have c0 : gm_1 0 c = 9 := rSk_k hk (show rKd γ0 c 9 from hc9) (by decide) (by decide)
    have c1 : gm_1 1 c = f := rSk_1 hk (show rKd γ0 c 9 from hc9) (by decide) hcf
    have e : n = 2000 := by have := h12; omega
    rw [e] at hW
    exact ⟨hW, hTs, hk⟩
  · intro P_1 F_1 gm_1 el_1 l3_1 l2_1 x1 x2 x3 k e1 e2 e3 e4 h1 h2 h3 h4 h5 h6 h7 h8 h9 h10 h11 h12 h13 h14 h15 h16 h17 ih
    intro n en hn e6 hW eL
    have hTs := h3
    have hk := h4
    have c0 : gm_1 0 c = 9 := rSk_k hk (show rKd γ0 c 9 from hc9) (by decide) (by decide)
    have c1 : gm_1 1 c = f := rSk_1 hk (show rKd γ0 c 9 from hc9) (by decide) hcf
    have hlt := h12
    have e10 : gm_1 10 = γ0 10 := hk.2.2.1.2.2.2.1.2.1
    have eX1 : x1 = γ0 10 0 := by rw [h14, e10]; rfl
    have hh := ha_tr (by omega) h16
    have hcx : cL (Fl (γ0 10 0)) = x2 := by
      rw [← eL, ← eX1]
      exact cL_of h15
    rw [← hcx, show l3_1.toInt.toNat = n by omega] at hh
    have hTn : ¬ T n := fun z => by
      rcases hh with w | w
      · rw [(hlv n (by omega)).mpr z] at w; exact absurd w.2 (by decide)
      · exact absurd w.1 (by decide)
    exact ih (n + 1) (by omega) (by omega) (by rw [cnt_n hTn]; exact e6) (by rw [pz_n hTn]; exact hW) eL
  · intro P_1 F_1 gm_1 el_1 l3_1 l2_1 x1 x2 x3 x4 x5 x6 x7 x8 x9 x10 x11 x12 x13 x14 x15 x16 x17 x18 x19 x20 x21 x22 x23 x24 x25 k e1 e2 e3 e4 h1 h2 h3 h4 h5 h6 h7 h8 h9 h10 h11 h12 h13 h14 h15 h16 h17 h18 h19 h20 h21 h22 h23 h24 h25 h26 h27 h28 h29 h30 h31 ih
    intro n en hn e6 hW eL
    have hTs := h3
    have hk := h4
    have c0 : gm_1 0 c = 9 := rSk_k hk (show rKd γ0 c 9 from hc9) (by decide) (by decide)
    have c1 : gm_1 1 c = f := rSk_1 hk (show rKd γ0 c 9 from hc9) (by decide) hcf
    have hlt := h12
    have e10 : gm_1 10 = γ0 10 := hk.2.2.1.2.2.2.1.2.1
    have eX1 : x1 = γ0 10 0 := by rw [h14, e10]; rfl
    have hh := ha_tr (by omega) h16
    have hcx : cL (Fl (γ0 10 0)) = x2 := by
      rw [← eL, ← eX1]
      exact cL_of h15
    rw [← hcx, show l3_1.toInt.toNat = n by omega] at hh
    have hTn : T n := by
      rcases hh with w | w
      · exact absurd w.1 (by decide)
      · exact (hlv n (by omega)).mp w.2
    have hn100 : n < 100 := by
      refine Classical.byContradiction fun z => hT100 n (by omega) hTn
    have h6s : gm_1 6 f = Q.1 := by rw [h5]; exact hQ6
    have hB2 : ∀ i, i < Q.1 → gm_1 0 (el_1 (gm_1 14 c) i) = 2 := fun i hi => by
      obtain ⟨lb, lr, rn, md, w1, ⟨w2, -, -⟩, w3, w4, w5, w6, w7, w8, w9, w10, w11, w12, w13, w14, -⟩ := show rk_9 gm_1 el_1 c (F_1 c) from RS_o hTs c0
      have z : md.toInt = (Q.1 : Int) := by have z := hW.1; rw [w1] at z; exact z
      rw [w2]
      exact (w14 i (by omega)).resolve_right (fun z => by rw [c1] at z; omega)
    have hR := h19
    obtain ⟨st3, kr0, kr1, kr22, kr8, g16, g18, hnu3, hl3, ⟨h45, x2', x3'⟩, ⟨x5', x6', hmd3⟩, -, -, -⟩ := id hR
    have sk3 := rSk_of st3
    obtain ⟨-, a4, -, -, -⟩ := rc_at hTs c0 c1
    have hW3 : rfW x7 x8 x6 c (pz Q T n) := rfW_st hTs hW c0 hB2 sk3 (by decide) hmd3 (hl3 _ (by rw [a4]; decide) (by rw [a4]; decide)).2 (fun a ha => hl3 a (by rw [ha]; decide) (by rw [ha]; decide))
    have c03 : x7 0 c = 9 := rSk_k sk3 (show rKd gm_1 c 9 from c0) (by decide) (by decide)
    have c13 : x7 1 c = f := rSk_1 sk3 (show rKd gm_1 c 9 from c0) (by decide) c1
    have e14 : x7 14 c = gm_1 14 c := (rSk_s sk3 (show rKd gm_1 c 9 from c0) (by decide)).2.1
    have hB23 : ∀ i, i < Q.1 → x7 0 (x8 (x7 14 c) i) = 2 := fun i hi => by
      rw [e14, (hl3 _ (by rw [a4]; decide) (by rw [a4]; decide)).2]
      exact rSk_k sk3 (show rKd gm_1 _ 2 from hB2 i hi) (by decide) (by decide)
    obtain ⟨op, t, xa, xb, s, ra, rb, x1, q1, q2, q3, q4, q5, q6, q7, q8⟩ := show rkR (x6 x9) from RS_o st3.1 kr0
    have hfr : rFr [x9] x5 x6 x13 := fun b _ hb => (h22 b (fun e => hb (e ▸ List.mem_cons_self))).trans (h20 b (fun e => hb (e ▸ List.mem_cons_self)))
    have eRow : x13 x9 = .inr (20, [.int 0, .int l3_1, .int xa, .int xb, .int s, .int ra, .int rb]) := by rw [h23, h21, x1]; rfl
    have z5 : ra.toInt = 0 := by rw [x1] at x5'; exact x5'
    have z6 : rb.toInt = 0 := by rw [x1] at x6'; exact x6'
    have z2 : xa.toInt = 0 := by rw [x1] at x2'; exact x2'
    have hRk : rkR (x13 x9) := ⟨0, l3_1, xa, xb, s, ra, rb, eRow, ⟨by decide, by decide⟩, ⟨by omega, by omega⟩, q3, q4, q5, Or.inl (by decide), q7, q8⟩
    have hT13 : RS D I x5 x13 x7 x8 := RS_ow st3.1 rSub_rf hfr (wm_c (Or.inr (fit_101 kr0 hRk)) wm_n)
    have hW13 : rfW x7 x8 x13 c (pz Q T n) := rfW_ow st3.1 hW3 c03 hB23 hfr (wm_c (by rw [kr0]; decide) wm_n)
    have e17 : x17 = x7 14 (x8 (x7 14 c) 0) := by
      obtain ⟨lb, lr, rn, md, w1, ⟨w2, -, -⟩, -⟩ := show rk_9 x7 x8 c (x13 c) from RS_o hT13 c03
      have y1 : x14 = x7 14 c := by rw [← h24, w1, w2]; rfl
      have y2 : x15 = x8 (x7 14 c) 0 := by rw [h25, y1]; rfl
      have hB0 := hB23 0 hP0
      rw [← y2] at hB0 ⊢
      obtain ⟨l', nn, p', s', v1, ⟨u1, u2, u3⟩, -⟩ := show rk_2 x7 x15 (x13 x15) from RS_o hT13 hB0
      rw [← h28, v1, u1]
      rfl
    have hI := h29
    rw [e17, show l2_1.toInt.toNat = cntP T n by omega] at hI
    obtain ⟨st5, y0, y2, yel, yo, y16, y18, hnu5, yF, -, -, -⟩ := hI
    have sk5 := rSk_of st5
    obtain ⟨-, a45, -, -, -⟩ := rc_at hT13 c03 c13
    have l3b := (rfB_l hT13 (hB23 0 hP0)).1
    have hll5 := yo (x7 14 c) (by rw [a45]; decide) (fun e => by rw [e, l3b] at a45; cases a45)
    have hW5 := rfW_ins (x := x9) hT13 hW13 hP0 hL0 c03 hB23 sk5 (by decide) (by decide) hll5.2 hTn hn100 y2 yel yo yF (by
      rw [eRow]
      refine ⟨fun z => absurd (show (14 : Int) ≤ 13 from z) (by decide), fun _ => ⟨(show Int32.toInt 0 = 0 by decide), ?_, Or.inr ⟨z5, rfl, z2⟩⟩, fun z => absurd (show (14 : Int) = 15 from z) (by decide), fun z => absurd (show (14 : Int) = 16 from z) (by decide), fun z => absurd (show (14 : Int) = 17 from z) (by decide), fun z => absurd (show (14 : Int) = 18 from z) (by decide)⟩
      show l3_1.toInt = (n : Int)
      omega)
    have kx3 : gm_1 0 (γ0 10 0) = 11 := rSk_k hk (show rKd γ0 _ 11 from kl0) (by decide) (by decide)
    have kx4 : x7 0 (γ0 10 0) = 11 := rSk_k sk3 (show rKd gm_1 _ 11 from kx3) (by decide) (by decide)
    refine ih (n + 1) (by omega) (by omega) (by rw [cnt_y hTn]; omega) hW5 ?_
    rw [rSk_F sk5 (show rKd x7 _ 11 from kx4) (by decide) (by decide), hfr _ (st3.1.1 _ (by omega)) (nm_c (fun e => by rw [e, kr0] at kx4; cases kx4) nm_n), rSk_F sk3 (show rKd gm_1 _ 11 from kx3) (by decide) (by decide)]
    exact eL
/-- zeros: rows v = 0 for what is alive in front of everything -/
theorem zr_tr {γ0 el0 γ2 el2 : Nat → Nat → Nat} {P2 : List Nat} {F2 : Nat → va_E} (hT0 : RS D I P F γ0 el0) (hm0 : γ0 0 q0 = 10) (hc9 : γ0 0 c = 9) (hcf : γ0 1 c = f) (hQ6 : γ0 6 f = Q.1) (hP0 : 0 < Q.1) (hQ4 : Q.1 ≤ 40) (hq : rfW γ0 el0 F c Q) (hO : qOk Q) (hB2 : ∀ i, i < Q.1 → γ0 0 (el0 (γ0 14 c) i) = 2) (hT100 : ∀ v, 100 ≤ v → ¬ lz Q v) (h : tr_RModel_zeros D I γ0 el0 f P F q0 c P2 F2 γ2 el2) : rfW γ2 el2 F2 c (pgZ Q) ∧ RS D I P2 F2 γ2 el2 := by
  refine h (fun P2 F2 γ2 el2 => rfW γ2 el2 F2 c (pgZ Q) ∧ RS D I P2 F2 γ2 el2) ?_
  · intro x1 x2 x3 x4 x5 x6 x7 h1 h2 h3 h4 h5 h6 h7
    have eg := h1
    have ee := h2
    subst eg
    subst ee
    have hs := h4
    have l1 := fl_tr (by decide) hq hO hQ4 (by rw [hcf]; exact hQ6) (fun F1 hF => rs0 hF hc9 (by decide)) h6
    have hq3 := rfW_rs hT0 hq hc9 hB2 hs
    obtain ⟨y1, y2, -⟩ := z10 (T := lz Q) (Fl := x3) hT0 hm0 hc9 hcf hQ6 hP0 (hO.2 0 hP0).1 hT100 (fun k hk => l1 0 k hP0 hk) h7 0 (by decide) (by decide) (by rfl) ⟨hq3.1, trivial, fun b hb => by
      have z := pz_0 (Q := Q) (T := lz Q) b
      have e : (pz Q (lz Q) 0).2.2.1 b = Q.2.2.1 b := funext z.2
      rw [z.1, e]
      exact hq3.2.2 b hb⟩ rfl
    rw [show (2000 : Nat) = 100 + 1900 from rfl, pz_f 1900 hT100] at y1
    exact ⟨y1, y2⟩
end ZRS
