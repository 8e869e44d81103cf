/-! letters that the reference appends -/
section APR
variable {f f1 g x : Nat → Int32} {n m c p v r p1 : Nat} {cnt a o : Int32} {bs ws : List Int32}
theorem nar_i {y : Int32} (h0 : 0 ≤ y.toInt) (h1 : y.toInt ≤ 127) : vp_nar .byte y = y := by
  have e2 : vp_nar .byte y = y.toInt8.toInt32 := rfl
  refine Int32.toInt_inj.mp ?_
  rw [e2, Int8.toInt_toInt32, Int32.toInt_toInt8, Int.bmod_def]
  split <;> omega
theorem dO_t (h : v < 100) : (dg_O v).toInt = ((48 + v % 10 : Nat) : Int) := Int32.toInt_ofNat_of_lt (by omega)
theorem dT_t (h : v < 100) : (dg_T v).toInt = ((48 + v / 10 : Nat) : Int) := Int32.toInt_ofNat_of_lt (by omega)
theorem nar_O (h : v < 100) : vp_nar .byte (dg_O v) = dg_O v := nar_i (by rw [dO_t h]; omega) (by rw [dO_t h]; omega)
theorem nar_T (h : v < 100) : vp_nar .byte (dg_T v) = dg_T v := nar_i (by rw [dT_t h]; omega) (by rw [dT_t h]; omega)
theorem dO_c : dg_O (v % 100) = dch v 0 := by
  rw [dch_0]
  show Int32.ofNat (48 + v % 100 % 10) = _
  rw [show v % 100 % 10 = v % 10 by omega]
theorem dT_c : dg_T (v % 100) = dch v 1 := by
  rw [dch_1]
  show Int32.ofNat (48 + v % 100 / 10) = _
  rw [show v % 100 / 10 = v / 10 % 10 by omega]
theorem nar_45 : vp_nar .byte (45 : Int32) = 45 := nar_i (by decide) (by decide)
/-- behind some pairs of digits: r is left, p1 the place -/
def gcP (v p : Nat) (f : Nat → Int32) (r p1 : Nat) (g : Nat → Int32) : Prop := r < 100 ∧ p1 + (dgl v - dgl r) = p ∧ dgl r ≤ dgl v ∧ (∀ i, i < p1 ∨ p ≤ i → g i = f i) ∧ (∀ q, q < dgl v - dgl r → g (p - 1 - q) = dch v q) ∧ ∀ q, dch v (q + (dgl v - dgl r)) = dch r q
theorem gcP_0 (h : v < 100) : gcP v p f v p f := ⟨h, by omega, Nat.le_refl _, fun _ _ => rfl, fun q hq => by omega, fun q => by rw [Nat.sub_self, Nat.add_zero]⟩
theorem gcP_s {g1 g2 : Nat → Int32} (hv : 100 ≤ v) (hv2 : v < 10000000000) (hp : dgl v ≤ p) (e1 : g1 = upd f (p - 1) (dg_O (v % 100))) (e2 : g2 = upd g1 (p - 2) (dg_T (v % 100))) (h : gcP (v / 100) (p - 2) g2 r p1 g) : gcP v p f r p1 g := by
  have el := dgl_h hv hv2
  have eb := dgl_b (n := v / 100)
  obtain ⟨h1, h2, h3, h4, h5, h6⟩ := h
  refine ⟨h1, by omega, by omega, fun i hi => ?_, fun q hq => ?_, fun q => ?_⟩
  · rw [h4 i (by omega), e2, updN (by omega), e1, updN (by omega)]
  · by_cases c0 : q = 0
    · rw [c0, h4 _ (by omega), e2, updN (by omega), e1, show p - 1 - 0 = p - 1 from rfl, updE]; exact dO_c
    · by_cases c1 : q = 1
      · rw [c1, h4 _ (by omega), e2, show p - 1 - 1 = p - 2 by omega, updE]; exact dT_c
      · obtain ⟨q2, rfl⟩ : ∃ q2, q = q2 + 2 := ⟨q - 2, by omega⟩
        rw [show p - 1 - (q2 + 2) = p - 2 - 1 - q2 by omega, h5 q2 (by omega)]; exact dch_h
  · rw [show q + (dgl v - dgl r) = q + (dgl (v / 100) - dgl r) + 2 by omega, ← dch_h]; exact h6 q
/-- all digits -/
def gcF (v p : Nat) (f g : Nat → Int32) : Prop := (∀ i, i < p - dgl v ∨ p ≤ i → g i = f i) ∧ ∀ q, q < dgl v → g (p - 1 - q) = dch v q
theorem gcF_1 (h : gcP v p f r p1 g) (hp : dgl v ≤ p) (hr : r < 10) : gcF v p f (upd g (p1 - 1) (dg_O r)) := by
  obtain ⟨h1, h2, h3, h4, h5, h6⟩ := h
  have er := dgl_1 hr
  have e0 := h6 0
  rw [Nat.zero_add] at e0
  refine ⟨fun i hi => ?_, fun q hq => ?_⟩
  · rw [updN (by omega)]; exact h4 i (by omega)
  · by_cases c : q = dgl v - 1
    · rw [show p - 1 - q = p1 - 1 by omega, updE, show q = dgl v - dgl r by omega, e0, ← dO_c, show r % 100 = r by omega]
    · rw [updN (by omega)]; exact h5 q (by omega)
theorem gcF_2 (h : gcP v p f r p1 g) (hp : dgl v ≤ p) (hr : 10 ≤ r) : gcF v p f (upd (upd g (p1 - 1) (dg_O r)) (p1 - 2) (dg_T r)) := by
  obtain ⟨h1, h2, h3, h4, h5, h6⟩ := h
  have er := dgl_2 hr h1
  have e0 := h6 0
  have e1 := h6 1
  rw [Nat.zero_add] at e0
  refine ⟨fun i hi => ?_, fun q hq => ?_⟩
  · rw [updN (by omega), updN (by omega)]; exact h4 i (by omega)
  · by_cases c : q = dgl v - 1
    · rw [show p - 1 - q = p1 - 2 by omega, updE, show q = 1 + (dgl v - dgl r) by omega, e1, ← dT_c, show r % 100 = r by omega]
    · by_cases d : q = dgl v - 2
      · rw [show p - 1 - q = p1 - 1 by omega, updN (by omega), updE, show q = dgl v - dgl r by omega, e0, ← dO_c, show r % 100 = r by omega]
      · rw [updN (by omega), updN (by omega)]; exact h5 q (by omega)
theorem apd_gc (h : gcF v p f g) (hc : c + dgl v = p) : apd (dgN v) c f g := by
  have b := dgl_b (n := v)
  refine ⟨fun i hi => h.1 i (by omega), fun i hi => ?_⟩
  rw [dgN_l] at hi
  have q := h.2 (dgl v - 1 - i) (by omega)
  rw [show p - 1 - (dgl v - 1 - i) = c + i by omega] at q
  rw [q]
  unfold dgN
  rw [dgq_g _ _ _ hi, Nat.zero_add]
  rfl
theorem apd_gn (h : gcF v p f g) (hc : c + 1 + dgl v = p) : apd (45 :: dgN v) c f (upd g c 45) := by
  have b := dgl_b (n := v)
  have h2 := apd_gc (c := c + 1) h hc
  refine ⟨fun i hi => ?_, fun i hi => ?_⟩
  · rw [updN (by omega)]; exact h2.1 i (by omega)
  · cases i with
    | zero => rw [Nat.add_zero, updE]; rfl
    | succ i =>
      have hi2 : i + 1 < (dgN v).length + 1 := hi
      rw [updN (by omega), List.getD_cons_succ, ← h2.2 i (by omega)]
      congr 1
      omega
theorem gcl {s1 : Int32} {s2 : Int32} {s3 : Nat → Int32} {k : Nat} {e1 : Int32} {e2 : Int32} {e3 : Nat → Int32} (h : tl_RInteger_getChars_22 s1 s2 s3 k e1 e2 e3) : ∀ v p : Nat, v < 10000000000 → s1.toInt = -(v : Int) → s2.toInt = (p : Int) → dgl v ≤ p → ∃ r p1 : Nat, e1.toInt = -(r : Int) ∧ e2.toInt = (p1 : Int) ∧ gcP v p s3 r p1 e3 := by
  refine h (fun s1 s2 s3 _ e1 e2 e3 => ∀ v p : Nat, v < 10000000000 → s1.toInt = -(v : Int) → s2.toInt = (p : Int) → dgl v ≤ p → ∃ r p1 : Nat, e1.toInt = -(r : Int) ∧ e2.toInt = (p1 : Int) ∧ gcP v p s3 r p1 e3) ?_ ?_
  · intro l0_1 l5_1 a2_v_1 h1 h2 h3
    intro v p hv h0 h5 hd
    exact ⟨v, p, h0, h5, gcP_0 (by omega)⟩
  · intro l0_1 l5_1 a2_v_1 x1 x2 x3 x4 x5 x6 x7 x8 x9 k e1 e2 e3 h1 h2 h3 h4 h5 h6 h7 h8 h9 h10 h11 h12 ih
    intro v p hv h0 h5 hd
    have hw := h3
    have el := dgl_h (n := v) (by omega) hv
    have eb := dgl_b (n := v / 100)
    have y1 : x1.toInt = -((v / 100 : Nat) : Int) := by rw [h4]; omega
    have y3 : x3.toInt = ((v % 100 : Nat) : Int) := by omega
    have y4 : x4.toInt = ((p - 1 : Nat) : Int) := by omega
    have y7 : x7.toInt = ((p - 2 : Nat) : Int) := by omega
    have z6 := h9
    have z9 := h12
    rw [h8, nnE y3, nnE y4, nar_O (Nat.mod_lt _ (by decide))] at z6
    rw [h11, nnE y3, nnE y7, nar_T (Nat.mod_lt _ (by decide))] at z9
    obtain ⟨r, p1, w1, w2, w3⟩ := ih (v / 100) (p - 2) (by omega) y1 y7 (by omega)
    exact ⟨r, p1, w1, w2, gcP_s (by omega) hv hd z6 z9 w3⟩
theorem gcl_2 {s1 : Int32} {s2 : Int32} {s3 : Nat → Int32} {k : Nat} {e1 : Int32} {e2 : Int32} {e3 : Nat → Int32} (h : tl_RInteger_getChars_22_2 s1 s2 s3 k e1 e2 e3) : ∀ v p : Nat, v < 10000000000 → s2.toInt = -(v : Int) → s1.toInt = (p : Int) → dgl v ≤ p → ∃ r p1 : Nat, e2.toInt = -(r : Int) ∧ e1.toInt = (p1 : Int) ∧ gcP v p s3 r p1 e3 := by
  refine h (fun s1 s2 s3 _ e1 e2 e3 => ∀ v p : Nat, v < 10000000000 → s2.toInt = -(v : Int) → s1.toInt = (p : Int) → dgl v ≤ p → ∃ r p1 : Nat, e2.toInt = -(r : Int) ∧ e1.toInt = (p1 : Int) ∧ gcP v p s3 r p1 e3) ?_ ?_
  · intro l5_1 l0_1 a2_v_1 h1 h2 h3
    intro v p hv h0 h5 hd
    exact ⟨v, p, h0, h5, gcP_0 (by omega)⟩
  · intro l5_1 l0_1 a2_v_1 x1 x2 x3 x4 x5 x6 x7 x8 x9 k e1 e2 e3 h1 h2 h3 h4 h5 h6 h7 h8 h9 h10 h11 h12 ih
    intro v p hv h0 h5 hd
    have hw := h3
    have el := dgl_h (n := v) (by omega) hv
    have eb := dgl_b (n := v / 100)
    have y1 : x1.toInt = -((v / 100 : Nat) : Int) := by rw [h4]; omega
    have y3 : x3.toInt = ((v % 100 : Nat) : Int) := by omega
    have y4 : x4.toInt = ((p - 1 : Nat) : Int) := by omega
    have y7 : x7.toInt = ((p - 2 : Nat) : Int) := by omega
    have z6 := h9
    have z9 := h12
    rw [h8, nnE y3, nnE y4, nar_O (Nat.mod_lt _ (by decide))] at z6
    rw [h11, nnE y3, nnE y7, nar_T (Nat.mod_lt _ (by decide))] at z9
    obtain ⟨r, p1, w1, w2, w3⟩ := ih (v / 100) (p - 2) (by omega) y1 y7 (by omega)
    exact ⟨r, p1, w1, w2, gcP_s (by omega) hv hd z6 z9 w3⟩
theorem gch_tr {q y : Int32} (hp : q.toInt = ((c + (dgI a.toInt).length : Nat) : Int)) (h : tr_RInteger_getChars a q f y x) : apd (dgI a.toInt) c f x := by
  have bx := Int32.toInt_lt a
  have bx0 := Int32.le_toInt a
  refine h (fun _ x => apd (dgI a.toInt) c f x) ?_ ?_ ?_ ?_
  · intro x1 x2 x3 x4 x5 x6 x7 x8 h1 h2 h3 h4 h5 h6 h7 h8
    have hn := h1
    obtain ⟨v, hv⟩ : ∃ v : Nat, a.toInt = (v : Int) := ⟨a.toInt.toNat, by omega⟩
    have ev : a.toInt.natAbs = v := by omega
    rw [dgI_p hn, ev, dgN_l] at hp
    rw [dgI_p hn, ev]
    have e1 : x1.toInt = -(v : Int) := by
      rw [h2, Int32.toInt_neg, hv]; exact gM_of (by omega) (by omega)
    obtain ⟨r, p1, w1, w2, w3⟩ := gcl h3 v (c + dgl v) (by omega) e1 hp (by omega)
    have hr := w3.1
    have hb := dgl_b (n := v)
    have hb2 := dgl_b (n := r)
    have hpp := w3.2.1
    have hle := w3.2.2.1
    have yr : x6.toInt = (r : Int) := by
      rw [h5, Int32.toInt_neg, w1]; exact (gM_of (by omega) (by omega)).trans (by omega)
    have d1 := dgl_1 (n := r) (by omega)
    have yp : x5.toInt = ((p1 - 1 : Nat) : Int) := by omega
    have z1 := h7
    rw [h6, nnE yr, nnE yp, nar_O hr] at z1
    have w4 := gcF_1 w3 (by omega) (by omega)
    rw [← z1] at w4
    exact apd_gc w4 rfl
  · intro x1 x2 x3 x4 x5 x6 x7 x8 x9 x10 x11 x12 h1 h2 h3 h4 h5 h6 h7 h8 h9 h10 h11 h12
    have hn := h1
    obtain ⟨v, hv⟩ : ∃ v : Nat, a.toInt = (v : Int) := ⟨a.toInt.toNat, by omega⟩
    have ev : a.toInt.natAbs = v := by omega
    rw [dgI_p hn, ev, dgN_l] at hp
    rw [dgI_p hn, ev]
    have e1 : x1.toInt = -(v : Int) := by
      rw [h2, Int32.toInt_neg, hv]; exact gM_of (by omega) (by omega)
    obtain ⟨r, p1, w1, w2, w3⟩ := gcl h3 v (c + dgl v) (by omega) e1 hp (by omega)
    have hr := w3.1
    have hb := dgl_b (n := v)
    have hb2 := dgl_b (n := r)
    have hpp := w3.2.1
    have hle := w3.2.2.1
    have yr : x6.toInt = (r : Int) := by
      rw [h5, Int32.toInt_neg, w1]; exact (gM_of (by omega) (by omega)).trans (by omega)
    have d2 := dgl_2 (n := r) (by omega) hr
    have yp : x5.toInt = ((p1 - 1 : Nat) : Int) := by omega
    have z1 := h7
    rw [h6, nnE yr, nnE yp, nar_O hr] at z1
    have yr2 : x10.toInt = (r : Int) := by
      rw [h10, Int32.toInt_neg, w1]; exact (gM_of (by omega) (by omega)).trans (by omega)
    have yp2 : x9.toInt = ((p1 - 2 : Nat) : Int) := by omega
    have z2 := h12
    rw [h11, nnE yr2, nnE yp2, nar_T hr, z1] at z2
    have w4 := gcF_2 w3 (by omega) (by omega)
    rw [← z2] at w4
    exact apd_gc w4 rfl
  · intro x1 x2 x3 x4 x5 x6 x7 x8 x9 h1 h2 h3 h4 h5 h6 h7 h8 h9
    have hn := h1
    obtain ⟨v, hv⟩ : ∃ v : Nat, a.toInt = -(v : Int) := ⟨(-a.toInt).toNat, by omega⟩
    have ev : a.toInt.natAbs = v := by omega
    have eL : (45 :: dgN v : List Int32).length = dgl v + 1 := by rw [List.length_cons, dgN_l]
    rw [dgI_n hn, ev, eL] at hp
    rw [dgI_n hn, ev]
    obtain ⟨r, p1, w1, w2, w3⟩ := gcl_2 h2 v (c + (dgl v + 1)) (by omega) hv hp (by omega)
    have hr := w3.1
    have hb := dgl_b (n := v)
    have hb2 := dgl_b (n := r)
    have hpp := w3.2.1
    have hle := w3.2.2.1
    have yr : x5.toInt = (r : Int) := by
      rw [h4, Int32.toInt_neg, w1]; exact (gM_of (by omega) (by omega)).trans (by omega)
    have d1 := dgl_1 (n := r) (by omega)
    have yp : x4.toInt = ((p1 - 1 : Nat) : Int) := by omega
    have z1 := h6
    rw [h5, nnE yr, nnE yp, nar_O hr] at z1
    have w4 := gcF_1 w3 (by omega) (by omega)
    rw [← z1] at w4
    have yp3 : x8.toInt = (c : Int) := by omega
    have z3 := h9
    rw [nnE yp3, nar_45] at z3
    rw [z3]
    exact apd_gn w4 (by omega)
  · intro x1 x2 x3 x4 x5 x6 x7 x8 x9 x10 x11 x12 x13 h1 h2 h3 h4 h5 h6 h7 h8 h9 h10 h11 h12 h13
    have hn := h1
    obtain ⟨v, hv⟩ : ∃ v : Nat, a.toInt = -(v : Int) := ⟨(-a.toInt).toNat, by omega⟩
    have ev : a.toInt.natAbs = v := by omega
    have eL : (45 :: dgN v : List Int32).length = dgl v + 1 := by rw [List.length_cons, dgN_l]
    rw [dgI_n hn, ev, eL] at hp
    rw [dgI_n hn, ev]
    obtain ⟨r, p1, w1, w2, w3⟩ := gcl_2 h2 v (c + (dgl v + 1)) (by omega) hv hp (by omega)
    have hr := w3.1
    have hb := dgl_b (n := v)
    have hb2 := dgl_b (n := r)
    have hpp := w3.2.1
    have hle := w3.2.2.1
    have yr : x5.toInt = (r : Int) := by
      rw [h4, Int32.toInt_neg, w1]; exact (gM_of (by omega) (by omega)).trans (by omega)
    have d2 := dgl_2 (n := r) (by omega) hr
    have yp : x4.toInt = ((p1 - 1 : Nat) : Int) := by omega
    have z1 := h6
    rw [h5, nnE yr, nnE yp, nar_O hr] at z1
    have yr2 : x9.toInt = (r : Int) := by
      rw [h9, Int32.toInt_neg, w1]; exact (gM_of (by omega) (by omega)).trans (by omega)
    have yp2 : x8.toInt = ((p1 - 2 : Nat) : Int) := by omega
    have z2 := h11
    rw [h10, nnE yr2, nnE yp2, nar_T hr, z1] at z2
    have w4 := gcF_2 w3 (by omega) (by omega)
    rw [← z2] at w4
    have yp3 : x12.toInt = (c : Int) := by omega
    have z3 := h13
    rw [nnE yp3, nar_45] at z3
    rw [z3]
    exact apd_gn w4 (by omega)
theorem ssl {a0 : Int32} {s1 : Int32} {s2 : Int32} {k : Nat} {e1 : Int32} (hv : a0.toInt = -(v : Int)) (h : tl_RInteger_stringSize_16 a0 s1 s2 k e1) : ∀ i : Nat, s1.toInt = (i : Int) → 1 ≤ i → i ≤ 10 → (i ≤ 9 → s2.toInt = -((10 ^ i : Nat) : Int)) → (∀ j, 1 ≤ j → j < i → 10 ^ j ≤ v) → (k = 42 → dgl v = 10) ∧ (k = 27 → e1.toInt = (dgl v : Int)) := by
  refine h (fun s1 s2 k e1 => ∀ i : Nat, s1.toInt = (i : Int) → 1 ≤ i → i ≤ 10 → (i ≤ 9 → s2.toInt = -((10 ^ i : Nat) : Int)) → (∀ j, 1 ≤ j → j < i → 10 ^ j ≤ v) → (k = 42 → dgl v = 10) ∧ (k = 27 → e1.toInt = (dgl v : Int))) ?_ ?_ ?_
  · intro l3_1 l2_1 h1 h2
    intro i hi h1i h10 h2 hl
    exact ⟨fun _ => dgl_s (by omega) (by omega) (Or.inl rfl) (fun j a b => hl j a (by omega)), fun z => absurd z (by decide)⟩
  · intro l3_1 l2_1 x1 x2 k e1 h1 h2 h3 h4 h5 ih
    intro i hi h1i h10 h2 hl
    have h3 := h2 (by omega)
    obtain ⟨P, hP⟩ : ∃ P : Nat, P = 10 ^ i := ⟨_, rfl⟩
    rw [← hP] at h3
    have w := h3
    have wP : P ≤ v := by omega
    refine ih (i + 1) (by omega) (by omega) (by omega) (fun h9 => ?_) (fun j a b => ?_)
    · have e10 : (10 : Nat) ^ (i + 1) = P * 10 := by rw [hP]; exact Nat.pow_succ 10 i
      have l9 : (10 : Nat) ^ (i + 1) ≤ 10 ^ 9 := Nat.pow_le_pow_right (by decide) h9
      rw [e10, show (10 : Nat) ^ 9 = 1000000000 from rfl] at l9
      rw [e10, h4, Int32.toInt_mul, px_10, h3]
      exact (gM_of (by omega) (by omega)).trans (by omega)
    · by_cases q : j = i
      · rw [q, ← hP]; exact wP
      · exact hl j a (by omega)
  · intro l3_1 l2_1 h1 h2 h3
    intro i hi h1i h10 h2 hl
    have h3 := h2 (by omega)
    obtain ⟨P, hP⟩ : ∃ P : Nat, P = 10 ^ i := ⟨_, rfl⟩
    rw [← hP] at h3
    have w := h3
    exact ⟨fun z => absurd z (by decide), fun _ => by rw [dgl_s (n := v) h1i h10 (Or.inr (by rw [← hP]; omega)) hl]; exact hi⟩
theorem ssl_2 {c1 : Int32} {s1 : Int32} {s2 : Int32} {k : Nat} {e1 : Int32} (hv : c1.toInt = -(v : Int)) (h : tl_RInteger_stringSize_16_2 c1 s1 s2 k e1) : ∀ i : Nat, s1.toInt = (i : Int) → 1 ≤ i → i ≤ 10 → (i ≤ 9 → s2.toInt = -((10 ^ i : Nat) : Int)) → (∀ j, 1 ≤ j → j < i → 10 ^ j ≤ v) → (k = 42 → dgl v = 10) ∧ (k = 27 → e1.toInt = (dgl v : Int)) := by
  refine h (fun s1 s2 k e1 => ∀ i : Nat, s1.toInt = (i : Int) → 1 ≤ i → i ≤ 10 → (i ≤ 9 → s2.toInt = -((10 ^ i : Nat) : Int)) → (∀ j, 1 ≤ j → j < i → 10 ^ j ≤ v) → (k = 42 → dgl v = 10) ∧ (k = 27 → e1.toInt = (dgl v : Int))) ?_ ?_ ?_
  · intro l3_1 l2_1 h1 h2
    intro i hi h1i h10 h2 hl
    exact ⟨fun _ => dgl_s (by omega) (by omega) (Or.inl rfl) (fun j a b => hl j a (by omega)), fun z => absurd z (by decide)⟩
  · intro l3_1 l2_1 x1 x2 k e1 h1 h2 h3 h4 h5 ih
    intro i hi h1i h10 h2 hl
    have h3 := h2 (by omega)
    obtain ⟨P, hP⟩ : ∃ P : Nat, P = 10 ^ i := ⟨_, rfl⟩
    rw [← hP] at h3
    have w := h3
    have wP : P ≤ v := by omega
    refine ih (i + 1) (by omega) (by omega) (by omega) (fun h9 => ?_) (fun j a b => ?_)
    · have e10 : (10 : Nat) ^ (i + 1) = P * 10 := by rw [hP]; exact Nat.pow_succ 10 i
      have l9 : (10 : Nat) ^ (i + 1) ≤ 10 ^ 9 := Nat.pow_le_pow_right (by decide) h9
      rw [e10, show (10 : Nat) ^ 9 = 1000000000 from rfl] at l9
      rw [e10, h4, Int32.toInt_mul, px_10, h3]
      exact (gM_of (by omega) (by omega)).trans (by omega)
    · by_cases q : j = i
      · rw [q, ← hP]; exact wP
      · exact hl j a (by omega)
  · intro l3_1 l2_1 h1 h2 h3
    intro i hi h1i h10 h2 hl
    have h3 := h2 (by omega)
    obtain ⟨P, hP⟩ : ∃ P : Nat, P = 10 ^ i := ⟨_, rfl⟩
    rw [← hP] at h3
    have w := h3
    exact ⟨fun z => absurd z (by decide), fun _ => by rw [dgl_s (n := v) h1i h10 (Or.inr (by rw [← hP]; omega)) hl]; exact hi⟩
theorem zss_tr (h : tr_RInteger_stringSize a o) : o.toInt = ((dgI a.toInt).length : Int) := by
  have bx := Int32.toInt_lt a
  have bx0 := Int32.le_toInt a
  have t10 : Int32.toInt (-10) = -((10 ^ 1 : Nat) : Int) := by decide
  refine h (fun o => o.toInt = ((dgI a.toInt).length : Int)) ?_ ?_ ?_ ?_
  · intro h1 h2
    have hn := h1
    obtain ⟨v, hv⟩ : ∃ v : Nat, a.toInt = -(v : Int) := ⟨(-a.toInt).toNat, by omega⟩
    have eL : (dgI a.toInt).length = dgl v + 1 := by rw [dgI_n hn, List.length_cons, dgN_l, show a.toInt.natAbs = v by omega]
    have w := ssl hv h2 1 (by decide) (by decide) (by decide) (fun _ => t10) (fun j y1 y2 => absurd y1 (by omega))
    have w2 := w.1 rfl
    show Int32.toInt 11 = _
    rw [eL, w2]
    decide
  · intro x1 x2 h1 h2 h3
    have hn := h1
    obtain ⟨v, hv⟩ : ∃ v : Nat, a.toInt = -(v : Int) := ⟨(-a.toInt).toNat, by omega⟩
    have eL : (dgI a.toInt).length = dgl v + 1 := by rw [dgI_n hn, List.length_cons, dgN_l, show a.toInt.natAbs = v by omega]
    have w := ssl hv h2 1 (by decide) (by decide) (by decide) (fun _ => t10) (fun j y1 y2 => absurd y1 (by omega))
    have w2 := w.2 rfl
    rw [eL]
    omega
  · intro x1 h1 h2 h3
    have hn := h1
    obtain ⟨v, hv⟩ : ∃ v : Nat, a.toInt = (v : Int) := ⟨a.toInt.toNat, by omega⟩
    have eL : (dgI a.toInt).length = dgl v := by rw [dgI_p hn, dgN_l, show a.toInt.natAbs = v by omega]
    have e1 : x1.toInt = -(v : Int) := by
      rw [h2, Int32.toInt_neg, hv]; exact gM_of (by omega) (by omega)
    have w := ssl_2 e1 h3 1 (by decide) (by decide) (by decide) (fun _ => t10) (fun j y1 y2 => absurd y1 (by omega))
    have w2 := w.1 rfl
    show Int32.toInt 10 = _
    rw [eL, w2]
    decide
  · intro x1 x2 x3 h1 h2 h3 h4
    have hn := h1
    obtain ⟨v, hv⟩ : ∃ v : Nat, a.toInt = (v : Int) := ⟨a.toInt.toNat, by omega⟩
    have eL : (dgI a.toInt).length = dgl v := by rw [dgI_p hn, dgN_l, show a.toInt.natAbs = v by omega]
    have e1 : x1.toInt = -(v : Int) := by
      rw [h2, Int32.toInt_neg, hv]; exact gM_of (by omega) (by omega)
    have w := ssl_2 e1 h3 1 (by decide) (by decide) (by decide) (fun _ => t10) (fun j y1 y2 => absurd y1 (by omega))
    have w2 := w.2 rfl
    rw [eL]
    omega
theorem ecn_tr {a1 : Int32} (h : tr_RAbstractStringBuilder_ensureCapacityInternal3 a1 n) : a1.toInt ≤ (n : Int) := by
  refine h (a1.toInt ≤ (n : Int)) ?_
  · intro x1 x2 x3 h1 h2 h3 h4
    omega
theorem ecg_tr {a1 : Int32} (hc : c ≤ n) (h : tr_RAbstractStringBuilder_ensureCapacityInternal3_g2 a1 f n m x) : ∀ j, j < c → x j = f j := by
  refine h (fun _ x => ∀ j, j < c → x j = f j) ?_
  · intro x1 x2 x3 x4 x5 x6 h1 h2 h3 h4 h5 h6 h7 h8
    have q := nc_tr h6
    exact fun j hj => cpf_tr h8 (by omega) (by omega) j (by omega)
theorem apd_f {ws : List Int32} (h : ∀ j, j < c → f1 j = f j) (g : apd ws c f1 x) : apd ws c f x := ⟨fun i hi => (g.1 i hi).trans (h i hi), g.2⟩
theorem apd_C {y : Int32} (b0 : 0 ≤ a.toInt) (b1 : a.toInt ≤ 127) (hy : y = a.toInt8.toInt32) (hc : cnt.toInt = (c : Int)) (hx : x = upd f cnt.toNatClampNeg (vp_nar .byte y)) : apd [a] c f x := by
  rw [nnE hc, nar_c b0 b1 hy] at hx
  refine ⟨fun i hi => by rw [hx, updN (by omega)], fun i hi => ?_⟩
  have e : i = 0 := by have hi2 : i < 1 := hi; omega
  rw [e, Nat.add_zero, hx, updE]
  rfl
theorem apC1 (hc : cnt.toInt = (c : Int)) (hn : c ≤ n) (b0 : 0 ≤ a.toInt) (b1 : a.toInt ≤ 127) (h : tr_RAbstractStringBuilder_append9 a cnt f n o x) : o.toInt = ((c + [a].length : Nat) : Int) ∧ apd [a] c f x := by
  refine h (fun o x => o.toInt = ((c + [a].length : Nat) : Int) ∧ apd [a] c f x) ?_
  · intro x1 x2 x3 x4 h1 h2 h3 h4 h5 h6
    refine ⟨?_, (apd_C b0 b1 h5 hc h6)⟩
    show _ = ((c + 1 : Nat) : Int)
    omega
theorem apC (hc : cnt.toInt = (c : Int)) (hn : c ≤ n) (b0 : 0 ≤ a.toInt) (b1 : a.toInt ≤ 127) (h : tr_RStringBuilder_append9 a cnt f n o x) : o.toInt = ((c + [a].length : Nat) : Int) ∧ apd [a] c f x := by
  refine h (fun o x => o.toInt = ((c + [a].length : Nat) : Int) ∧ apd [a] c f x) ?_
  · intro x1 x2 h1 h2
    exact apC1 hc hn b0 b1 h2
theorem apCg1 (hc : cnt.toInt = (c : Int)) (hn : c ≤ n) (b0 : 0 ≤ a.toInt) (b1 : a.toInt ≤ 127) (h : tr_RAbstractStringBuilder_append9_g2 a cnt f n o m x) : o.toInt = ((c + [a].length : Nat) : Int) ∧ apd [a] c f x := by
  refine h (fun o _ x => o.toInt = ((c + [a].length : Nat) : Int) ∧ apd [a] c f x) ?_
  · intro x1 x2 x3 x4 x5 x6 h1 h2 h3 h4 h5 h6
    have q0 := ecg_tr (c := c) hn h2
    refine ⟨?_, apd_f q0 (apd_C b0 b1 h5 hc h6)⟩
    show _ = ((c + 1 : Nat) : Int)
    omega
theorem apCg (hc : cnt.toInt = (c : Int)) (hn : c ≤ n) (b0 : 0 ≤ a.toInt) (b1 : a.toInt ≤ 127) (h : tr_RStringBuilder_append9_g2 a cnt f n o m x) : o.toInt = ((c + [a].length : Nat) : Int) ∧ apd [a] c f x := by
  refine h (fun o _ x => o.toInt = ((c + [a].length : Nat) : Int) ∧ apd [a] c f x) ?_
  · intro x1 x2 x3 h1 h2
    exact apCg1 hc hn b0 b1 h2
theorem apI1 (hc : cnt.toInt = (c : Int)) (hn : c ≤ n) (h : tr_RAbstractStringBuilder_append10 a cnt f n o x) : o.toInt = ((c + (dgI a.toInt).length : Nat) : Int) ∧ apd (dgI a.toInt) c f x := by
  refine h (fun o x => o.toInt = ((c + (dgI a.toInt).length : Nat) : Int) ∧ apd (dgI a.toInt) c f x) ?_
  · intro x1 x2 x3 x4 h1 h2 h3 h4 h5 h6
    have q1 := zss_tr h2
    have q2 : x2.toInt = ((c + (dgI a.toInt).length : Nat) : Int) := by omega
    exact ⟨q2, (gch_tr q2 h6)⟩
theorem apI (hc : cnt.toInt = (c : Int)) (hn : c ≤ n) (h : tr_RStringBuilder_append10 a cnt f n o x) : o.toInt = ((c + (dgI a.toInt).length : Nat) : Int) ∧ apd (dgI a.toInt) c f x := by
  refine h (fun o x => o.toInt = ((c + (dgI a.toInt).length : Nat) : Int) ∧ apd (dgI a.toInt) c f x) ?_
  · intro x1 x2 h1 h2
    exact apI1 hc hn h2
theorem apIg1 (hc : cnt.toInt = (c : Int)) (hn : c ≤ n) (h : tr_RAbstractStringBuilder_append10_g2 a cnt f n o m x) : o.toInt = ((c + (dgI a.toInt).length : Nat) : Int) ∧ apd (dgI a.toInt) c f x := by
  refine h (fun o _ x => o.toInt = ((c + (dgI a.toInt).length : Nat) : Int) ∧ apd (dgI a.toInt) c f x) ?_
  · intro x1 x2 x3 x4 x5 x6 h1 h2 h3 h4 h5 h6
    have q0 := ecg_tr (c := c) hn h4
    have q1 := zss_tr h2
    have q2 : x2.toInt = ((c + (dgI a.toInt).length : Nat) : Int) := by omega
    exact ⟨q2, apd_f q0 (gch_tr q2 h6)⟩
theorem apIg (hc : cnt.toInt = (c : Int)) (hn : c ≤ n) (h : tr_RStringBuilder_append10_g2 a cnt f n o m x) : o.toInt = ((c + (dgI a.toInt).length : Nat) : Int) ∧ apd (dgI a.toInt) c f x := by
  refine h (fun o _ x => o.toInt = ((c + (dgI a.toInt).length : Nat) : Int) ∧ apd (dgI a.toInt) c f x) ?_
  · intro x1 x2 x3 h1 h2
    exact apIg1 hc hn h2
theorem apIr1 (hc : cnt.toInt = (c : Int)) (hn : c ≤ n) (h : tr_RAbstractStringBuilder_append12 a cnt f n o x) : o.toInt = ((c + (dgI a.toInt).length : Nat) : Int) ∧ apd (dgI a.toInt) c f x := by
  refine h (fun o x => o.toInt = ((c + (dgI a.toInt).length : Nat) : Int) ∧ apd (dgI a.toInt) c f x) ?_
  · intro x1 x2 x3 x4 h1 h2 h3 h4 h5 h6
    have q1 := zss_tr h2
    have q2 : x2.toInt = ((c + (dgI a.toInt).length : Nat) : Int) := by omega
    exact ⟨q2, (gch_tr q2 h6)⟩
theorem apIr (hc : cnt.toInt = (c : Int)) (hn : c ≤ n) (h : tr_RStringBuilder_append12 a cnt f n o x) : o.toInt = ((c + (dgI a.toInt).length : Nat) : Int) ∧ apd (dgI a.toInt) c f x := by
  refine h (fun o x => o.toInt = ((c + (dgI a.toInt).length : Nat) : Int) ∧ apd (dgI a.toInt) c f x) ?_
  · intro x1 x2 h1 h2
    exact apIr1 hc hn h2
theorem apS1 (hc : cnt.toInt = (c : Int)) (hn : c ≤ n) (h : tr_RAbstractStringBuilder_append11 bs cnt f n o x) : o.toInt = ((c + bs.length : Nat) : Int) ∧ apd bs c f x := by
  refine h (fun o x => o.toInt = ((c + bs.length : Nat) : Int) ∧ apd bs c f x) ?_
  · intro x1 x2 x3 x4 h1 h2 h3 h4 h5 h6
    have q1 := sl2_tr h2
    obtain ⟨p1, p2⟩ := ps2_tr h5 hc
    exact ⟨by omega, ⟨p1, p2⟩⟩
theorem apS (hc : cnt.toInt = (c : Int)) (hn : c ≤ n) (h : tr_RStringBuilder_append11 bs cnt f n o x) : o.toInt = ((c + bs.length : Nat) : Int) ∧ apd bs c f x := by
  refine h (fun o x => o.toInt = ((c + bs.length : Nat) : Int) ∧ apd bs c f x) ?_
  · intro x1 x2 h1 h2
    exact apS1 hc hn h2
theorem apSg1 (hc : cnt.toInt = (c : Int)) (hn : c ≤ n) (h : tr_RAbstractStringBuilder_append11_g2 bs cnt f n o m x) : o.toInt = ((c + bs.length : Nat) : Int) ∧ apd bs c f x := by
  refine h (fun o _ x => o.toInt = ((c + bs.length : Nat) : Int) ∧ apd bs c f x) ?_
  · intro x1 x2 x3 x4 x5 x6 h1 h2 h3 h4 h5 h6
    have q0 := ecg_tr (c := c) hn h4
    have q1 := sl2_tr h2
    obtain ⟨p1, p2⟩ := ps2_tr h5 hc
    exact ⟨by omega, apd_f q0 ⟨p1, p2⟩⟩
theorem apSg (hc : cnt.toInt = (c : Int)) (hn : c ≤ n) (h : tr_RStringBuilder_append11_g2 bs cnt f n o m x) : o.toInt = ((c + bs.length : Nat) : Int) ∧ apd bs c f x := by
  refine h (fun o _ x => o.toInt = ((c + bs.length : Nat) : Int) ∧ apd bs c f x) ?_
  · intro x1 x2 x3 h1 h2
    exact apSg1 hc hn h2
theorem apCr (hc : cnt.toInt = (c : Int)) (hn : c ≤ n) (b0 : 0 ≤ a.toInt) (b1 : a.toInt ≤ 127) (h : tr_RStringBuilder_append a cnt f n o x) : o.toInt = ((c + [a].length : Nat) : Int) ∧ apd [a] c f x := by
  obtain ⟨h1, h2, h3, -⟩ := apn h hc hn b0 b1
  refine ⟨h1, h2, fun i hi => ?_⟩
  have e : i = 0 := by have hi2 : i < 1 := hi; omega
  rw [e, Nat.add_zero]
  exact Int32.toInt_inj.mp h3
theorem apSr (hc : cnt.toInt = (c : Int)) (hn : c ≤ n) (h : tr_RStringBuilder_append4 bs cnt f n o x) : o.toInt = ((c + bs.length : Nat) : Int) ∧ apd bs c f x := by
  obtain ⟨h1, h2, h3, -⟩ := apl h hc hn
  exact ⟨h1, h2, h3⟩
theorem by_f : ∀ j : Nat, j < 256 → (((Int32.ofInt ((j : Int) - 128) &&& 255).toUInt32 % 65536).toInt32.toInt8.toInt32).toInt8.toInt32 = Int32.ofInt ((j : Int) - 128) := by decide +kernel
theorem by_g {v : Int32} (h0 : -128 ≤ v.toInt) (h1 : v.toInt ≤ 127) : vp_nar .byte (((v &&& 255).toUInt32 % 65536).toInt32.toInt8.toInt32) = v := by
  have q := by_f (v.toInt + 128).toNat (by omega)
  rw [show (((v.toInt + 128).toNat : Nat) : Int) - 128 = v.toInt by omega, Int32.ofInt_toInt] at q
  exact q
/-- the letters so far -/
def lt9 (ws : List Int32) (f : Nat → Int32) : Prop := ∀ i, i < ws.length → f i = ws.getD i 0
theorem lt_ap {ws b : List Int32} (h : lt9 ws f) (g : apd b ws.length f f1) : lt9 (ws ++ b) f1 := fun i hi => by
  rw [List.length_append] at hi
  by_cases q : i < ws.length
  · rw [lgt_l q, g.1 i q]; exact h i q
  · obtain ⟨m, rfl⟩ : ∃ m, i = ws.length + m := ⟨i - ws.length, by omega⟩
    rw [lgt_r]; exact g.2 m (by omega)
theorem ltz_0 : lt9 [] f := fun i hi => absurd hi (Nat.not_lt_zero i)
end APR
theorem chb1 {f : Nat → Int32} {n : Nat} {a cnt o z : Int32} (hz : z = o.toInt8.toInt32) (h : tr_RAbstractStringBuilder_charAt a cnt f n o) : vp_nar .byte z = f a.toNatClampNeg := by
  rw [hz]
  refine h (fun o => vp_nar .byte o.toInt8.toInt32 = f a.toNatClampNeg) ?_
  · intro x1 x2 x3 x4 x5 x6 h1 h2 h3 h4 h5 h6 h7 h8
    rw [h8, h7, ← h5]
    exact by_g h6.1 h6.2
theorem chbt {f : Nat → Int32} {n : Nat} {a cnt o z : Int32} (hz : z = o.toInt8.toInt32) (h : tr_RStringBuilder_charAt a cnt f n o) : vp_nar .byte z = f a.toNatClampNeg := by
  rw [hz]
  refine h (fun o => vp_nar .byte o.toInt8.toInt32 = f a.toNatClampNeg) ?_
  · intro x1 h1 h2
    exact chb1 rfl h2
