section GGH
variable {D : va_G} {I : FieldType → ClassId} {P : List Nat} {F F1 : Nat → va_E} {γ el : Nat → Nat → Nat} {q0 q1 : Nat} {Q : gPg} {a2 : Int32}
theorem g25 {s1 e1 : Nat → va_E} {l3 s2 : Int32} {kx : Nat} (h : tl_RModel_graph_25 D I γ el P F l3 q0 s1 s2 kx e1) : (∀ j : Nat, (j : Int) < s2.toInt → cL (s1 (γ 11 l3.toInt.toNat)) j = 0) → (∀ j : Nat, j < 32 → cL (e1 (γ 11 l3.toInt.toNat)) j = 0) ∧ ∀ b, b ≠ γ 11 l3.toInt.toNat → e1 b = s1 b := by
  refine h (fun s1 s2 _ e1 => (∀ j : Nat, (j : Int) < s2.toInt → cL (s1 (γ 11 l3.toInt.toNat)) j = 0) → (∀ j : Nat, j < 32 → cL (e1 (γ 11 l3.toInt.toNat)) j = 0) ∧ ∀ b, b ≠ γ 11 l3.toInt.toNat → e1 b = s1 b) ?_ ?_
  · intro F_2 l4_2 h1 h2 h3 h4 h5 h6
    intro h0
    exact ⟨fun j hj => h0 j (by have := h6; omega), fun _ _ => rfl⟩
  · intro F_2 l4_2 x1 x2 x3 x4 x5 k e1 h1 h2 h3 h4 h5 h6 h7 h8 h9 h10 h11 h12 h13 ih
    intro h0
    have hfr := h11
    have hp1 := h9
    have hp2 := h12
    rw [h8] at hfr hp1 hp2
    obtain ⟨i1, i2⟩ := ih (by
      rw [cL_of hp2]
      rw [cL_of hp1] at h0
      exact zr_st h10 h0 h13 (h1.1))
    exact ⟨i1, fun b hb => (i2 b hb).trans (hfr b hb)⟩
theorem g8 {s1 e1 : Nat → va_E} {s2 : Int32} {kx : Nat} (hT : RS D I P F γ el) (hm : γ 0 q0 = 10) (h : tl_RModel_graph_8 D I γ el P F q0 s1 s2 kx e1) : (∀ n : Nat, (n : Int) < s2.toInt → n < 2000 → ∀ j : Nat, j < 32 → cL (s1 (γ 11 n)) j = 0) → (∀ n : Nat, n < 2000 → ∀ j : Nat, j < 32 → cL (e1 (γ 11 n)) j = 0) ∧ ∀ i k, i < 40 → lvS γ e1 i k = lvS γ s1 i k := by
  obtain ⟨k0, k1, k2, k3⟩ := md_kd hT hm
  refine h (fun s1 s2 _ e1 => (∀ n : Nat, (n : Int) < s2.toInt → n < 2000 → ∀ j : Nat, j < 32 → cL (s1 (γ 11 n)) j = 0) → (∀ n : Nat, n < 2000 → ∀ j : Nat, j < 32 → cL (e1 (γ 11 n)) j = 0) ∧ ∀ i k, i < 40 → lvS γ e1 i k = lvS γ s1 i k) ?_ ?_
  · intro F_1 l3_1 h1 h2 h3 h4 h5 h6
    intro h0
    exact ⟨fun n hn j hj => h0 n (by have := h6; omega) hn j hj, fun _ _ _ => rfl⟩
  · intro F_1 l3_1 x1 x2 x3 x4 x5 k e1 h1 h2 h3 h4 h5 h6 h7 h8 h9 h10 h11 h12 h13 ih
    intro h0
    have b0 := h1.1
    have hlt := h6
    obtain ⟨y1, y2⟩ := g25 h12 (fun j hj => by rw [show Int32.toInt 0 = 0 from by decide] at hj; omega)
    have ky := er_kd hT k1 (show l3_1.toInt.toNat < 2000 by omega)
    obtain ⟨i1, i2⟩ := ih (fun n hn hn2 j hj => by
      by_cases e : n = l3_1.toInt.toNat
      · rw [e]; exact y1 j hj
      · have kn := er_kd hT k1 hn2
        rw [y2 _ (fun q => e (by rw [← kn.2, ← ky.2, q])), h10 _ (fun q => by rw [q, k3] at kn; exact absurd kn.1 (by decide))]
        exact h0 n (by omega) hn2 j hj)
    refine ⟨i1, fun i k hi => ?_⟩
    rw [i2 i k hi]
    have kl := lr_kd hT k0 hi
    unfold lvS
    rw [y2 _ (fun q => by rw [q, ky.1] at kl; exact absurd kl.1 (by decide)), h10 _ (fun q => by rw [q, k3] at kl; exact absurd kl.1 (by decide))]
def gHh (γ : Nat → Nat → Nat) (Q : gPg) (Fh : Nat → va_E) (b : Int) : Prop := (∀ i k, i < Q.1 → k < 2048 → (lvS γ Fh i k = true ↔ Lv Q false k i 0)) ∧ ∀ n k, n < 2000 → k < 2048 → (egS γ Fh n k = true ↔ ∃ c j : Nat, (c : Int) < b ∧ c < Q.1 ∧ j < Q.2.1 c ∧ jd Q c j n k)
theorem g56 {s1 e1 : Nat → va_E} {s2 : Int32} {kx : Nat} (hT : RS D I P F γ el) (hm : γ 0 q0 = 10) (hc9 : γ 0 q1 = 9) (hq : rfW γ el F q1 Q) (hO : qOk Q) (hQ4 : Q.1 ≤ 40) (hB2 : ∀ i, i < Q.1 → γ 0 (el (γ 14 q1) i) = 2) (ha : a2.toInt = 0) (h : tl_RModel_graph_56 D I γ el P F a2 q1 q0 s1 s2 kx e1) : 0 ≤ s2.toInt → gHh γ Q s1 s2.toInt → gHh γ Q e1 (Q.1 : Int) := by
  obtain ⟨k0, k1, k2, k3⟩ := md_kd hT hm
  obtain ⟨lb, lr, rn, md, z1, ⟨z2, z3, z4⟩, -⟩ := show rk_9 γ el q1 (F q1) from RS_o hT hc9
  refine h (fun s1 s2 _ e1 => 0 ≤ s2.toInt → gHh γ Q s1 s2.toInt → gHh γ Q e1 (Q.1 : Int)) ?_ ?_
  · intro F_1 l3_1 x1 h1 h2 h3 h4 h5 h6 h7
    intro h0 hH
    have e1 : x1.toInt = (Q.1 : Int) := by rw [← h6, rs0 h3 hc9 (by decide)]; exact hq.1
    have hle := h7
    refine ⟨hH.1, fun n k hn hk => ?_⟩
    rw [hH.2 n k hn hk]
    exact ⟨fun ⟨c, j, w1, w2, w3⟩ => ⟨c, j, by omega, w2, w3⟩, fun ⟨c, j, w1, w2, w3⟩ => ⟨c, j, by omega, w2, w3⟩⟩
  · intro F_1 l3_1 x1 x2 x3 x4 x5 x6 x7 x8 x9 x10 x11 x12 x13 k e1 h1 h2 h3 h4 h5 h6 h7 h8 h9 h10 h11 h12 h13 h14 h15 h16 h17 h18 h19 h20 h21 h22 h23 h24 h25 h26 h27 h28 h29 h30 h31 h32 h33 h34 ih
    intro h0 hH
    have hs := h3
    have eq1 := rs0 hs hc9 (by decide)
    have e1 : x1.toInt = (Q.1 : Int) := by rw [← h6, eq1]; exact hq.1
    have hlt := h7
    have hi : l3_1.toInt.toNat < Q.1 := by omega
    have ex2 : x2 = γ 14 q1 := by rw [← h8, eq1, z1, z2]; rfl
    have ex3 : x3 = el (γ 14 q1) l3_1.toInt.toNat := by rw [h9, ex2]
    have hB := hB2 _ hi
    rw [← ex3] at hB
    have hT1 := h2
    obtain ⟨l, nn, p, s, v1, ⟨g1, g2, g3⟩, v3, v4, v5, -⟩ := show rk_2 γ x3 (F x3) from RS_o hT hB
    have eB : F_1 x3 = F x3 := rs0 hs hB (by decide)
    have k15 : γ 0 (γ 15 x3) = 1 := by rw [g2]; exact v5
    have eE : F_1 (γ 15 x3) = F (γ 15 x3) := rs0 hs k15 (by decide)
    have m := qR_m hq hi
    obtain ⟨b1, b2⟩ := bh3 hT1 hm hB (fun F1 hF => ⟨rs0 hF hB (by decide), rs0 hF k15 (by decide)⟩) h16
    have n5 : ∀ k, k < 2048 → (nwL γ x5 k = true ↔ Lv Q false k l3_1.toInt.toNat (Q.2.1 l3_1.toInt.toNat)) := fun k hk => by
      rw [b1 k hk, eB, eE, ex3, qbh hq hO hi, Lv_out hi]
      exact ⟨fun z => goX_mo (fun g hg w => (hH.1 g k hg hk).mp w) z, fun z => goX_mo (fun g hg w => (hH.1 g k hg hk).mpr w) z⟩
    have s5 := h13
    have e5B : x5 x3 = F x3 := (b2 _ (fun e => by rw [e, k2] at hB; cases hB)).trans eB
    have e6 : x6 = γ 15 x3 := by rw [← h17, e5B, v1, g2]; rfl
    have hst := st2 h22
    have e7 : x7 x6 = F (γ 15 x3) := by
      rw [e6, hst _ (fun e => by rw [e, k3] at k15; cases k15), b2 _ (fun e => by rw [e, k2] at k15; cases k15)]
      exact eE
    obtain ⟨s1, s2, s3⟩ := st_v hT hm hst
    obtain ⟨c1, c2⟩ := bk3 h18 hm (by rw [e6]; exact k15) ha h28
    obtain ⟨d1, d2⟩ := bk_v hT hm c2
    obtain ⟨f1, f2⟩ := bk_v hT hm (fun b _ hb => b2 b hb)
    have n8 : ∀ k, k < 2048 → (nwL γ x8 k = true ↔ Lv Q false k l3_1.toInt.toNat (Q.2.1 l3_1.toInt.toNat - 1)) := fun k hk => by
      rw [c1 k, e7, ex3, qend hq hO hi, s2 k, n5 k hk, Lv_row (j := Q.2.1 l3_1.toInt.toNat - 1) hi (by omega), show Q.2.1 l3_1.toInt.toNat - 1 + 1 = Q.2.1 l3_1.toInt.toNat by omega]
      exact or_congr_right ⟨fun z => ⟨z.2, z.1⟩, fun z => ⟨z.2, z.1⟩⟩
    have e8 : ∀ n k, n < 2000 → egS γ x8 n k = egS γ F_1 n k := fun n k hn => by rw [d1 n k hn, s1 n k hn, f1 n k hn]
    have l8 : ∀ i k, i < 40 → lvS γ x8 i k = lvS γ F_1 i k := fun i k hi => by rw [d2 i k hi, s3 i k hi, f2 i k hi]
    have e9 : x9 = γ 14 x3 := by
      have q : x8 x3 = F x3 := (c2 _ (hT.1 _ (by omega)) (fun e => by rw [e, k2] at hB; cases hB)).trans ((hst _ (fun e => by rw [e, k3] at hB; cases hB)).trans e5B)
      rw [← h29, q, v1, g1]
      rfl
    have e11 : x11.toInt + 1 = (γ 2 (γ 14 (el (γ 14 q1) l3_1.toInt.toNat)) : Int) := by
      rw [← ex3, ← e9]
      omega
    obtain ⟨w1, w2⟩ := g109 hT hm hq hO hi (hB2 _ hi) ex3 ha h33 (fun k hk => by
      rw [n8 k hk, show (x11.toInt + 1).toNat = Q.2.1 l3_1.toInt.toNat - 1 by omega]) (fun n hn => by
      rw [e8 n n hn, ← Bool.not_eq_true, hH.2 n n hn (by omega)]
      rintro ⟨c, j, -, -, -, w⟩
      exact w.2.2.1 rfl)
    refine ih (by omega) ⟨fun i k hi' hk => ?_, fun n k hn hk => ?_⟩
    · rw [w1 i k (by omega), l8 i k (by omega)]
      exact hH.1 i k hi' hk
    · rw [w2 n k hn hk, e8 n k hn, hH.2 n k hn hk]
      constructor
      · rintro (⟨c, j, u1, u2, u3⟩ | ⟨j, u1, u2⟩)
        · exact ⟨c, j, by omega, u2, u3⟩
        · exact ⟨_, j, by omega, hi, by omega, u2⟩
      · rintro ⟨c, j, u1, u2, u3, u4⟩
        by_cases e : c = l3_1.toInt.toNat
        · subst e
          by_cases e2 : j + 1 = Q.2.1 l3_1.toInt.toNat
          · exfalso
            have y := u4.1
            have y2 := (qB hO hi).2.1.1
            rw [show Q.2.1 l3_1.toInt.toNat - 1 = j by omega] at y2
            unfold seR at y
            rw [if_neg (by decide)] at y
            omega
          · exact Or.inr ⟨j, by omega, u4⟩
        · exact Or.inl ⟨c, j, by omega, u2, u3, u4⟩
theorem g338 {s1 e1 : Nat → va_E} {l4 l3 : Int32} {s2 : Int64} {kx : Nat} (hT : RS D I P F γ el) (hm : γ 0 q0 = 10) (hl4 : 0 ≤ l4.toInt ∧ l4.toInt < 32) (hl3 : 0 ≤ l3.toInt ∧ l3.toInt < 2000) (h : tl_RModel_graph_338 D I γ el P F l4 a2 q1 q0 l3 s1 s2 kx e1) : (∀ n k, n < 2000 → k < 2048 → (egS γ e1 n k = true ↔ egS γ s1 n k = true ∨ ((k : Int) = l3.toInt ∧ ∃ b : Nat, b < 64 ∧ s2.toBitVec.getLsbD b = true ∧ (n : Int) = 64 * l4.toInt + b))) ∧ e1 (γ 9 3) = s1 (γ 9 3) := by
  obtain ⟨k0, k1, k2, k3⟩ := md_kd hT hm
  refine h (fun s1 s2 _ e1 => (∀ n k, n < 2000 → k < 2048 → (egS γ e1 n k = true ↔ egS γ s1 n k = true ∨ ((k : Int) = l3.toInt ∧ ∃ b : Nat, b < 64 ∧ s2.toBitVec.getLsbD b = true ∧ (n : Int) = 64 * l4.toInt + b))) ∧ e1 (γ 9 3) = s1 (γ 9 3)) ?_ ?_
  · intro F_3 l5_3 h1 h2 h3 h4 h5 h6
    refine ⟨fun n k hn hk => ⟨Or.inl, fun z => z.elim id (fun ⟨_, b, hb, w, _⟩ => ?_)⟩, rfl⟩
    rw [h6] at w
    have : (0 : Int64).toBitVec.getLsbD b = false := by show (0#64).getLsbD b = false; exact BitVec.getLsbD_zero
    rw [this] at w
    cases w
  · intro F_3 l5_3 x1 x2 x3 x4 x5 x6 x7 x8 x9 k e1 h1 h2 h3 h4 h5 h6 h7 h8 h9 h10 h11 h12 h13 h14 h15 h16 h17 h18 ih
    obtain ⟨i1, i2⟩ := ih
    obtain ⟨c1, c2, c3, c4⟩ := h9
    have hQ := h3
    have hb64 : x2.toInt.toNat < 64 := by omega
    have c5 := lb_Qlt hQ c1 c3
    have e3 : x3.toInt = 64 * l4.toInt + x2.toInt := by have := h8; have := h10; omega
    have ky := er_kd hT k1 (show x3.toInt.toNat < 2000 by omega)
    have fr := h14
    have p1 := h12
    have p2 := h15
    rw [h11] at fr p1 p2
    have hst : ∀ n k, n < 2000 → k < 2048 → (egS γ x7 n k = true ↔ egS γ F_3 n k = true ∨ ((k : Int) = l3.toInt ∧ (n : Int) = x3.toInt)) := fun n k hn hk => by
      by_cases e : n = x3.toInt.toNat
      · rw [e]
        unfold egS
        rw [cL_of p2, cL_of p1, se_tr h13 hl3.1 k, Bool.or_eq_true, decide_eq_true_eq]
        exact or_congr_right ⟨fun z => ⟨z, by omega⟩, fun z => z.1⟩
      · have kn := er_kd hT k1 hn
        unfold egS
        rw [fr _ (hT.1 _ (by omega)) (nm_c (fun q => e (by rw [← kn.2, ← ky.2, q])) nm_n)]
        exact ⟨Or.inl, fun z => z.elim id (fun w => absurd (by omega) e)⟩
    have hbx : ∀ b, b < 64 → x9.toBitVec.getLsbD b = (l5_3.toBitVec.getLsbD b && decide (b ≠ x2.toInt.toNat)) := fun b hb => bit_neg1 h17 h18 hb64 c3 c4 b hb
    refine ⟨fun n k hn hk => ?_, ?_⟩
    · rw [i1 n k hn hk, hst n k hn hk]
      constructor
      · rintro ((z | ⟨z1, z2⟩) | ⟨z1, b, y1, y2, y3⟩)
        · exact Or.inl z
        · exact Or.inr ⟨z1, x2.toInt.toNat, hb64, c3, by omega⟩
        · rw [hbx b y1, Bool.and_eq_true] at y2
          exact Or.inr ⟨z1, b, y1, y2.1, y3⟩
      · rintro (z | ⟨z1, b, y1, y2, y3⟩)
        · exact Or.inl (Or.inl z)
        · by_cases e : b = x2.toInt.toNat
          · exact Or.inl (Or.inr ⟨z1, by omega⟩)
          · exact Or.inr ⟨z1, b, y1, by rw [hbx b y1, y2, decide_eq_true e]; rfl, y3⟩
    · rw [i2]
      exact fr _ (hT.1 _ (by omega)) (nm_c (fun q => by rw [← q, k3] at ky; exact absurd ky.1 (by decide)) nm_n)
def gIv (γ : Nat → Nat → Nat) (E : Nat → Nat → Prop) (F : Nat → va_E) : Prop := (∀ n k, n < 2000 → k < 2000 → E n k → egS γ F n k = true) ∧ ∀ n k, n < 2000 → k < 2000 → egS γ F n k = true → E n k ∨ E k n
theorem g320 {E : Nat → Nat → Prop} {s1 e1 : Nat → va_E} {l3 s2 : Int32} {kx : Nat} (hT : RS D I P F γ el) (hm : γ 0 q0 = 10) (hl3 : 0 ≤ l3.toInt ∧ l3.toInt < 2000) (h : tl_RModel_graph_320 D I γ el P F a2 q1 q0 l3 s1 s2 kx e1) : 0 ≤ s2.toInt → gIv γ E s1 → gIv γ E e1 ∧ (∀ n k, n < 2000 → k < 2000 → egS γ s1 n k = true → egS γ e1 n k = true) ∧ (∀ n : Nat, n < 2000 → 64 * s2.toInt ≤ (n : Int) → E l3.toInt.toNat n → egS γ e1 n l3.toInt.toNat = true) ∧ e1 (γ 9 3) = s1 (γ 9 3) := by
  refine h (fun s1 s2 _ e1 => 0 ≤ s2.toInt → gIv γ E s1 → gIv γ E e1 ∧ (∀ n k, n < 2000 → k < 2000 → egS γ s1 n k = true → egS γ e1 n k = true) ∧ (∀ n : Nat, n < 2000 → 64 * s2.toInt ≤ (n : Int) → E l3.toInt.toNat n → egS γ e1 n l3.toInt.toNat = true) ∧ e1 (γ 9 3) = s1 (γ 9 3)) ?_ ?_
  · intro F_2 l4_2 h1 h2 h3 h4 h5 h6
    intro h0 hI
    exact ⟨hI, fun _ _ _ _ z => z, fun n hn hn2 => absurd hn2 (by have := h6; omega), rfl⟩
  · intro F_2 l4_2 x1 x2 x3 x4 x5 k e1 h1 h2 h3 h4 h5 h6 h7 h8 h9 h10 h11 h12 ih
    intro h0 hI
    have hlt := h6
    obtain ⟨y1, y2⟩ := g338 hT hm ⟨h0, hlt⟩ hl3 h11
    have p1 := h9
    rw [h8] at p1
    have hbt : ∀ b : Nat, b < 64 → x3.toBitVec.getLsbD b = egS γ F_2 l3.toInt.toNat (64 * l4_2.toInt.toNat + b) := fun b hb => by
      have hz : (l4_2.toNatClampNeg : Int) = l4_2.toInt := g_nn h0
      unfold egS rbt
      rw [cL_of p1, h10, show (64 * l4_2.toInt.toNat + b) / 64 = l4_2.toNatClampNeg by omega, show (64 * l4_2.toInt.toNat + b) % 64 = b by omega]
    have hx : ∀ n k, n < 2000 → k < 2000 → (egS γ x4 n k = true ↔ egS γ F_2 n k = true ∨ (k = l3.toInt.toNat ∧ n / 64 = l4_2.toInt.toNat ∧ egS γ F_2 l3.toInt.toNat n = true)) := fun n k hn hk => by
      rw [y1 n k hn (by omega)]
      refine or_congr_right ⟨fun ⟨w1, b, w2, w3, w4⟩ => ?_, fun ⟨w1, w2, w3⟩ => ⟨by omega, n % 64, by omega, ?_, by omega⟩⟩
      · rw [hbt b w2, show 64 * l4_2.toInt.toNat + b = n by omega] at w3
        exact ⟨by omega, by omega, w3⟩
      · rw [hbt _ (by omega), show 64 * l4_2.toInt.toNat + n % 64 = n by omega]
        exact w3
    have hI2 : gIv γ E x4 := ⟨fun n k hn hk z => (hx n k hn hk).mpr (Or.inl (hI.1 n k hn hk z)), fun n k hn hk z => by
      rcases (hx n k hn hk).mp z with w | ⟨w1, -, w3⟩
      · exact hI.2 n k hn hk w
      · rw [w1]
        exact (hI.2 _ n (by omega) hn w3).symm⟩
    obtain ⟨i1, i2, i3, i4⟩ := ih (by omega) hI2
    refine ⟨i1, fun n k hn hk z => i2 n k hn hk ((hx n k hn hk).mpr (Or.inl z)), fun n hn hn2 z => ?_, i4.trans y2⟩
    by_cases e : n / 64 = l4_2.toInt.toNat
    · exact i2 n _ hn (by omega) ((hx n _ hn (by omega)).mpr (Or.inr ⟨rfl, e, hI.1 _ n (by omega) hn z⟩))
    · exact i3 n hn (by omega) z
theorem g298 {E : Nat → Nat → Prop} {s1 e1 : Nat → va_E} {s2 : Int32} {kx : Nat} (hT : RS D I P F γ el) (hm : γ 0 q0 = 10) (ha : a2.toInt = 0) (hE : ∀ m n g, m < 2000 → E m n → rGr γ el F q1 (γ 6 (γ 1 q1)) g (vA (γ 6 (γ 1 q1))) → rSd g m) (h : tl_RModel_graph_298 D I γ el P F a2 q1 q0 s1 s2 kx e1) : 0 ≤ s2.toInt → gIv γ E s1 → (∀ m n : Nat, (m : Int) < s2.toInt → m < 2000 → n < 2000 → E m n → egS γ s1 n m = true) → gIv γ E e1 ∧ ∀ m n : Nat, m < 2000 → n < 2000 → E m n → egS γ e1 n m = true := by
  refine h (fun s1 s2 _ e1 => 0 ≤ s2.toInt → gIv γ E s1 → (∀ m n : Nat, (m : Int) < s2.toInt → m < 2000 → n < 2000 → E m n → egS γ s1 n m = true) → gIv γ E e1 ∧ ∀ m n : Nat, m < 2000 → n < 2000 → E m n → egS γ e1 n m = true) ?_ ?_ ?_
  · intro F_1 l3_1 h1 h2 h3 h4 h5 h6
    intro h0 hI hD
    exact ⟨hI, fun m n hm hn z => hD m n (by have := h6; omega) hm hn z⟩
  · intro F_1 l3_1 x1 x2 x3 x4 k e1 h1 h2 h3 h4 h5 h6 h7 h8 h9 h10 h11 h12 h13 ih
    intro h0 hI hD
    have hlt := h6
    obtain ⟨y1, y2, y3, -⟩ := g320 hT hm ⟨h0, hlt⟩ h12 (by decide) hI
    rw [show Int32.toInt 0 = 0 from by decide] at y3
    refine ih (by omega) y1 (fun m n hm hm2 hn z => ?_)
    by_cases e : m = l3_1.toInt.toNat
    · rw [e]
      exact y3 n hn (by omega) (by rw [← e]; exact z)
    · exact y2 n m hn hm2 (hD m n (by omega) hm2 hn z)
  · intro F_1 l3_1 x1 x2 x3 k e1 h1 h2 h3 h4 h5 h6 h7 h8 h9 h10 h11 h12 ih
    intro h0 hI hD
    have hlt := h6
    refine ih (by omega) hI (fun m n hm hm2 hn z => ?_)
    by_cases e : m = l3_1.toInt.toNat
    · exfalso
      have w := hE m n _ hm2 z (h4 ha)
      have w2 := w.2
      rw [cB_of h8] at w2
      have hz : (l3_1.toNatClampNeg : Int) = l3_1.toInt := g_nn h0
      rw [show m = l3_1.toNatClampNeg by omega, ← h9] at w2
      have w3 := h11
      omega
    · exact hD m n (by omega) hm2 hn z
/-- one way -/
def J1 (Q : gPg) (n k : Nat) : Prop := ∃ c j : Nat, c < Q.1 ∧ j < Q.2.1 c ∧ jd Q c j n k
theorem J1_nm (hq : rfW γ el F q1 Q) (hO : qOk Q) (hQ6 : γ 6 (γ 1 q1) = Q.1) (m n : Nat) (g : Nat → Int32) (hm : m < 2000) (h : J1 Q m n) (hg : rGr γ el F q1 (γ 6 (γ 1 q1)) g (vA (γ 6 (γ 1 q1)))) : rSd g m := by
  obtain ⟨c, j, h1, h2, h3⟩ := h
  have m1 := qR_m hq h1
  have hj : j < γ 2 (γ 14 (el (γ 14 q1) c)) := by
    refine Classical.byContradiction fun hn => ?_
    have y := h3.1
    have y2 := (qB hO h1).2.1.1
    rw [show Q.2.1 c - 1 = j by omega] at y2
    unfold seR at y
    rw [if_neg (by decide)] at y
    omega
  refine hg.1 c (by omega) j (Nat.le_of_lt hj) (show c < γ 6 (γ 1 q1) by omega) m ?_
  have e : rAt γ el q1 c j = el (γ 14 (el (γ 14 q1) c)) j := if_pos hj
  rw [e]
  obtain ⟨-, ⟨rl1, rl2⟩, -⟩ := qR hq h1
  obtain ⟨w1, w2, w3, w4, w5, w6⟩ := rl2 j (by omega)
  obtain ⟨o1, o2, o3, o4, o5, o6, o7⟩ := (qB hO h1).1 j (by omega)
  have y := h3.1
  unfold seR at y
  rw [if_neg (by decide)] at y
  refine Or.inl ⟨by omega, by omega⟩
/-- graph: the edges, both ways -/
theorem gr_tr (hT : RS D I P F γ el) (hm : γ 0 q0 = 10) (hc9 : γ 0 q1 = 9) (hq : rfW γ el F q1 Q) (hO : qOk Q) (hQ4 : Q.1 ≤ 40) (hQ6 : γ 6 (γ 1 q1) = Q.1) (hB2 : ∀ i, i < Q.1 → γ 0 (el (γ 14 q1) i) = 2) (ha : a2.toInt = 0) (h : tr_RModel_graph D I γ el P F q0 q1 a2 F1) : ∀ n k, n < 2000 → k < 2000 → (egS γ F1 n k = true ↔ J1 Q n k ∨ J1 Q k n) := by
  refine h (fun F1 => ∀ n k, n < 2000 → k < 2000 → (egS γ F1 n k = true ↔ J1 Q n k ∨ J1 Q k n)) ?_
  · intro x1 x2 x3 x4 h1 h2 h3 h4 h5 h6 h7
    have l1 := fl_tr ha hq hO hQ4 hQ6 (fun F1 hF => rs0 hF hc9 (by decide)) h4
    obtain ⟨z1, z2⟩ := g8 hT hm h5 (fun n hn => by rw [show Int32.toInt 0 = 0 from by decide] at hn; omega)
    have hH := g56 hT hm hc9 hq hO hQ4 hB2 ha h6 (by decide) ⟨fun i k hi hk => by rw [z2 i k (by omega)]; exact l1 i k hi hk, fun n k hn hk => by
      rw [show egS γ x2 n k = false from rbt_z (z1 n hn (k / 64) (by omega)), show Int32.toInt 0 = 0 from by decide]
      exact ⟨fun z => (nomatch z), fun ⟨c, j, w, _⟩ => absurd w (by omega)⟩⟩
    have hE : ∀ n k, n < 2000 → k < 2000 → (egS γ x3 n k = true ↔ J1 Q n k) := fun n k hn hk => by
      rw [hH.2 n k hn (by omega)]
      exact ⟨fun ⟨c, j, w1, w2, w3⟩ => ⟨c, j, w2, w3⟩, fun ⟨c, j, w2, w3⟩ => ⟨c, j, by omega, w2, w3⟩⟩
    obtain ⟨i1, i2⟩ := g298 (E := J1 Q) hT hm ha (fun m n g hm hJ hg => J1_nm hq hO hQ6 m n g hm hJ hg) h7 (by decide) ⟨fun n k hn hk z => (hE n k hn hk).mpr z, fun n k hn hk z => Or.inl ((hE n k hn hk).mp z)⟩ (fun m n hm => by rw [show Int32.toInt 0 = 0 from by decide] at hm; omega)
    intro n k hn hk
    exact ⟨fun z => i1.2 n k hn hk z, fun z => z.elim (fun w => i1.1 n k hn hk w) (fun w => i2 k n hk hn w)⟩
end GGH
