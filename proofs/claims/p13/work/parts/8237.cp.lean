/-! a program copied -/
def cpP (Q : gPg) (i j : Nat) : gPg := (i + 1, fun b => if b = i then j else Q.2.1 b, Q.2.2.1, fun b t => if b = i then -1 else Q.2.2.2 b t)
theorem cpP_s {Q : gPg} {i j : Nat} : pgL (cpP Q i j) (Q.2.2.1 i j) = cpP Q i (j + 1) := by
  unfold pgL cpP
  refine Prod.ext rfl (Prod.ext (funext fun b => ?_) (Prod.ext (funext fun b => funext fun k => ?_) rfl))
  · show (if b + 1 = i + 1 then (if b = i then j else Q.2.1 b) + 1 else (if b = i then j else Q.2.1 b)) = if b = i then j + 1 else Q.2.1 b
    by_cases e : b = i
    · rw [if_pos (by omega), if_pos e, if_pos e]
    · rw [if_neg (by omega), if_neg e, if_neg e]
  · show (if b + 1 = i + 1 ∧ k = (if b = i then j else Q.2.1 b) then Q.2.2.1 i j else Q.2.2.1 b k) = Q.2.2.1 b k
    by_cases e : b = i
    · rw [if_pos e]
      by_cases e2 : k = j
      · rw [if_pos ⟨by omega, e2⟩, e, e2]
      · rw [if_neg (fun z => e2 z.2)]
    · rw [if_neg (fun z => e (by omega))]
/-- cells of another family: as they were -/
def srI (f : Nat) (γ0 : Nat → Nat → Nat) (F0 : Nat → va_E) (γ : Nat → Nat → Nat) (F : Nat → va_E) : Prop := ∀ a, γ0 0 a ≠ 0 → γ0 1 a ≠ f → (γ0 0 a ≤ 9 ∨ 100 ≤ γ0 0 a) → F a = F0 a ∧ γ 0 a = γ0 0 a ∧ γ 1 a = γ0 1 a
section CPY
variable {D : va_G} {I : FieldType → ClassId} {P P1 : List Nat} {F F0 F1 : Nat → va_E} {γ γ0 γ1 el el0 el1 : Nat → Nat → Nat} {f fo c o i j bb x : Nat} {Q : gPg} {K KF : List Nat}
theorem srI_st (h : srI f γ0 F0 γ F) (st : rSt f K KF D I P F γ el P1 F1 γ1 el1) : srI f γ0 F0 γ1 F1 := fun a h0 h1 h2 => by
  obtain ⟨e1, e2, e3⟩ := h a h0 h1 h2
  have g0 : γ 0 a ≠ 0 := by rw [e2]; exact h0
  refine ⟨(st.2.2.2 a g0 (Or.inr ⟨by rw [e3]; exact h1, by rw [e2]; exact h2⟩)).trans e1, (st.2.2.1.1 a g0 (Or.inl (by rw [e3]; exact h1))).trans e2, ((st.2.2.1.2.1 a g0).2.1).trans e3⟩
theorem srI_w (h : srI f γ0 F0 γ F) (hx : γ 1 x = f) (hF : ∀ b, b ∈ P → b ≠ x → F1 b = F b) (hT : RS D I P F γ el) : srI f γ0 F0 γ F1 := fun a h0 h1 h2 => by
  obtain ⟨e1, e2, e3⟩ := h a h0 h1 h2
  refine ⟨(hF a (hT.1 a (by rw [e2]; exact h0)) (fun e => h1 (by rw [← e3, e, hx]))).trans e1, e2, e3⟩
/-- the source's block, through the copy -/
theorem rfI_en {P2 : List Nat} {nb : Nat} {ll : Nat → Int} {Q1 : gPg} {fi se : Int32} (hT : RS D I P F γ el) (h : rfL γ el F c j bb Q) (hB2 : ∀ i, i < j → γ 0 (el (γ 14 c) i) = 2) (b0 : γ 0 bb = 202) (bj : el (γ 14 c) j = bb) (hFF : ∀ x, γ 0 x = 1 ∨ γ 0 x = 2 → F1 x = F x) (enb : γ 15 bb = nb) (e2 : fI (F1 bb) 2 = fi) (e3 : fI (F1 bb) 3 = se)
    (q1 : Q1.1 = Q.1) (q2 : Q1.2.1 = (pgL Q ll).2.1) (q3 : Q1.2.2.1 = (pgL Q ll).2.2.1) (q4 : ∀ b, b + 1 ≠ Q.1 → Q1.2.2.2 b = Q.2.2.2 b) (q5 : ∀ b, b + 1 = Q.1 → edE ll (Q1.2.2.2 b) (fI (F1 nb) 0) (fI (F1 nb) 2) (fI (F1 nb) 5) fi se) : rfI (gSea γ bb nb) el F1 c (j + 1) Q1 := by
  obtain ⟨h1, hb, hr, g0, g1⟩ := h
  obtain ⟨p1, p2, p3, p4⟩ := pgL_l (P := Q) (l := ll) (b := j) h1.symm
  refine ⟨q1.trans h1, fun b hb' => ?_⟩
  rw [q2, q3]
  by_cases e : b = j
  · subst e
    show rfB (gSea γ bb nb) el F1 (el (γ 14 c) b) _ _ _
    rw [bj, p1]
    refine ⟨Nat.succ_pos _, ?_, ?_⟩
    · show rfR (gSea γ bb nb) el F1 (γ 14 bb) _ _
      have hr1 := rfR_c (γ1 := gSea γ bb nb) (el1 := el) hT (rfL_l hT b0).1 hr hFF ⟨rfl, rfl⟩
      refine ⟨hr1.1, fun k hk => ?_⟩
      rw [p2 k (by omega)]
      exact hr1.2 k (by omega)
    · show edE _ _ (fI (F1 (γ 15 bb)) 0) (fI (F1 (γ 15 bb)) 2) (fI (F1 (γ 15 bb)) 5) _ _
      have z := q5 b h1.symm
      rw [enb, e2, e3, show Q.2.1 b + 1 - 1 = Q.2.1 b from rfl, p3]
      exact z
  · obtain ⟨o1, o2, o3⟩ := pgL_o (P := Q) (l := ll) (b := b) (by omega)
    have hB := hB2 b (by omega)
    show rfB (gSea γ bb nb) el F1 (el (γ 14 c) b) _ _ _
    rw [o1, o2, q4 b (by omega)]
    exact rfB_c (γ1 := gSea γ bb nb) (el1 := el) hT hB (hb b (by omega)) hFF rfl rfl ⟨rfl, rfl⟩
/-- what stands at the head of the rows' loop -/
def cpL (D : va_G) (I : FieldType → ClassId) (f : Nat) (γ0 : Nat → Nat → Nat) (F0 : Nat → va_E) (c i bb j : Nat) (Q : gPg) (P : List Nat) (F : Nat → va_E) (γ el : Nat → Nat → Nat) : Prop := srI f γ0 F0 γ F ∧ rfL γ el F c i bb (cpP Q i j) ∧ (γ 0 bb = 202 ∧ γ 1 bb = f ∧ el (γ 14 c) i = bb ∧ i < γ 2 (γ 14 c)) ∧ γ 0 c = 9 ∧ γ 1 c = f
theorem c29 {l2 s5 : Int32} {s1 e2 : List Nat} {s2 e1 : Nat → va_E} {s3 s4 e3 e4 : Nat → Nat → Nat} {kx : Nat} (hl2 : l2.toInt = (i : Int)) (hT0 : RS D I P F0 γ0 el0) (ho9 : γ0 0 o = 9) (hof : γ0 1 o ≠ f) (hq : rfP γ0 el0 F0 o Q) (hi : i < Q.1) (hBo : γ0 0 (el0 (γ0 14 o) i) = 2) (hBf : γ0 1 (el0 (γ0 14 o) i) ≠ f) (h : tl_RCode_copy_29 D I γ0 el0 f fo P F0 c l2 o (el0 (γ0 14 o) i) bb s1 s2 s3 s4 s5 kx e1 e2 e3 e4) : ∀ j : Nat, s5.toInt = (j : Int) → j + 1 ≤ Q.2.1 i → cpL D I f γ0 F0 c i bb j Q s1 s2 s3 s4 → cpL D I f γ0 F0 c i bb (Q.2.1 i - 1) Q e2 e1 e3 e4 ∧ RS D I e2 e1 e3 e4 ∧ rSk f [1, 2, 3, 101, 102, 103, 202] ([1, 2, 3, 4, 5, 6, 7, 8, 9, 101, 102, 103, 202]) D I P F0 γ0 el0 e2 e1 e3 e4 ∧ rKb e3 e4 c i ∧ (fI (e1 c) 3).toInt = (i : Int) + 1 := by
  obtain ⟨l, nn, p, s, v1, ⟨g1, g2, g3⟩, v3, v4, v5, v6, -⟩ := show rk_2 γ0 (el0 (γ0 14 o) i) (F0 (el0 (γ0 14 o) i)) from RS_o hT0 hBo
  have kl := (show rk_3 D I γ0 el0 F0 l from RS_o hT0 v3).2
  have v4 : γ0 1 l = γ0 1 (el0 (γ0 14 o) i) := v4
  have v3 : γ0 0 l = 3 := v3
  obtain ⟨b0, ⟨b1, b2⟩, b3⟩ := hq.2.2 i hi
  refine h (fun s1 s2 s3 s4 s5 _ e1 e2 e3 e4 => ∀ j : Nat, s5.toInt = (j : Int) → j + 1 ≤ Q.2.1 i → cpL D I f γ0 F0 c i bb j Q s1 s2 s3 s4 → cpL D I f γ0 F0 c i bb (Q.2.1 i - 1) Q e2 e1 e3 e4 ∧ RS D I e2 e1 e3 e4 ∧ rSk f [1, 2, 3, 101, 102, 103, 202] ([1, 2, 3, 4, 5, 6, 7, 8, 9, 101, 102, 103, 202]) D I P F0 γ0 el0 e2 e1 e3 e4 ∧ rKb e3 e4 c i ∧ (fI (e1 c) 3).toInt = (i : Int) + 1) ?_ ?_
  · intro P_2 F_2 gm_2 el_2 l5_2 x1 x2 h1 h2 h3 h4 h5 h6 h7 h8 h9 h10 h11 h12 h13 h14 h15 h16 h17
    intro j ej hj hC
    obtain ⟨hsr, hL, ⟨bb0, bb1, bj, bj2⟩, c0, c1⟩ := hC
    have hk := h3
    have hTs := h2
    have eS := hsr (el0 (γ0 14 o) i) (by omega) hBf (by omega)
    have ex1 : x1 = l := by rw [← h14, eS.1, v1]; rfl
    have ll := rSk_l hk (show rKd γ0 l 3 from v3) (by decide) (by rw [v4]; exact hBf)
    have em : x2.toInt = (Q.2.1 i - 1 : Int) := by rw [h15, ex1, ll.1, ← g1, b1]; omega
    have e : j = Q.2.1 i - 1 := by have := h17; omega
    rw [← e]
    exact ⟨⟨hsr, hL, ⟨bb0, bb1, bj, bj2⟩, c0, c1⟩, hTs, hk, by have z := h9; rw [show (l2.toInt : Int).toNat = i by omega] at z; exact z, by rw [h8, hl2]⟩
  · intro P_2 F_2 gm_2 el_2 l5_2 x1 x2 x3 x4 x5 x6 x7 x8 x9 x10 x11 x12 x13 x14 x15 x16 x17 x18 x19 x20 x21 x22 x23 x24 x25 x26 x27 x28 k e1 e2 e3 e4 h1 h2 h3 h4 h5 h6 h7 h8 h9 h10 h11 h12 h13 h14 h15 h16 h17 h18 h19 h20 h21 h22 h23 h24 h25 h26 h27 h28 h29 h30 h31 h32 h33 h34 ih
    intro j ej hj hC
    obtain ⟨hsr, hL, ⟨bb0, bb1, bj, bj2⟩, c0, c1⟩ := hC
    have hk := h3
    have hTs := h2
    have eS := hsr (el0 (γ0 14 o) i) (by omega) hBf (by omega)
    have ex1 : x1 = l := by rw [← h14, eS.1, v1]; rfl
    have ll := rSk_l hk (show rKd γ0 l 3 from v3) (by decide) (by rw [v4]; exact hBf)
    have em : x2.toInt = (Q.2.1 i - 1 : Int) := by rw [h15, ex1, ll.1, ← g1, b1]; omega
    have hlt := h17
    have hKb := h9
    rw [show (l2.toInt : Int).toNat = i by omega] at hKb
    have hR := h18
    obtain ⟨st3, x0, x1', x22, x8, g16, g18, hnu3, hl3, h45, ⟨x5', x6', hmd3⟩, -, -, -⟩ := id hR
    have sk3 := rSk_of st3
    obtain ⟨-, a4, -, -, -⟩ := rc_at hTs c0 c1
    have hL3 : rfL x5 x6 x4 c i bb (cpP Q i j) := rfL_st hTs hL c0 hKb bb0 sk3 (by decide) (hl3 _ (by rw [a4]; decide) (by rw [a4]; decide)).2 (fun a ha => hl3 a (by rw [ha]; decide) (by rw [ha]; decide))
    have hsr3 := srI_st hsr st3
    have eS3 := hsr3 (el0 (γ0 14 o) i) (by omega) hBf (by omega)
    have ex10 : x10 = l := by rw [← h19, eS3.1, v1]; rfl
    have el3 : x6 l = el0 l := by
      have z := hl3 l (by rw [(hsr l (by omega) (by rw [v4]; exact hBf) (by omega)).2.1, v3]; decide) (by rw [(hsr l (by omega) (by rw [v4]; exact hBf) (by omega)).2.1, v3]; decide)
      rw [z.2, ll.2.2.2]
    have kr := kl j (by rw [← g1, b1]; omega)
    have ex11 : x11 = el0 l j := by rw [h20, ex10, el3, show l5_2.toInt.toNat = j by omega]
    have eRow : x4 x11 = F0 (el0 l j) := by
      rw [ex11]
      exact (hsr3 _ (by rw [kr.1]; decide) (by rw [kr.2.1, v4]; exact hBf) (by rw [kr.1]; decide)).1
    have hfr := h30
    have hrow := h31
    have c03 : x5 0 c = 9 := rSk_k sk3 (show rKd gm_2 c 9 from c0) (by decide) (by decide)
    have c13 : x5 1 c = f := rSk_1 sk3 (show rKd gm_2 c 9 from c0) (by decide) c1
    have bb3 : x5 0 bb = 202 := rSk_k sk3 (show rKd gm_2 bb 202 from bb0) (by decide) (by decide)
    have e14c : x5 14 c = gm_2 14 c := (rSk_s sk3 (show rKd gm_2 c 9 from c0) (by decide)).2.1
    have hKb3 : ∀ b, b < i → x5 0 (x6 (x5 14 c) b) = 2 := fun b hb => by
      rw [e14c, (hl3 _ (by rw [a4]; decide) (by rw [a4]; decide)).2]
      exact rSk_k sk3 (show rKd gm_2 _ 2 from hKb b hb) (by decide) (by decide)
    have hRk : rkR (x20 x7) := by
      obtain ⟨op, t', a, b, s', ra, rb, he, r1, r2, r3, r4, r5, r6, r7, r8, r9, r10⟩ := show rk_1 γ0 (el0 l j) (F0 (el0 l j)) from RS_o hT0 kr.1
      have er : x20 x7 = .inr (20, [.int op, .int t', .int a, .int b, .int s', .int ra, .int rb]) := by
        rw [hrow, ← h23, ← h24, ← h25, ← h26, ← h27, ← h28, ← h29, eRow, he]
        rfl
      exact ⟨op, t', a, b, s', ra, rb, er, r1, r2, r3, r4, r5, r6, r7, r8⟩
    have hRx : rkR (x20 x7) ∧ RS D I x3 x20 x5 x6 := by
      exact ⟨hRk, (RS_ow st3.1 rSub_rf hfr (wm_c (Or.inr (fit_101 x0 hRk)) wm_n))⟩
    have hT20 := hRx.2
    have hL20 : rfL x5 x6 x20 c i bb (cpP Q i j) := rfL_ow st3.1 hL3 hKb3 bb3 hfr (wm_c (by rw [x0]; decide) wm_n)
    have e21 : x21 = x5 14 bb := by
      obtain ⟨lb, nb, p0, s0, w1, ⟨u1, u2, u3⟩, -⟩ := show rk_202 x5 bb (x20 bb) from RS_o hT20 bb3
      rw [← h32, w1, u1]
      rfl
    have hI := h33
    rw [e21] at hI
    obtain ⟨st5, y0, y2, yel, yo, y16, y18, hnu5, yF, -, -, -⟩ := hI
    have sk5 := rSk_of st5
    obtain ⟨-, a45, -, -, -⟩ := rc_at hT20 c03 c13
    have l3b := (rfL_l hT20 bb3).1
    have hll5 := yo (x5 14 c) (by rw [a45]; decide) (fun e => by rw [e, l3b] at a45; cases a45)
    have hL5 := rfL_add (x := x7) (ll := Q.2.2.1 i j) hT20 hL20 c03 hKb3 bb3 sk5 (by decide) hll5.2 y2 yel yo yF (by
      have z := b2 j (by omega)
      rw [g1] at z
      rw [hrow]
      show rwE (Q.2.2.1 i j) x13 x14 x15 x16 x18 x19
      rw [← h23, ← h24, ← h25, ← h26, ← h28, ← h29, eRow]
      exact z)
    rw [cpP_s] at hL5
    have hsr20 : srI f γ0 F0 x5 x20 := srI_w hsr3 x1' (fun b hb hne => hfr b hb (nm_c hne nm_n)) st3.1
    refine ih (j + 1) (by omega) (by omega) ⟨srI_st hsr20 st5, hL5, ⟨rSk_k sk5 (show rKd x5 bb 202 from bb3) (by decide) (by decide), (rSk_1 sk5 (show rKd x5 bb 202 from bb3) (by decide) (rSk_1 sk3 (show rKd gm_2 bb 202 from bb0) (by decide) bb1)), ?_, ?_⟩, rSk_k sk5 (show rKd x5 c 9 from c03) (by decide) (by decide), rSk_1 sk5 (show rKd x5 c 9 from c03) (by decide) c13⟩
    · rw [(rSk_s sk5 (show rKd x5 c 9 from c03) (by decide)).2.1, hll5.2, e14c, (hl3 _ (by rw [a4]; decide) (by rw [a4]; decide)).2]
      exact bj
    · rw [(rSk_s sk5 (show rKd x5 c 9 from c03) (by decide)).2.1, hll5.1, e14c, (hl3 _ (by rw [a4]; decide) (by rw [a4]; decide)).1]
      exact bj2
theorem c6 {s5 : Int32} {s1 e2 : List Nat} {s2 e1 : Nat → va_E} {s3 s4 e3 e4 : Nat → Nat → Nat} {kx : Nat} (hT0 : RS D I P F0 γ0 el0) (ho9 : γ0 0 o = 9) (hof : γ0 1 o ≠ f) (hcf : γ0 1 c = f) (hq : rfP γ0 el0 F0 o Q) (hBo : ∀ i, i < Q.1 → γ0 0 (el0 (γ0 14 o) i) = 2) (h : tl_RCode_copy_6 D I γ0 el0 f fo P F0 c o s1 s2 s3 s4 s5 kx e1 e2 e3 e4) : ∀ i : Nat, s5.toInt = (i : Int) → i ≤ Q.1 → srI f γ0 F0 s3 s2 → rfI s3 s4 s2 c i (i, Q.2.1, Q.2.2.1, Q.2.2.2) → γ0 0 c = 9 → rfI e3 e4 e1 c Q.1 Q ∧ (fI (e1 c) 3).toInt = (Q.1 : Int) ∧ RS D I e2 e1 e3 e4 ∧ rSk f [1, 2, 3, 101, 102, 103, 202] ([1, 2, 3, 4, 5, 6, 7, 8, 9, 101, 102, 103, 202]) D I P F0 γ0 el0 e2 e1 e3 e4 ∧ rKb e3 e4 c Q.1 := by
  obtain ⟨lb, lr, rn, md, z1, ⟨z2, z3, z4⟩, z5, z6, -⟩ := show rk_9 γ0 el0 o (F0 o) from RS_o hT0 ho9
  have z6 : γ0 1 lb = γ0 1 o := z6
  have k4 := (show rk_4 D I γ0 el0 F0 lb from RS_o hT0 z5).2
  refine h (fun s1 s2 s3 s4 s5 _ e1 e2 e3 e4 => ∀ i : Nat, s5.toInt = (i : Int) → i ≤ Q.1 → srI f γ0 F0 s3 s2 → rfI s3 s4 s2 c i (i, Q.2.1, Q.2.2.1, Q.2.2.2) → γ0 0 c = 9 → rfI e3 e4 e1 c Q.1 Q ∧ (fI (e1 c) 3).toInt = (Q.1 : Int) ∧ RS D I e2 e1 e3 e4 ∧ rSk f [1, 2, 3, 101, 102, 103, 202] ([1, 2, 3, 4, 5, 6, 7, 8, 9, 101, 102, 103, 202]) D I P F0 γ0 el0 e2 e1 e3 e4 ∧ rKb e3 e4 c Q.1) ?_ ?_
  · intro P_1 F_1 gm_1 el_1 l2_1 x1 h1 h2 h3 h4 h5 h6 h7 h8 h9 h10 h11 h12 h13
    intro i ei hi hsr hr hc9
    have hk := h3
    have hTs := h2
    have eo := (hsr o (by omega) hof (by omega)).1
    have ex : x1.toInt = (Q.1 : Int) := by rw [← h12, eo]; exact hq.1
    have c0 : gm_1 0 c = 9 := rSk_k hk (show rKd γ0 c 9 from hc9) (by decide) (by decide)
    have c1 : gm_1 1 c = f := rSk_1 hk (show rKd γ0 c 9 from hc9) (by decide) hcf
    have hKb := h9
    rw [show (l2_1.toInt : Int).toNat = i by omega] at hKb
    have hmd : (fI (F_1 c) 3).toInt = (i : Int) := by rw [h8, ei]
    have e : i = Q.1 := by have := h13; omega
    rw [e] at hr hmd hKb
    exact ⟨hr, hmd, hTs, hk, hKb⟩
  · intro P_1 F_1 gm_1 el_1 l2_1 x1 x2 x3 x4 x5 x6 x7 x8 x9 x10 x11 x12 x13 x14 x15 x16 x17 x18 x19 x20 x21 x22 x23 x24 x25 x26 x27 x28 x29 x30 x31 k e1 e2 e3 e4 h1 h2 h3 h4 h5 h6 h7 h8 h9 h10 h11 h12 h13 h14 h15 h16 h17 h18 h19 h20 h21 h22 h23 h24 h25 h26 h27 h28 h29 h30 h31 h32 h33 h34 h35 h36 h37 h38 h39 ih
    intro i ei hi hsr hr hc9
    have hk := h3
    have hTs := h2
    have eo := (hsr o (by omega) hof (by omega)).1
    have ex : x1.toInt = (Q.1 : Int) := by rw [← h12, eo]; exact hq.1
    have c0 : gm_1 0 c = 9 := rSk_k hk (show rKd γ0 c 9 from hc9) (by decide) (by decide)
    have c1 : gm_1 1 c = f := rSk_1 hk (show rKd γ0 c 9 from hc9) (by decide) hcf
    have hKb := h9
    rw [show (l2_1.toInt : Int).toNat = i by omega] at hKb
    have hmd : (fI (F_1 c) 3).toInt = (i : Int) := by rw [h8, ei]
    have hlt := h13
    have hiq : i < Q.1 := by omega
    have hl4 := rSk_l hk (show rKd γ0 lb 4 from z5) (by decide) (by rw [z6]; exact hof)
    have eX3 : x3 = el0 (γ0 14 o) i := by
      rw [h15, ← h14, eo, z1, z2, show l2_1.toInt.toNat = i by omega, ← hl4.2.2.2]
      rfl
    have hB := hBo i hiq
    have hBf : γ0 1 (el0 (γ0 14 o) i) ≠ f := by
      obtain ⟨k, k1, -⟩ := k4 i (by
        have := (show rk_9 γ0 el0 o (F0 o) from RS_o hT0 ho9)
        obtain ⟨lb', lr', rn', md', y1, ⟨y2, -, -⟩, y5, y6, y7, y8, y9, y10, y11, y12, -⟩ := this
        have e1 : lb' = lb := y2.symm.trans z2
        have e2 : md'.toInt = (Q.1 : Int) := by have z := hq.1; rw [y1] at z; exact z
        rw [e1] at y12
        omega)
      rw [z2, k1, z6]
      exact hof
    have hq' := h18
    have hL := rfL_bl hTs hr c0 hmd hKb hq'
    obtain ⟨st, b0, b1, ⟨j', m1, m2, m3, m4, m5, m6⟩, n0, -⟩ := id hq'
    have ej : j' = i := by omega
    subst ej
    have skb := rSk_of st
    have e14 : x7 14 c = gm_1 14 c := (rSk_s skb (show rKd gm_1 c 9 from c0) (by decide)).2.1
    have hL29 := h19
    rw [eX3] at hL29
    obtain ⟨⟨q1, q2, ⟨q3, q4, q5, q6⟩, q7, q8⟩, t1, t2, t3, t4⟩ := c29 ei hT0 ho9 hof hq hiq hB hBf hL29 0 (by decide) (by have := (hq.2.2 j' hiq).1; omega) ⟨srI_st hsr st, hL, ⟨b0, b1, by rw [e14]; exact m4, by rw [e14]; exact m3⟩, rSk_k skb (show rKd gm_1 c 9 from c0) (by decide) (by decide), rSk_1 skb (show rKd gm_1 c 9 from c0) (by decide) c1⟩
    have eB12 := (q1 (el0 (γ0 14 o) j') (by omega) hBf (by omega)).1
    obtain ⟨l, nn, p, s, v1, ⟨g1, g2, g3⟩, v3, v4, v5, v6, -⟩ := show rk_2 γ0 (el0 (γ0 14 o) j') (F0 (el0 (γ0 14 o) j')) from RS_o hT0 hB
    have v6 : γ0 1 nn = γ0 1 (el0 (γ0 14 o) j') := v6
    have v5 : γ0 0 nn = 1 := v5
    have e17 : x17 = nn := by rw [← h21, eX3, eB12, v1]; rfl
    have e17F : x12 x17 = F0 nn := by rw [e17]; exact (q1 nn (by omega) (by rw [v6]; exact hBf) (by omega)).1
    have h202 : rk_202 x14 x9 (x12 x9) := RS_o t1 q3
    obtain ⟨lb2, nb2, p0, s0, w1, -⟩ := id h202
    obtain ⟨⟨u1, u1', u1''⟩, u2, u3, u4, u5, u6, u7, u8⟩ := rk202_at w1 h202
    have e16 : x16 = nb2 := by rw [← h20, w1]; rfl
    have fr := h29
    have nbB : x9 ≠ x16 := fun e => by rw [← e16, ← e, q3] at u4; cases u4
    have f25B : x25 x9 = x12 x9 := fr _ (t1.1 _ (by omega)) (nm_c nbB nm_n)
    have f25S : x25 x3 = F0 (el0 (γ0 14 o) j') := by
      rw [eX3, fr _ (t1.1 _ (by rw [(q1 _ (show γ0 0 (el0 (γ0 14 o) j') ≠ 0 by omega) hBf (by omega)).2.1]; omega)) (nm_c (fun e => hBf (by rw [← (q1 _ (show γ0 0 (el0 (γ0 14 o) j') ≠ 0 by omega) hBf (by omega)).2.2, e, e16, u5, q4])) nm_n)]
      exact eB12
    have hn9 : ∀ a, x14 1 a ≠ f → a ≠ x9 := fun a ha e => ha (by rw [e]; exact q4)
    have f27S : x27 x3 = F0 (el0 (γ0 14 o) j') := by
      rw [h32 _ (by rw [eX3]; exact hn9 _ (by rw [(q1 _ (show γ0 0 (el0 (γ0 14 o) j') ≠ 0 by omega) hBf (by omega)).2.2]; exact hBf))]
      exact f25S
    have e27 : x27 x9 = .inr (17, [.ref lb2, .ref nb2, .int x26, .int s0]) := by rw [h33, f25B, w1]; rfl
    have e29 : x29 x9 = .inr (17, [.ref lb2, .ref nb2, .int x26, .int x28]) := by rw [h36, e27]; rfl
    have e2916 : x29 x16 = x25 x16 := (h35 _ (Ne.symm nbB)).trans (h32 _ (Ne.symm nbB))
    have hFF : ∀ a, x14 0 a = 1 ∨ x14 0 a = 2 → x29 a = x12 a := fun a ha => by
      have n1 : a ≠ x9 := fun e => by rw [e, q3] at ha; omega
      have n2 : a ≠ x16 := fun e => by rw [e, e16, u4] at ha; omega
      rw [h35 _ n1, h32 _ n1]
      exact fr _ (t1.1 _ (by omega)) (nm_c n2 nm_n)
    obtain ⟨b0', b1', b3'⟩ := hq.2.2 j' hiq
    have hen := rfI_en (P2 := P) (Q1 := (j' + 1, Q.2.1, Q.2.2.1, Q.2.2.2)) (ll := Q.2.2.1 j' (Q.2.1 j' - 1)) (fi := x26) (se := x28) (nb := x16) t1 q2 t3 q3 q5 hFF (by rw [e16]; exact u1') (by rw [e29]; rfl) (by rw [e29]; rfl) rfl (by
        rw [cpP_s]
        funext b
        show Q.2.1 b = if b = j' then Q.2.1 j' - 1 + 1 else Q.2.1 b
        by_cases e : b = j'
        · rw [if_pos e, e]; omega
        · rw [if_neg e]) (by rw [cpP_s]; rfl) (fun b hb => by
        funext t
        show Q.2.2.2 b t = if b = j' then -1 else Q.2.2.2 b t
        rw [if_neg (fun e => hb (by rw [e]; rfl))]) (fun b hb => by
        have e : b = j' := by have z : b + 1 = j' + 1 := hb; omega
        rw [e]
        show edE _ (Q.2.2.2 j') _ _ _ _ _
        rw [e2916, h30]
        show edE _ (Q.2.2.2 j') x18 x20 x23 x26 x28
        rw [← h22, ← h24, ← h27, e17F, ← h31, f25S, ← h34, f27S, ← g2]
        exact b3')
    rw [h38] at ih
    refine ih (j' + 1) (by omega) (by omega) (fun a w0 w1' w2 => ?_) hen hc9
    obtain ⟨y1, y2, y3⟩ := q1 a w0 w1' w2
    have n1 : a ≠ x9 := fun e => w1' (by rw [← y3, e]; exact q4)
    have n2 : a ≠ x16 := fun e => w1' (by rw [← y3, e, e16, u5]; exact q4)
    refine ⟨?_, ?_, y3⟩
    · rw [h35 _ n1, h32 _ n1, fr _ (t1.1 _ (by rw [y2]; exact w0)) (nm_c n2 nm_n)]
      exact y1
    · show (if a = x9 then 2 else if a = x16 then 1 else x14 0 a) = _
      rw [if_neg n1, if_neg n2]
      exact y2
/-- copy: the copy holds what the other program holds -/
theorem cp_tr {P2 : List Nat} {F2 : Nat → va_E} {γ2 el2 : Nat → Nat → Nat} (hT0 : RS D I P F0 γ0 el0) (ho9 : γ0 0 o = 9) (hof : γ0 1 o ≠ f) (hc9 : γ0 0 c = 9) (hcf : γ0 1 c = f) (hq : rfP γ0 el0 F0 o Q) (hBo : ∀ i, i < Q.1 → γ0 0 (el0 (γ0 14 o) i) = 2) (h : tr_RCode_copy D I γ0 el0 f fo P F0 c o P2 F2 γ2 el2) : rfP γ2 el2 F2 c Q ∧ ∀ i, i < Q.1 → γ2 0 (el2 (γ2 14 c) i) = 2 := by
  refine h (fun P2 F2 γ2 el2 => rfP γ2 el2 F2 c Q ∧ ∀ i, i < Q.1 → γ2 0 (el2 (γ2 14 c) i) = 2) ?_
  · intro x1 x2 x3 x4 x5 x6 x7 x8 x9 x10 h1 h2 h3 h4 h5
    have eg := h1
    have ee := h2
    subst eg
    subst ee
    have hG := h3
    obtain ⟨st, -⟩ := id hG
    obtain ⟨y1, y2, y3, y4, y5⟩ := c6 hT0 ho9 hof hcf hq hBo h4 0 (by decide) (Nat.zero_le _) (srI_st (fun a _ _ _ => ⟨rfl, rfl, rfl⟩) st) ⟨rfl, fun b hb => absurd hb (Nat.not_lt_zero b)⟩ hc9
    rw [h5]
    have e : ∀ i, i ≠ 6 → gVal x8 6 f (x1 6 fo) i = x8 i := fun i h => gVal_ne h
    refine ⟨⟨y2, rfI_g y1 (e 2 (by decide)) (e 14 (by decide)) (e 15 (by decide))⟩, fun i hi => ?_⟩
    rw [e 0 (by decide), e 14 (by decide)]
    exact y5 i hi
end CPY
