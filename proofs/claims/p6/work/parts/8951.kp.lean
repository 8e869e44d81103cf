/-! the program and the tape through the law's calls -/
def pgR (γ el : Nat → Nat → Nat) (F : Nat → va_E) (Q : gPg) : Prop := rfP γ el F (γ 9 6) Q ∧ qOk Q ∧ 0 < Q.1 ∧ Q.1 ≤ 40
/-- what a call keeps: the addresses, the tape, the flag, the program -/
def kpT (m : Nat) (γ el : Nat → Nat → Nat) (F : Nat → va_E) (γ1 el1 : Nat → Nat → Nat) (F1 : Nat → va_E) : Prop := γ1 9 = γ 9 ∧ F1 (γ 9 31) = F (γ 9 31) ∧ (fI (F1 m) 9).toInt = (fI (F m) 9).toInt ∧ ((fI (F m) 9).toInt ≠ 0 → ∀ Q, pgR γ el F Q → pgR γ1 el1 F1 Q)
section KPT
variable {D : va_G} {I : FieldType → ClassId} {P P1 : List Nat} {F F1 F2 : Nat → va_E} {γ γ1 γ2 el el1 el2 : Nat → Nat → Nat} {m c f : Nat} {n : Int} {Q : gPg} {K KF W : List Nat}
theorem rf_6 (hT : RS D I P F γ el) (c9 : γ 0 c = 9) (cf : γ 1 c = f) (h6 : 0 < γ 6 f) (h : (fI (F c) 3).toInt = (Q.1 : Int)) : γ 6 f = Q.1 ∧ (∀ i, i < Q.1 → γ 0 (el (γ 14 c) i) = 2) ∧ Q.1 ≤ γ 2 (γ 14 c) := by
  obtain ⟨lb, lr, rn, md, he, ⟨g1, g2, g3⟩, k1, k2, k3, k4, r1, r2, r3, r4, r5, r6, r7, r8, r9, -⟩ := show rk_9 γ el c (F c) from RS_o hT c9
  have e3 : fI (F c) 3 = md := by rw [he]; rfl
  rw [e3] at h
  rw [cf] at r7 r8
  have e6 := (r7.resolve_left (by omega)).1
  refine ⟨by omega, fun i hi => ?_, by rw [g1]; omega⟩
  rw [g1]
  exact (r8 i (by omega)).resolve_right (fun z => by omega)
theorem rf_k (hT : RS D I P F γ el) (c9 : γ 0 c = 9) (cf : γ 1 c = f) (h2 : ∀ i, i < Q.1 → γ 0 (el (γ 14 c) i) = 2) (hle : Q.1 ≤ γ 2 (γ 14 c)) (h : rfP γ el F c Q) (hF : ∀ x, γ 0 x = 1 ∨ γ 0 x = 2 ∨ γ 0 x = 9 → γ 1 x = f → F1 x = F x)
    (hg : ∀ x, γ 0 x = 2 ∨ γ 0 x = 9 → γ 1 x = f → γ1 14 x = γ 14 x ∧ γ1 15 x = γ 15 x) (hl : ∀ x, γ 0 x = 3 ∨ γ 0 x = 4 → γ 1 x = f → γ1 2 x = γ 2 x ∧ el1 x = el x) : rfP γ1 el1 F1 c Q := by
  obtain ⟨a21, a4, a41, a5, a51⟩ := rc_at hT c9 cf
  have kl := (show rk_4 D I γ el F (γ 14 c) from RS_o hT a4).2
  obtain ⟨h1, h3, h4⟩ := h
  refine ⟨by rw [hF c (Or.inr (Or.inr c9)) cf]; exact h1, h3, fun b hb => ?_⟩
  have B2 := h2 b hb
  have B1 : γ 1 (el (γ 14 c) b) = f := ((kl b (by omega)).2.1).trans a41
  rw [(hg c (Or.inr c9) cf).1, (hl _ (Or.inr a4) a41).2]
  obtain ⟨l, nn, p, s, v1, ⟨g1, g2, g3⟩, v3, v4, v5, v6, -⟩ := show rk_2 γ (el (γ 14 c) b) (F (el (γ 14 c) b)) from RS_o hT B2
  have w3 : γ 0 l = 3 := v3
  have w4 : γ 1 l = f := (show γ 1 l = γ 1 (el (γ 14 c) b) from v4).trans B1
  have w5 : γ 0 nn = 1 := v5
  have w6 : γ 1 nn = f := (show γ 1 nn = γ 1 (el (γ 14 c) b) from v6).trans B1
  have k3 := (show rk_3 D I γ el F l from RS_o hT w3).2
  obtain ⟨x0, ⟨x1, x2⟩, x3⟩ := h4 b hb
  rw [g1] at x1 x2
  rw [g2] at x3
  refine ⟨x0, ?_, ?_⟩
  · rw [(hg _ (Or.inl B2) B1).1, g1]
    refine ⟨(hl l (Or.inl w3) w4).1.trans x1, fun k hk => ?_⟩
    rw [(hl l (Or.inl w3) w4).2, hF _ (Or.inl (k3 k (by omega)).1) ((k3 k (by omega)).2.1.trans w4)]
    exact x2 k hk
  · rw [(hg _ (Or.inl B2) B1).2, g2, hF _ (Or.inr (Or.inl B2)) B1, hF nn (Or.inl w5) w6]
    exact x3
theorem pg_j (hj : ∀ j, j ≠ 0 → j ≠ 12 → γ2 j = γ j) (h : pgR γ el F Q) : pgR γ2 el F Q := by
  unfold pgR rfP rfI rfB rfR at h ⊢
  rw [hj 9 (by decide) (by decide), hj 14 (by decide) (by decide), hj 15 (by decide) (by decide), hj 2 (by decide) (by decide)]
  exact h
/-- the kinds that the law needs -/
theorem md_6 (hT : RS D I P F γ el) (hm : γ 0 m = 10) : γ 0 (γ 9 6) = 9 ∧ γ 1 (γ 9 6) = 0 ∧ γ 0 (γ 9 31) = 99 ∧ γ 9 31 ≠ m := by
  obtain ⟨r28, r35, v9, v10, v11, v12, v13, v14, v23, v24, v25, v26, v27, v30, v32, v33, v34, he, hM1, hK, hM2⟩ := rk10_m (show rk_10 γ (F m) from RS_o hT hm)
  obtain ⟨k0, k1, k2, k3, k4, k5, k6, k7, k8, k9, k10, k11, k12, k13, k14, k15, k16, k17, k18, kW, k20, k21, k22, k23⟩ := hK
  have q20 : γ 0 (γ 9 31) = 99 := k20
  exact ⟨k8, k21, q20, fun e => by rw [e, hm] at q20; omega⟩
theorem kpT_t (h : mdS D I m n P F γ el) (hs : rStr γ [] F F1) (h9 : (fI (F1 m) 9).toInt = (fI (F m) 9).toInt) : kpT m γ el F γ el F1 := by
  obtain ⟨s1, s2, s3, s4, -⟩ := h
  obtain ⟨c9, cf, ct, -⟩ := md_6 s1 s2
  refine ⟨rfl, hs _ (by omega) (Or.inr (by omega)) (fun z => nomatch z), h9, fun hn Q hq => ?_⟩
  obtain ⟨e6, e2, el2⟩ := rf_6 s1 c9 cf (s4.resolve_left hn).1 hq.1.1
  exact ⟨rf_k s1 c9 cf e2 el2 hq.1 (fun x hx _ => hs x (by omega) (Or.inl (by omega)) (fun z => nomatch z)) (fun _ _ _ => ⟨rfl, rfl⟩) (fun _ _ _ => ⟨rfl, rfl⟩), hq.2⟩
/-- feed: the tape's cell changes -/
theorem kpT_f (h : mdS D I m n P F γ el) (hs : rStr γ [99] F F1) : (fI (F m) 9).toInt ≠ 0 → ∀ Q, pgR γ el F Q → pgR γ el F1 Q := by
  obtain ⟨s1, s2, s3, s4, -⟩ := h
  obtain ⟨c9, cf, ct, -⟩ := md_6 s1 s2
  intro hn Q hq
  obtain ⟨e6, e2, el2⟩ := rf_6 s1 c9 cf (s4.resolve_left hn).1 hq.1.1
  exact ⟨rf_k s1 c9 cf e2 el2 hq.1 (fun x hx _ => hs x (by omega) (Or.inl (by omega)) (fun z => by have := List.mem_singleton.mp z; omega)) (fun _ _ _ => ⟨rfl, rfl⟩) (fun _ _ _ => ⟨rfl, rfl⟩), hq.2⟩
theorem kpT_sk (h : mdS D I m n P F γ el) (hk : rSk f K KF D I P F γ el P1 F1 γ1 el1) (hf : f ≠ 0) (h999 : 999 ∉ KF) (h99 : 99 ∉ KF) (h9 : (fI (F1 m) 9).toInt = (fI (F m) 9).toInt) : kpT m γ el F γ1 el1 F1 := by
  obtain ⟨s1, s2, s3, s4, -⟩ := h
  obtain ⟨c9, cf, ct, -⟩ := md_6 s1 s2
  have e9 := rSk_9 hk
  refine ⟨e9, rSk_F hk (show rKd γ _ 99 from ct) (by decide) h99, h9, fun hn Q hq => ?_⟩
  obtain ⟨e6, e2, el2⟩ := rf_6 s1 c9 cf (s4.resolve_left hn).1 hq.1.1
  refine ⟨?_, hq.2⟩
  rw [e9]
  exact rf_k s1 c9 cf e2 el2 hq.1 (fun x hx e => hk.2.2.2 x (by omega) (Or.inr ⟨h999, fun z => hf (by rw [← z]; exact e), Or.inl (by omega)⟩))
    (fun x hx e => have q := (hk.2.2.1.2.1 x (by omega)).2; ⟨q.2.1, q.2.2.1⟩) (fun x hx e => have q := hk.2.2.1.2.2.1 x (by omega) (fun z => hf (by rw [← z]; exact e)); ⟨q.1, q.2.2.2⟩)
theorem kpT_tr (h : kpT m γ el F γ1 el1 F1) (g : kpT m γ1 el1 F1 γ2 el2 F2) : kpT m γ el F γ2 el2 F2 := by
  obtain ⟨a1, a2, a3, a4⟩ := h
  obtain ⟨b1, b2, b3, b4⟩ := g
  refine ⟨b1.trans a1, ?_, b3.trans a3, fun hn Q hq => b4 (by rw [a3]; exact hn) Q (a4 hn Q hq)⟩
  rw [a1] at b2
  exact b2.trans a2
theorem kpT_j (hj : ∀ j, j ≠ 0 → j ≠ 12 → γ2 j = γ j) : kpT m γ el F γ2 el F := ⟨hj 9 (by decide) (by decide), rfl, rfl, fun _ _ hq => pg_j hj hq⟩
/-- input: no ghost but kinds changes, the model's cell and a new array are written -/
theorem kpT_i (h : mdS D I m n P F γ el) (hk : rSk 0 [] [10, 26] D I P F γ el P1 F1 γ1 el) (hj : ∀ j, j ≠ 0 → γ1 j = γ j) (h9 : (fI (F1 m) 9).toInt = (fI (F m) 9).toInt) : kpT m γ el F γ1 el F1 := by
  obtain ⟨s1, s2, s3, s4, -⟩ := h
  obtain ⟨c9, cf, ct, -⟩ := md_6 s1 s2
  have e9 := rSk_9 hk
  refine ⟨e9, rSk_F hk (show rKd γ _ 99 from ct) (by decide) (by decide), h9, fun hn Q hq => ?_⟩
  obtain ⟨e6, e2, el2⟩ := rf_6 s1 c9 cf (s4.resolve_left hn).1 hq.1.1
  refine ⟨?_, hq.2⟩
  rw [e9]
  refine rf_k s1 c9 cf e2 el2 hq.1 (fun x hx e => hk.2.2.2 x (by omega) (Or.inl (fun z => ?_))) (fun x hx e => ⟨by rw [hj 14 (by decide)], by rw [hj 15 (by decide)]⟩) (fun x hx e => ⟨by rw [hj 2 (by decide)], rfl⟩)
  simp only [List.mem_cons, List.mem_singleton, List.not_mem_nil, or_false] at z
  omega
/-- class and model stand at the same text -/
def LK (I : FieldType → ClassId) (c : gCv) (n : Int) (m : Nat) (γ el : Nat → Nat → Nat) (F : Nat → va_E) : Prop := ∃ ft : Nat → Int32, F (γ 9 31) = .inl (I .byte, 8192, .inl ft) ∧ tpE c.1 ft n.toNat ∧
  (((fI (F m) 9).toInt = 0 ∧ c.2.1.toInt = 0) ∨ ((fI (F m) 9).toInt ≠ 0 ∧ c.2.1.toInt = 1 ∧ ∃ Q, pgR γ el F Q ∧ c.2.2.1.toInt = (Q.1 : Int) ∧ lkS Q c.2.2.2.1 c.2.2.2.2.1 c.2.2.2.2.2.1 c.2.2.2.2.2.2.1 ∧ cdC c Q ∧ ∃ (B : Int → Int) (n : Int), bOk B n ∧ okP B n Q))
theorem LK_k {cv : gCv} (h : LK I cv n m γ el F) (g : kpT m γ el F γ1 el1 F1) : LK I cv n m γ1 el1 F1 := by
  obtain ⟨ft, h1, h2, h3⟩ := h
  obtain ⟨g1, g2, g3, g4⟩ := g
  refine ⟨ft, by rw [g1]; exact g2.trans h1, h2, ?_⟩
  rw [g3]
  exact h3.imp id (fun q => ⟨q.1, q.2.1, q.2.2.elim fun Q r => ⟨Q, g4 q.1 Q r.1, r.2⟩⟩)
theorem LK_n {cv : gCv} {n1 : Int} (h : LK I cv n m γ el F) (hn : n1 ≤ n) : LK I cv n1 m γ el F := by
  obtain ⟨ft, h1, h2, h3⟩ := h
  exact ⟨ft, h1, tpE_l h2 (by omega), h3⟩
theorem txQ_j {B : Int → Int} (hj : ∀ j, j ≠ 0 → j ≠ 12 → γ2 j = γ j) (h : txQ γ el F m c B n) : txQ γ2 el F m c B n := by
  unfold txQ rfP rfI rfB rfR at h ⊢
  rw [hj 14 (by decide) (by decide), hj 15 (by decide) (by decide), hj 2 (by decide) (by decide)]
  exact h
/-- text -/
theorem LK_x {cv c1 : gCv} (hl : LK I cv n m γ el F) (hn : 0 ≤ n) (hc : txC cv.1 n c1) (e9 : γ2 9 = γ 9) (et : F1 (γ 9 31) = F (γ 9 31)) (hx : ∃ ft, F (γ 9 31) = .inl (I .byte, 8192, .inl ft) ∧ txQ γ2 el1 F1 m (γ 9 6) (bA ft n) n) : LK I c1 0 m γ2 el1 F1 := by
  obtain ⟨ft, h1, h2, -⟩ := hl
  obtain ⟨f2, h3, h4⟩ := hx
  have e := Sum.inl.inj (Prod.mk.inj (Prod.mk.inj (Sum.inl.inj (h3.symm.trans h1))).2).2
  rw [e] at h4
  have eb : bA cv.1 n = bA ft n := by
    have q := tpE_A h2
    rw [Int.toNat_of_nonneg hn] at q
    exact q
  refine ⟨ft, by rw [e9]; exact et.trans h1, tpE_0, ?_⟩
  unfold txC at hc
  rw [eb] at hc
  rcases hc with ⟨a1, R, a2, a3, a4⟩ | ⟨a1, a2⟩
  · rcases h4 with ⟨b1, Q, b2, b3⟩ | ⟨b1, b2⟩
    · have ePQ : R = Q := okP_u a2 b2
      subst ePQ
      have w := okP_f (bOk_bA hn) a2
      exact Or.inr ⟨by omega, a1, R, ⟨by rw [e9]; exact b3, ⟨w.2.2.2.2.1, fun b hb => blC_2 (w.2.2.2.2.2 b hb)⟩, w.2.2.1, w.2.1⟩, a3, a4.1, a4.2, _, _, bOk_bA hn, a2⟩
    · exact absurd a2 (b2 R)
  · rcases h4 with ⟨b1, Q, b2, b3⟩ | ⟨b1, b2⟩
    · exact absurd b2 (a2 Q)
    · exact Or.inl ⟨b1, a1⟩
/-- feed -/
theorem LK_f {cv : gCv} {a1 a2 a3 a4 a5 z s z1 z2 : Int32} {B : Nat → Int32} (h : mdS D I m n P F γ el) (hl : LK I cv n m γ el F) (hs : rStr γ [99] F F1) (h9 : (fI (F1 m) 9).toInt = (fI (F m) 9).toInt) (ht : tr_RModel_feed D I γ el P F m a1 a2 a3 a4 a5 z F1) (hn : 0 ≤ n) (hn8 : n ≤ 8172) (es : s.toInt = n) (hc : tr_SpillForge_feed a1 a2 a3 a4 a5 s cv.1 z1 z2 B) : LK I (B, cv.2) (n + 20) m γ el F1 := by
  have kp := kpT_f h hs
  obtain ⟨s1, s2, s3, -⟩ := h
  obtain ⟨ft, h1, h2, h3⟩ := hl
  have eB := fd_c (m := n.toNat) (by omega) hc
  rcases fd_r (f := ft) (m := n.toNat) s1 s2 (md_6 s1 s2).2.2.2 h1 (by rw [s3]; omega) ht with ⟨-, q⟩ | ⟨q, -⟩
  · refine ⟨_, q, ?_, ?_⟩
    · show tpE B _ _
      rw [eB, show (n + 20).toNat = n.toNat + 20 by omega]
      exact tpE_f h2
    · rw [h9]
      exact h3.imp id (fun q => ⟨q.1, q.2.1, q.2.2.elim fun Q r => ⟨Q, kp q.1 Q r.1, r.2⟩⟩)
  · omega
theorem LK_f1 {cv : gCv} {a1 a2 a3 a4 a5 z : Int32} (h : mdS D I m n P F γ el) (hl : LK I cv n m γ el F) (hs : rStr γ [99] F F1) (h9 : (fI (F1 m) 9).toInt = (fI (F m) 9).toInt) (ht : tr_RModel_feed D I γ el P F m a1 a2 a3 a4 a5 z F1) (hn : 8172 < n) : LK I cv n m γ el F1 := by
  have kp := kpT_f h hs
  obtain ⟨s1, s2, s3, -⟩ := h
  obtain ⟨ft, h1, h2, h3⟩ := id hl
  rcases fd_r (f := ft) (m := n.toNat) s1 s2 (md_6 s1 s2).2.2.2 h1 (by rw [s3]; omega) ht with ⟨q, -⟩ | ⟨-, q⟩
  · omega
  · exact LK_k hl ⟨rfl, q, h9, kp⟩
/-- the beginning -/
theorem LK_0 {cv : gCv} (h : mdS D I m 0 P F γ el) (h9 : (fI (F m) 9).toInt = 0) (hc : cv.2.1.toInt = 0) : LK I cv 0 m γ el F := by
  obtain ⟨s1, s2, -⟩ := h
  obtain ⟨ft, e, -⟩ := show rk_99 I (F (γ 9 31)) from RS_o s1 (md_6 s1 s2).2.2.1
  exact ⟨ft, e, tpE_0, Or.inl ⟨h9, hc⟩⟩
end KPT
