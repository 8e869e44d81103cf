section
/-! the program and the tape through the law's calls -/
def pgR (γ el : Nat → Nat → Nat) (F : Nat → va_E) (Q : gPg) : Prop := rfP γ el F (γ 9 6) Q ∧ qOk Q ∧ 0 < Q.1 ∧ Q.1 ≤ 40
/-- what a call keeps: the addresses, the tape, the flag, the program -/
def kpT (m : Nat) (γ el : Nat → Nat → Nat) (F : Nat → va_E) (γ1 el1 : Nat → Nat → Nat) (F1 : Nat → va_E) : Prop := γ1 9 = γ 9 ∧ F1 (γ 9 31) = F (γ 9 31) ∧ (fI (F1 m) 9).toInt = (fI (F m) 9).toInt ∧ ((fI (F m) 9).toInt ≠ 0 → ∀ Q, pgR γ el F Q → pgR γ1 el1 F1 Q)
section KPT
variable {D : va_G} {I : FieldType → ClassId} {P P1 : List Nat} {F F1 F2 : Nat → va_E} {γ γ1 γ2 el el1 el2 : Nat → Nat → Nat} {m c f : Nat} {n : Int} {Q : gPg} {K KF W : List Nat}
theorem rf_6 (hT : RS D I P F γ el) (c9 : γ 0 c = 9) (cf : γ 1 c = f) (h6 : 0 < γ 6 f) (h : (fI (F c) 3).toInt = (Q.1 : Int)) : γ 6 f = Q.1 ∧ (∀ i, i < Q.1 → γ 0 (el (γ 14 c) i) = 2) ∧ Q.1 ≤ γ 2 (γ 14 c) := by
  obtain ⟨lb, lr, rn, md, he, ⟨g1, g2, g3⟩, k1, k2, k3, k4, r1, r2, r3, r4, r5, r6, r7, r8, r9, -⟩ := show rk_9 γ el c (F c) from RS_o hT c9
  have e3 : fI (F c) 3 = md := by rw [he]; rfl
  rw [e3] at h
  rw [cf] at r7 r8
  have e6 := (r7.resolve_left (by omega)).1
  refine ⟨by omega, fun i hi => ?_, by rw [g1]; omega⟩
  rw [g1]
  exact (r8 i (by omega)).resolve_right (fun z => by omega)
theorem rf_k (hT : RS D I P F γ el) (c9 : γ 0 c = 9) (cf : γ 1 c = f) (h2 : ∀ i, i < Q.1 → γ 0 (el (γ 14 c) i) = 2) (hle : Q.1 ≤ γ 2 (γ 14 c)) (h : rfP γ el F c Q) (hF : ∀ x, γ 0 x = 1 ∨ γ 0 x = 2 ∨ γ 0 x = 9 → γ 1 x = f → F1 x = F x)
    (hg : ∀ x, γ 0 x = 2 ∨ γ 0 x = 9 → γ 1 x = f → γ1 14 x = γ 14 x ∧ γ1 15 x = γ 15 x) (hl : ∀ x, γ 0 x = 3 ∨ γ 0 x = 4 → γ 1 x = f → γ1 2 x = γ 2 x ∧ el1 x = el x) : rfP γ1 el1 F1 c Q := by
  obtain ⟨a21, a4, a41, a5, a51⟩ := rc_at hT c9 cf
  have kl := (show rk_4 D I γ el F (γ 14 c) from RS_o hT a4).2
  obtain ⟨h1, h3, h4⟩ := h
  refine ⟨by rw [hF c (Or.inr (Or.inr c9)) cf]; exact h1, h3, fun b hb => ?_⟩
  have B2 := h2 b hb
  have B1 : γ 1 (el (γ 14 c) b) = f := ((kl b (by omega)).2.1).trans a41
  rw [(hg c (Or.inr c9) cf).1, (hl _ (Or.inr a4) a41).2]
  obtain ⟨l, nn, p, s, v1, ⟨g1, g2, g3⟩, v3, v4, v5, v6, -⟩ := show rk_2 γ (el (γ 14 c) b) (F (el (γ 14 c) b)) from RS_o hT B2
  have w3 : γ 0 l = 3 := v3
  have w4 : γ 1 l = f := (show γ 1 l = γ 1 (el (γ 14 c) b) from v4).trans B1
  have w5 : γ 0 nn = 1 := v5
  have w6 : γ 1 nn = f := (show γ 1 nn = γ 1 (el (γ 14 c) b) from v6).trans B1
  have k3 := (show rk_3 D I γ el F l from RS_o hT w3).2
  obtain ⟨x0, ⟨x1, x2⟩, x3⟩ := h4 b hb
  rw [g1] at x1 x2
  rw [g2] at x3
  refine ⟨x0, ?_, ?_⟩
  · rw [(hg _ (Or.inl B2) B1).1, g1]
    refine ⟨(hl l (Or.inl w3) w4).1.trans x1, fun k hk => ?_⟩
    rw [(hl l (Or.inl w3) w4).2, hF _ (Or.inl (k3 k (by omega)).1) ((k3 k (by omega)).2.1.trans w4)]
    exact x2 k hk
  · rw [(hg _ (Or.inl B2) B1).2, g2, hF _ (Or.inr (Or.inl B2)) B1, hF nn (Or.inl w5) w6]
    exact x3
theorem pg_j (hj : ∀ j, j ≠ 0 → j ≠ 12 → γ2 j = γ j) (h : pgR γ el F Q) : pgR γ2 el F Q := by
  unfold pgR rfP rfI rfB rfR at h ⊢
  rw [hj 9 (by decide) (by decide), hj 14 (by decide) (by decide), hj 15 (by decide) (by decide), hj 2 (by decide) (by decide)]
  exact h
/-- the kinds that the law needs -/
theorem md_6 (hT : RS D I P F γ el) (hm : γ 0 m = 10) : γ 0 (γ 9 6) = 9 ∧ γ 1 (γ 9 6) = 0 ∧ γ 0 (γ 9 31) = 99 ∧ γ 9 31 ≠ m := by
  obtain ⟨r28, r35, v9, v10, v11, v12, v13, v14, v23, v24, v25, v26, v27, v30, v32, v33, v34, he, hM1, hK, hM2⟩ := rk10_m (show rk_10 γ (F m) from RS_o hT hm)
  obtain ⟨k0, k1, k2, k3, k4, k5, k6, k7, k8, k9, k10, k11, k12, k13, k14, k15, k16, k17, k18, kW, k20, k21, k22, k23⟩ := hK
  have q20 : γ 0 (γ 9 31) = 99 := k20
  exact ⟨k8, k21, q20, fun e => by rw [e, hm] at q20; omega⟩
theorem kpT_W (h : mdS D I m n P F γ el) (hs : rStr γ W F F1) (hW : 1 ∉ W ∧ 2 ∉ W ∧ 9 ∉ W ∧ 99 ∉ W) (h9 : (fI (F1 m) 9).toInt = (fI (F m) 9).toInt) : kpT m γ el F γ el F1 := by
  obtain ⟨s1, s2, s3, s4, -⟩ := h
  obtain ⟨c9, cf, ct, -⟩ := md_6 s1 s2
  refine ⟨rfl, hs _ (by omega) (Or.inr (by omega)) (by rw [ct]; exact hW.2.2.2), h9, fun hn Q hq => ?_⟩
  obtain ⟨e6, e2, el2⟩ := rf_6 s1 c9 cf (s4.resolve_left hn).1 hq.1.1
  refine ⟨rf_k s1 c9 cf e2 el2 hq.1 (fun x hx _ => hs x (by omega) (Or.inl (by omega)) ?_) (fun _ _ _ => ⟨rfl, rfl⟩) (fun _ _ _ => ⟨rfl, rfl⟩), hq.2⟩
  rcases hx with e | e | e
  · rw [e]; exact hW.1
  · rw [e]; exact hW.2.1
  · rw [e]; exact hW.2.2.1
theorem kpT_t (h : mdS D I m n P F γ el) (hs : rStr γ [] F F1) (h9 : (fI (F1 m) 9).toInt = (fI (F m) 9).toInt) : kpT m γ el F γ el F1 := kpT_W h hs ⟨List.not_mem_nil, List.not_mem_nil, List.not_mem_nil, List.not_mem_nil⟩ h9
/-- feed: the tape's cell changes -/
theorem kpT_f (h : mdS D I m n P F γ el) (hs : rStr γ [99] F F1) : (fI (F m) 9).toInt ≠ 0 → ∀ Q, pgR γ el F Q → pgR γ el F1 Q := by
  obtain ⟨s1, s2, s3, s4, -⟩ := h
  obtain ⟨c9, cf, ct, -⟩ := md_6 s1 s2
  intro hn Q hq
  obtain ⟨e6, e2, el2⟩ := rf_6 s1 c9 cf (s4.resolve_left hn).1 hq.1.1
  exact ⟨rf_k s1 c9 cf e2 el2 hq.1 (fun x hx _ => hs x (by omega) (Or.inl (by omega)) (fun z => by have := List.mem_singleton.mp z; omega)) (fun _ _ _ => ⟨rfl, rfl⟩) (fun _ _ _ => ⟨rfl, rfl⟩), hq.2⟩
theorem kpT_sk (h : mdS D I m n P F γ el) (hk : rSk f K KF D I P F γ el P1 F1 γ1 el1) (hf : f ≠ 0) (h999 : 999 ∉ KF) (h99 : 99 ∉ KF) (h9 : (fI (F1 m) 9).toInt = (fI (F m) 9).toInt) : kpT m γ el F γ1 el1 F1 := by
  obtain ⟨s1, s2, s3, s4, -⟩ := h
  obtain ⟨c9, cf, ct, -⟩ := md_6 s1 s2
  have e9 := rSk_9 hk
  refine ⟨e9, rSk_F hk (show rKd γ _ 99 from ct) (by decide) h99, h9, fun hn Q hq => ?_⟩
  obtain ⟨e6, e2, el2⟩ := rf_6 s1 c9 cf (s4.resolve_left hn).1 hq.1.1
  refine ⟨?_, hq.2⟩
  rw [e9]
  exact rf_k s1 c9 cf e2 el2 hq.1 (fun x hx e => hk.2.2.2 x (by omega) (Or.inr ⟨h999, fun z => hf (by rw [← z]; exact e), Or.inl (by omega)⟩))
    (fun x hx e => have q := (hk.2.2.1.2.1 x (by omega)).2; ⟨q.2.1, q.2.2.1⟩) (fun x hx e => have q := hk.2.2.1.2.2.1 x (by omega) (fun z => hf (by rw [← z]; exact e)); ⟨q.1, q.2.2.2⟩)
theorem kpT_tr (h : kpT m γ el F γ1 el1 F1) (g : kpT m γ1 el1 F1 γ2 el2 F2) : kpT m γ el F γ2 el2 F2 := by
  obtain ⟨a1, a2, a3, a4⟩ := h
  obtain ⟨b1, b2, b3, b4⟩ := g
  refine ⟨b1.trans a1, ?_, b3.trans a3, fun hn Q hq => b4 (by rw [a3]; exact hn) Q (a4 hn Q hq)⟩
  rw [a1] at b2
  exact b2.trans a2
theorem kpT_j (hj : ∀ j, j ≠ 0 → j ≠ 12 → γ2 j = γ j) : kpT m γ el F γ2 el F := ⟨hj 9 (by decide) (by decide), rfl, rfl, fun _ _ hq => pg_j hj hq⟩
/-- input: no ghost but kinds changes, the model's cell and a new array are written -/
theorem kpT_i (h : mdS D I m n P F γ el) (hk : rSk 0 [] [10, 98] D I P F γ el P1 F1 γ1 el) (hj : ∀ j, j ≠ 0 → γ1 j = γ j) (h9 : (fI (F1 m) 9).toInt = (fI (F m) 9).toInt) : kpT m γ el F γ1 el F1 := by
  obtain ⟨s1, s2, s3, s4, -⟩ := h
  obtain ⟨c9, cf, ct, -⟩ := md_6 s1 s2
  have e9 := rSk_9 hk
  refine ⟨e9, rSk_F hk (show rKd γ _ 99 from ct) (by decide) (by decide), h9, fun hn Q hq => ?_⟩
  obtain ⟨e6, e2, el2⟩ := rf_6 s1 c9 cf (s4.resolve_left hn).1 hq.1.1
  refine ⟨?_, hq.2⟩
  rw [e9]
  refine rf_k s1 c9 cf e2 el2 hq.1 (fun x hx e => hk.2.2.2 x (by omega) (Or.inl (fun z => ?_))) (fun x hx e => ⟨by rw [hj 14 (by decide)], by rw [hj 15 (by decide)]⟩) (fun x hx e => ⟨by rw [hj 2 (by decide)], rfl⟩)
  simp only [List.mem_cons, List.mem_singleton, List.not_mem_nil, or_false] at z
  omega
/-- class and model stand at the same text -/
def LK (I : FieldType → ClassId) (c : gCv) (n : Int) (m : Nat) (γ el : Nat → Nat → Nat) (F : Nat → va_E) : Prop := ∃ ft : Nat → Int32, F (γ 9 31) = .inl (I .byte, 8192, .inl ft) ∧ tpE c.1 ft n.toNat ∧
  (((fI (F m) 9).toInt = 0 ∧ c.2.1.toInt = 0) ∨ ((fI (F m) 9).toInt ≠ 0 ∧ c.2.1.toInt = 1 ∧ ∃ Q, pgR γ el F Q ∧ c.2.2.1.toInt = (Q.1 : Int) ∧ lkS Q c.2.2.2.1 c.2.2.2.2.1 c.2.2.2.2.2.1 c.2.2.2.2.2.2.1 ∧ cdC c Q ∧ ∃ (B : Int → Int) (n : Int), bOk B n ∧ okP B n Q))
theorem LK_k {cv : gCv} (h : LK I cv n m γ el F) (g : kpT m γ el F γ1 el1 F1) : LK I cv n m γ1 el1 F1 := by
  obtain ⟨ft, h1, h2, h3⟩ := h
  obtain ⟨g1, g2, g3, g4⟩ := g
  refine ⟨ft, by rw [g1]; exact g2.trans h1, h2, ?_⟩
  rw [g3]
  exact h3.imp id (fun q => ⟨q.1, q.2.1, q.2.2.elim fun Q r => ⟨Q, g4 q.1 Q r.1, r.2⟩⟩)
theorem LK_n {cv : gCv} {n1 : Int} (h : LK I cv n m γ el F) (hn : n1 ≤ n) : LK I cv n1 m γ el F := by
  obtain ⟨ft, h1, h2, h3⟩ := h
  exact ⟨ft, h1, tpE_l h2 (by omega), h3⟩
theorem txQ_j {B : Int → Int} (hj : ∀ j, j ≠ 0 → j ≠ 12 → γ2 j = γ j) (h : txQ γ el F m c B n) : txQ γ2 el F m c B n := by
  unfold txQ rfP rfI rfB rfR at h ⊢
  rw [hj 14 (by decide) (by decide), hj 15 (by decide) (by decide), hj 2 (by decide) (by decide)]
  exact h
/-- text -/
theorem LK_x {cv c1 : gCv} (hl : LK I cv n m γ el F) (hn : 0 ≤ n) (hc : txC cv.1 n c1) (e9 : γ2 9 = γ 9) (et : F1 (γ 9 31) = F (γ 9 31)) (hx : ∃ ft, F (γ 9 31) = .inl (I .byte, 8192, .inl ft) ∧ txQ γ2 el1 F1 m (γ 9 6) (bA ft n) n) : LK I c1 0 m γ2 el1 F1 := by
  obtain ⟨ft, h1, h2, -⟩ := hl
  obtain ⟨f2, h3, h4⟩ := hx
  have e := Sum.inl.inj (Prod.mk.inj (Prod.mk.inj (Sum.inl.inj (h3.symm.trans h1))).2).2
  rw [e] at h4
  have eb : bA cv.1 n = bA ft n := by
    have q := tpE_A h2
    rw [Int.toNat_of_nonneg hn] at q
    exact q
  refine ⟨ft, by rw [e9]; exact et.trans h1, tpE_0, ?_⟩
  unfold txC at hc
  rw [eb] at hc
  rcases hc with ⟨a1, R, a2, a3, a4⟩ | ⟨a1, a2⟩
  · rcases h4 with ⟨b1, Q, b2, b3⟩ | ⟨b1, b2⟩
    · have ePQ : R = Q := okP_u a2 b2
      subst ePQ
      have w := okP_f (bOk_bA hn) a2
      exact Or.inr ⟨by omega, a1, R, ⟨by rw [e9]; exact b3, ⟨w.2.2.2.2.1, fun b hb => blC_2 (w.2.2.2.2.2 b hb)⟩, w.2.2.1, w.2.1⟩, a3, a4.1, a4.2, _, _, bOk_bA hn, a2⟩
    · exact absurd a2 (b2 R)
  · rcases h4 with ⟨b1, Q, b2, b3⟩ | ⟨b1, b2⟩
    · exact absurd b2 (a2 Q)
    · exact Or.inl ⟨b1, a1⟩
/-- feed -/
theorem LK_f {cv : gCv} {a1 a2 a3 a4 a5 z s z1 z2 : Int32} {B : Nat → Int32} (h : mdS D I m n P F γ el) (hl : LK I cv n m γ el F) (hs : rStr γ [99] F F1) (h9 : (fI (F1 m) 9).toInt = (fI (F m) 9).toInt) (ht : tr_RModel_feed D I γ el P F m a1 a2 a3 a4 a5 z F1) (hn : 0 ≤ n) (hn8 : n ≤ 8172) (es : s.toInt = n) (hc : tr_SpillForge_feed a1 a2 a3 a4 a5 s cv.1 z1 z2 B) : LK I (B, cv.2) (n + 20) m γ el F1 := by
  have kp := kpT_f h hs
  obtain ⟨s1, s2, s3, -⟩ := h
  obtain ⟨ft, h1, h2, h3⟩ := hl
  have eB := fd_c (m := n.toNat) (by omega) hc
  rcases fd_r (f := ft) (m := n.toNat) s1 s2 (md_6 s1 s2).2.2.2 h1 (by rw [s3]; omega) ht with ⟨-, q⟩ | ⟨q, -⟩
  · refine ⟨_, q, ?_, ?_⟩
    · show tpE B _ _
      rw [eB, show (n + 20).toNat = n.toNat + 20 by omega]
      exact tpE_f h2
    · rw [h9]
      exact h3.imp id (fun q => ⟨q.1, q.2.1, q.2.2.elim fun Q r => ⟨Q, kp q.1 Q r.1, r.2⟩⟩)
  · omega
theorem LK_f1 {cv : gCv} {a1 a2 a3 a4 a5 z : Int32} (h : mdS D I m n P F γ el) (hl : LK I cv n m γ el F) (hs : rStr γ [99] F F1) (h9 : (fI (F1 m) 9).toInt = (fI (F m) 9).toInt) (ht : tr_RModel_feed D I γ el P F m a1 a2 a3 a4 a5 z F1) (hn : 8172 < n) : LK I cv n m γ el F1 := by
  have kp := kpT_f h hs
  obtain ⟨s1, s2, s3, -⟩ := h
  obtain ⟨ft, h1, h2, h3⟩ := id hl
  rcases fd_r (f := ft) (m := n.toNat) s1 s2 (md_6 s1 s2).2.2.2 h1 (by rw [s3]; omega) ht with ⟨q, -⟩ | ⟨-, q⟩
  · omega
  · exact LK_k hl ⟨rfl, q, h9, kp⟩
/-- the beginning -/
theorem LK_0 {cv : gCv} (h : mdS D I m 0 P F γ el) (h9 : (fI (F m) 9).toInt = 0) (hc : cv.2.1.toInt = 0) : LK I cv 0 m γ el F := by
  obtain ⟨s1, s2, -⟩ := h
  obtain ⟨ft, e, -⟩ := show rk_99 I (F (γ 9 31)) from RS_o s1 (md_6 s1 s2).2.2.1
  exact ⟨ft, e, tpE_0, Or.inl ⟨h9, hc⟩⟩
/-! what is given out, INPUT, the latest RUN -/
theorem rf_kW (hT : RS D I P F γ el) (c9 : γ 0 c = 9) (cf : γ 1 c = f) (h2 : ∀ i, i < Q.1 → γ 0 (el (γ 14 c) i) = 2) (hle : Q.1 ≤ γ 2 (γ 14 c)) (h : rfW γ el F c Q) (hF : ∀ x, γ 0 x = 1 ∨ γ 0 x = 2 ∨ γ 0 x = 9 → γ 1 x = f → F1 x = F x)
    (hg : ∀ x, γ 0 x = 2 ∨ γ 0 x = 9 → γ 1 x = f → γ1 14 x = γ 14 x ∧ γ1 15 x = γ 15 x) (hl : ∀ x, γ 0 x = 3 ∨ γ 0 x = 4 → γ 1 x = f → γ1 2 x = γ 2 x ∧ el1 x = el x) : rfW γ1 el1 F1 c Q := by
  obtain ⟨a21, a4, a41, a5, a51⟩ := rc_at hT c9 cf
  have kl := (show rk_4 D I γ el F (γ 14 c) from RS_o hT a4).2
  obtain ⟨h1, h3, h4⟩ := h
  refine ⟨by rw [hF c (Or.inr (Or.inr c9)) cf]; exact h1, h3, fun b hb => ?_⟩
  have B2 := h2 b hb
  have B1 : γ 1 (el (γ 14 c) b) = f := ((kl b (by omega)).2.1).trans a41
  rw [(hg c (Or.inr c9) cf).1, (hl _ (Or.inr a4) a41).2]
  obtain ⟨l, nn, p, s, v1, ⟨g1, g2, g3⟩, v3, v4, v5, v6, -⟩ := show rk_2 γ (el (γ 14 c) b) (F (el (γ 14 c) b)) from RS_o hT B2
  have w3 : γ 0 l = 3 := v3
  have w4 : γ 1 l = f := (show γ 1 l = γ 1 (el (γ 14 c) b) from v4).trans B1
  have w5 : γ 0 nn = 1 := v5
  have w6 : γ 1 nn = f := (show γ 1 nn = γ 1 (el (γ 14 c) b) from v6).trans B1
  have k3 := (show rk_3 D I γ el F l from RS_o hT w3).2
  obtain ⟨x0, ⟨x1, x2⟩, x3⟩ := h4 b hb
  rw [g1] at x1 x2
  rw [g2] at x3
  refine ⟨x0, ?_, ?_⟩
  · rw [(hg _ (Or.inl B2) B1).1, g1]
    refine ⟨(hl l (Or.inl w3) w4).1.trans x1, fun k hk => ?_⟩
    rw [(hl l (Or.inl w3) w4).2, hF _ (Or.inl (k3 k (by omega)).1) ((k3 k (by omega)).2.1.trans w4)]
    exact x2 k hk
  · rw [(hg _ (Or.inl B2) B1).2, g2, hF _ (Or.inr (Or.inl B2)) B1, hF nn (Or.inl w5) w6]
    exact x3
theorem rfW_j (hj : ∀ j, j ≠ 0 → j ≠ 12 → γ2 j = γ j) (h : rfW γ el F c Q) : rfW γ2 el F c Q := by
  unfold rfW rfBw rfRw at h ⊢
  rw [hj 14 (by decide) (by decide), hj 15 (by decide) (by decide), hj 2 (by decide) (by decide)]
  exact h
def gvR (γ el : Nat → Nat → Nat) (F : Nat → va_E) (Q : gPg) : Prop := rfW γ el F (γ 9 7) Q ∧ rnP Q ∧ (zlB Q Q.1).length ≤ 16384 ∧ stQ Q
def kpG (m : Nat) (γ el : Nat → Nat → Nat) (F : Nat → va_E) (γ1 el1 : Nat → Nat → Nat) (F1 : Nat → va_E) : Prop := (fI (F1 m) 10).toInt = (fI (F m) 10).toInt ∧ ((fI (F m) 10).toInt ≠ 0 → ∀ Q, gvR γ el F Q → gvR γ1 el1 F1 Q)
def kpI (m : Nat) (F F1 : Nat → va_E) : Prop := mO (F1 m) = mO (F m) ∧ F1 (fR (F m) 28) = F (fR (F m) 28)
/-- what was shown, RESULT's array -/
def kpS (m : Nat) (γ : Nat → Nat → Nat) (F F1 : Nat → va_E) : Prop := F1 (γ 9 22) = F (γ 9 22) ∧ fR (F1 m) 35 = fR (F m) 35 ∧ F1 (fR (F m) 35) = F (fR (F m) 35)
theorem k22_o (hT : RS D I P F γ el) (hm : γ 0 m = 10) : γ 0 (γ 9 22) = 97 := (kd9_o hT hm).2.2.2
theorem b25_o (hT : RS D I P F γ el) (hm : γ 0 m = 10) : (fI (F m) 25).toInt ≤ 512 := by
  obtain ⟨r28, r35, v9, v10, v11, v12, v13, v14, v23, v24, v25, v26, v27, v30, v32, v33, v34, he, hM1, -⟩ := rk10_m (show rk_10 γ (F m) from RS_o hT hm)
  have e : fI (F m) 25 = v25 := by rw [he]; rfl
  rw [e]
  exact hM1.2.2.2.2.1.2
theorem e35_t (h : mdS D I m n P F γ el) (hT : RS D I P F1 γ el) : fR (F1 m) 35 = fR (F m) 35 := by
  obtain ⟨a1, a2, a3, a4, a5, a6, a7, a8, a9⟩ := h
  exact a9.1 _ (md_k hT a2).1
theorem kpS_rf : kpS m γ F F := ⟨rfl, rfl, rfl⟩
theorem kpS_t (h : mdS D I m n P F γ el) (hT : RS D I P F1 γ el) (hs : rStr γ W F F1) (h97 : 97 ∉ W) (h96 : 96 ∉ W) : kpS m γ F F1 := by
  have k22 := k22_o h.1 h.2.1
  have k35 := (md_k h.1 h.2.1).1
  exact ⟨hs _ (by omega) (Or.inr (by omega)) (by rw [k22]; exact h97), e35_t h hT, hs _ (by omega) (Or.inr (by omega)) (by rw [k35]; exact h96)⟩
theorem kpS_sk (h : mdS D I m n P F γ el) (hk : rSk f K KF D I P F γ el P1 F1 γ1 el1) (h97 : 97 ∉ KF) (h96 : 96 ∉ KF) (e35 : fR (F1 m) 35 = fR (F m) 35) : kpS m γ F F1 := ⟨rSk_F hk (show rKd γ _ 97 from k22_o h.1 h.2.1) (by decide) h97, e35, rSk_F hk (show rKd γ _ 96 from (md_k h.1 h.2.1).1) (by decide) h96⟩
theorem kpS_tr (h9 : γ1 9 = γ 9) (h : kpS m γ F F1) (g : kpS m γ1 F1 F2) : kpS m γ F F2 := by
  obtain ⟨a1, a2, a3⟩ := h
  obtain ⟨b1, b2, b3⟩ := g
  rw [h9] at b1
  rw [a2] at b3
  exact ⟨b1.trans a1, b2.trans a2, b3.trans a3⟩
def kp9 (m : Nat) (γ el : Nat → Nat → Nat) (F : Nat → va_E) (γ1 el1 : Nat → Nat → Nat) (F1 : Nat → va_E) : Prop := kpT m γ el F γ1 el1 F1 ∧ kpG m γ el F γ1 el1 F1 ∧ kpI m F F1 ∧ kpS m γ F F1
/-- of a program of another family nothing changes -/
theorem gvR_sk (h : mdS D I m n P F γ el) (hk : rSk f K KF D I P F γ el P1 F1 γ1 el1) (hf : f ≠ 1) (h999 : 999 ∉ KF) : (fI (F m) 10).toInt ≠ 0 → ∀ Q, gvR γ el F Q → gvR γ1 el1 F1 Q := by
  obtain ⟨s1, s2, s3, s4, s5, -⟩ := h
  obtain ⟨⟨-, c7⟩, -, f7⟩ := md_c9 s1 s2
  intro hn Q hq
  have e9 := rSk_9 hk
  obtain ⟨e6, e2, el2⟩ := rf_6 s1 c7 f7 (s5.resolve_left hn) hq.1.1
  refine ⟨?_, hq.2⟩
  rw [e9]
  exact rf_kW s1 c7 f7 e2 el2 hq.1 (fun x hx e => hk.2.2.2 x (by omega) (Or.inr ⟨h999, fun z => hf (by rw [← z]; exact e), Or.inl (by omega)⟩))
    (fun x hx e => have q := (hk.2.2.1.2.1 x (by omega)).2; ⟨q.2.1, q.2.2.1⟩) (fun x hx e => have q := hk.2.2.1.2.2.1 x (by omega) (fun z => hf (by rw [← z]; exact e)); ⟨q.1, q.2.2.2⟩)
theorem kpG_t (h : mdS D I m n P F γ el) (hs : rStr γ W F F1) (hW : 1 ∉ W ∧ 2 ∉ W ∧ 9 ∉ W) (h10 : (fI (F1 m) 10).toInt = (fI (F m) 10).toInt) : kpG m γ el F γ el F1 := by
  obtain ⟨s1, s2, s3, s4, s5, -⟩ := h
  obtain ⟨⟨-, c7⟩, -, f7⟩ := md_c9 s1 s2
  refine ⟨h10, fun hn Q hq => ?_⟩
  obtain ⟨e6, e2, el2⟩ := rf_6 s1 c7 f7 (s5.resolve_left hn) hq.1.1
  refine ⟨rf_kW s1 c7 f7 e2 el2 hq.1 (fun x hx _ => hs x (by omega) (Or.inl (by omega)) ?_) (fun _ _ _ => ⟨rfl, rfl⟩) (fun _ _ _ => ⟨rfl, rfl⟩), hq.2⟩
  rcases hx with e | e | e
  · rw [e]; exact hW.1
  · rw [e]; exact hW.2.1
  · rw [e]; exact hW.2.2
theorem kpG_j (hj : ∀ j, j ≠ 0 → j ≠ 12 → γ2 j = γ j) : kpG m γ el F γ2 el F := ⟨rfl, fun _ _ hq => ⟨by rw [hj 9 (by decide) (by decide)]; exact rfW_j hj hq.1, hq.2⟩⟩
theorem kpG_tr (h : kpG m γ el F γ1 el1 F1) (g : kpG m γ1 el1 F1 γ2 el2 F2) : kpG m γ el F γ2 el2 F2 := ⟨g.1.trans h.1, fun hn Q hq => g.2 (by rw [h.1]; exact hn) Q (h.2 hn Q hq)⟩
theorem kpI_28 (h : kpI m F F1) : fR (F1 m) 28 = fR (F m) 28 := congrArg (fun z => z.1.1) h.1
theorem kpI_tr (h : kpI m F F1) (g : kpI m F1 F2) : kpI m F F2 := ⟨g.1.trans h.1, by have q := g.2; rw [kpI_28 h] at q; exact q.trans h.2⟩
theorem kpI_rf : kpI m F F := ⟨rfl, rfl⟩
theorem kpI_t (h : mdS D I m n P F γ el) (hs : rStr γ W F F1) (hW : 98 ∉ W) (hO : mO (F1 m) = mO (F m)) : kpI m F F1 := by
  have k28 := m28_9 h.1 h.2.1
  exact ⟨hO, hs _ (by rw [k28]; decide) (Or.inr (by omega)) (by rw [k28]; exact hW)⟩
theorem kpI_sk (h : mdS D I m n P F γ el) (hk : rSk f K KF D I P F γ el P1 F1 γ1 el1) (hW : 98 ∉ KF) (hO : mO (F1 m) = mO (F m)) : kpI m F F1 := ⟨hO, rSk_F hk (show rKd γ _ 98 from m28_9 h.1 h.2.1) (by decide) hW⟩
theorem kp9_tr (h : kp9 m γ el F γ1 el1 F1) (g : kp9 m γ1 el1 F1 γ2 el2 F2) : kp9 m γ el F γ2 el2 F2 := ⟨kpT_tr h.1 g.1, kpG_tr h.2.1 g.2.1, kpI_tr h.2.2.1 g.2.2.1, kpS_tr h.1.1 h.2.2.2 g.2.2.2⟩
theorem kp9_j (hj : ∀ j, j ≠ 0 → j ≠ 12 → γ2 j = γ j) : kp9 m γ el F γ2 el F := ⟨kpT_j hj, kpG_j hj, kpI_rf, kpS_rf⟩
theorem kp9_t (h : mdS D I m n P F γ el) (hT : RS D I P F1 γ el) (hs : rStr γ [] F F1) (h9 : (fI (F1 m) 9).toInt = (fI (F m) 9).toInt) (h10 : (fI (F1 m) 10).toInt = (fI (F m) 10).toInt) (hO : mO (F1 m) = mO (F m)) : kp9 m γ el F γ el F1 := ⟨kpT_t h hs h9, kpG_t h hs ⟨List.not_mem_nil, List.not_mem_nil, List.not_mem_nil⟩ h10, kpI_t h hs List.not_mem_nil hO, kpS_t h hT hs List.not_mem_nil List.not_mem_nil⟩
/-- class and model: the same is given out, INPUT is the same, RUN left the same -/
def GL (c : gCv) (m : Nat) (γ el : Nat → Nat → Nat) (F : Nat → va_E) : Prop := ((fI (F m) 10).toInt = 0 ∧ (dnG c).toInt = 0) ∨ ((fI (F m) 10).toInt ≠ 0 ∧ (dnG c).toInt ≠ 0 ∧ ∃ Q, gvR γ el F Q ∧ cdG c Q)
def IL (I : FieldType → ClassId) (c : gCv) (m : Nat) (F : Nat → va_E) : Prop := ∃ gn : Nat, (inN c).toInt = (gn : Int) ∧ inP9 I F m (inG c) gn
def OL (c : gCv) (m : Nat) (F : Nat → va_E) : Prop := (rnE c).toInt = (fI (F m) 23).toInt ∧ rnA c = fI (F m) 24 ∧ (rnS c).toInt = (fI (F m) 25).toInt ∧ (rnN c).toInt = (fI (F m) 26).toInt ∧ (rnK c).toInt = (fI (F m) 27).toInt ∧ ((fI (F m) 23).toInt ≠ 0 → rnA c = 0)
/-- class and model: what was shown, RESULT -/
def SL (c : gCv) (m : Nat) (γ : Nat → Nat → Nat) (F : Nat → va_E) : Prop := (∀ i : Nat, (i : Int) < (fI (F m) 25).toInt → rnW c i = cB (F (γ 9 22)) i) ∧ (0 ≤ (lsZ c).toInt ∧ (lsZ c).toInt ≤ 16384 ∧ (lsZ c).toInt = (fI (F m) 34).toInt) ∧ ∀ i : Nat, (i : Int) < (lsZ c).toInt → lsY c i = cB (F (fR (F m) 35)) i
theorem SL_q {cv : gCv} (h : SL cv m γ F) (e9 : γ1 9 = γ 9) (e25 : fI (F1 m) 25 = fI (F m) 25) (e34 : fI (F1 m) 34 = fI (F m) 34) (g : kpS m γ F F1) : SL cv m γ1 F1 := by
  obtain ⟨g1, g2, g3⟩ := g
  unfold SL
  rw [e9, e25, e34, g2, g1, g3]
  exact h
theorem SL_k {cv : gCv} (h : SL cv m γ F) (e9 : γ1 9 = γ 9) (gO : mO (F1 m) = mO (F m)) (g : kpS m γ F F1) : SL cv m γ1 F1 := SL_q h e9 (congrArg (fun z => z.2.2.2.1) gO) (congrArg (fun z => z.1.2) gO) g
theorem SL_c {cv c1 : gCv} (h : SL cv m γ F) (e1 : rnW c1 = rnW cv) (e2 : lsZ c1 = lsZ cv) (e3 : lsY c1 = lsY cv) : SL c1 m γ F := by
  unfold SL
  rw [e1, e2, e3]
  exact h
/-- what list did -/
def lsM (γ el : Nat → Nat → Nat) (F : Nat → va_E) (m : Nat) (gi x : Int32) (F1 : Nat → va_E) : Prop := (((gi = 0 ∧ (fI (F m) 9).toInt = 0) ∨ (¬ gi = 0 ∧ (fI (F m) 10).toInt = 0)) ∧ (fI (F1 m) 30).toInt = 1 ∧ (fR (F1 m) 35 = fR (F m) 35 ∧ fI (F1 m) 34 = fI (F m) 34) ∧ F1 (fR (F m) 35) = F (fR (F m) 35)) ∨ ((fI (F1 m) 30).toInt = 0 ∧ ∃ (F' : Nat → va_E) (cc f : Nat), (∀ b, b ≠ m → F' b = F b) ∧ ((gi = 0 ∧ (fI (F m) 9).toInt ≠ 0 ∧ cc = γ 9 6 ∧ f = 0) ∨ (¬ gi = 0 ∧ (fI (F m) 10).toInt ≠ 0 ∧ cc = γ 9 7 ∧ f = 1)) ∧ x.toInt = ((zrP γ el F' cc (γ 6 f)).length : Int) ∧ fI (F1 m) 34 = x ∧ lt9 (zrP γ el F' cc (γ 6 f)) (cB (F1 (fR (F1 m) 35))))
def LK9 (I : FieldType → ClassId) (c : gCv) (n : Int) (m : Nat) (γ el : Nat → Nat → Nat) (F : Nat → va_E) : Prop := LK I c n m γ el F ∧ GL c m γ el F ∧ IL I c m F ∧ OL c m F ∧ SL c m γ F
theorem GL_k {cv : gCv} (h : GL cv m γ el F) (g : kpG m γ el F γ1 el1 F1) : GL cv m γ1 el1 F1 := by
  obtain ⟨g1, g2⟩ := g
  unfold GL
  rw [g1]
  exact h.imp id (fun q => ⟨q.1, q.2.1, q.2.2.elim fun Q r => ⟨Q, g2 q.1 Q r.1, r.2⟩⟩)
theorem IL_k {cv : gCv} (h : IL I cv m F) (g : kpI m F F1) : IL I cv m F1 := by
  obtain ⟨gn, h1, p, h2, h3⟩ := h
  refine ⟨gn, h1, p, ?_, h3⟩
  rw [kpI_28 g, g.2]
  exact h2
theorem OL_k {cv : gCv} (h : OL cv m F) (g : (mO (F1 m)).2 = (mO (F m)).2) : OL cv m F1 := by
  have e23 : fI (F1 m) 23 = fI (F m) 23 := congrArg (fun z => z.1) g
  have e24 : fI (F1 m) 24 = fI (F m) 24 := congrArg (fun z => z.2.1) g
  have e25 : fI (F1 m) 25 = fI (F m) 25 := congrArg (fun z => z.2.2.1) g
  have e26 : fI (F1 m) 26 = fI (F m) 26 := congrArg (fun z => z.2.2.2.1) g
  have e27 : fI (F1 m) 27 = fI (F m) 27 := congrArg (fun z => z.2.2.2.2) g
  unfold OL
  rw [e23, e24, e25, e26, e27]
  exact h
theorem LK9_k {cv : gCv} (h : LK9 I cv n m γ el F) (g : kp9 m γ el F γ1 el1 F1) : LK9 I cv n m γ1 el1 F1 := ⟨LK_k h.1 g.1, GL_k h.2.1 g.2.1, IL_k h.2.2.1 g.2.2.1, OL_k h.2.2.2.1 (congrArg Prod.snd g.2.2.1.1), SL_k h.2.2.2.2 g.1.1 g.2.2.1.1 g.2.2.2⟩
theorem LK9_n {cv : gCv} {n1 : Int} (h : LK9 I cv n m γ el F) (hn : n1 ≤ n) : LK9 I cv n1 m γ el F := ⟨LK_n h.1 hn, h.2⟩
/-- feed -/
theorem LK9_f {cv : gCv} {a1 a2 a3 a4 a5 z s z1 z2 : Int32} {B : Nat → Int32} (h : mdS D I m n P F γ el) (hT : RS D I P F1 γ el) (hl : LK9 I cv n m γ el F) (hs : rStr γ [99] F F1) (h9 : (fI (F1 m) 9).toInt = (fI (F m) 9).toInt) (h10 : (fI (F1 m) 10).toInt = (fI (F m) 10).toInt) (hO : mO (F1 m) = mO (F m)) (ht : tr_RModel_feed D I γ el P F m a1 a2 a3 a4 a5 z F1) (hn : 0 ≤ n) (hn8 : n ≤ 8172) (es : s.toInt = n) (hc : tr_SpillForge_feed a1 a2 a3 a4 a5 s cv.1 z1 z2 B) : LK9 I (B, cv.2) (n + 20) m γ el F1 :=
  ⟨LK_f h hl.1 hs h9 ht hn hn8 es hc, GL_k hl.2.1 (kpG_t h hs (by decide) h10), IL_k hl.2.2.1 (kpI_t h hs (by decide) hO), OL_k hl.2.2.2.1 (congrArg Prod.snd hO), SL_k hl.2.2.2.2 rfl hO (kpS_t h hT hs (by decide) (by decide))⟩
theorem LK9_f1 {cv : gCv} {a1 a2 a3 a4 a5 z : Int32} (h : mdS D I m n P F γ el) (hT : RS D I P F1 γ el) (hl : LK9 I cv n m γ el F) (hs : rStr γ [99] F F1) (h9 : (fI (F1 m) 9).toInt = (fI (F m) 9).toInt) (h10 : (fI (F1 m) 10).toInt = (fI (F m) 10).toInt) (hO : mO (F1 m) = mO (F m)) (ht : tr_RModel_feed D I γ el P F m a1 a2 a3 a4 a5 z F1) (hn : 8172 < n) : LK9 I cv n m γ el F1 :=
  ⟨LK_f1 h hl.1 hs h9 ht hn, GL_k hl.2.1 (kpG_t h hs (by decide) h10), IL_k hl.2.2.1 (kpI_t h hs (by decide) hO), OL_k hl.2.2.2.1 (congrArg Prod.snd hO), SL_k hl.2.2.2.2 rfl hO (kpS_t h hT hs (by decide) (by decide))⟩
/-- text -/
theorem LK9_x {cv c1 : gCv} (hl : LK9 I cv n m γ el F) (hn : 0 ≤ n) (hc : txC cv.1 n c1) (hg : txG cv c1) (e9 : γ2 9 = γ 9) (et : F1 (γ 9 31) = F (γ 9 31)) (hx : ∃ ft, F (γ 9 31) = .inl (I .byte, 8192, .inl ft) ∧ txQ γ2 el1 F1 m (γ 9 6) (bA ft n) n) (hG : (fI (F m) 10).toInt ≠ 0 → ∀ Q, gvR γ el F Q → gvR γ2 el1 F1 Q) (hI : kpI m F F1) (hS : kpS m γ F F1) (h10 : ((fI (F1 m) 9).toInt = 0 ∧ fI (F1 m) 10 = fI (F m) 10) ∨ ((fI (F1 m) 9).toInt = 1 ∧ (fI (F1 m) 10).toInt = 0)) : LK9 I c1 0 m γ2 el1 F1 := by
  have L1 := LK_x hl.1 hn hc e9 et hx
  obtain ⟨-, l2, l3, l4, l5⟩ := hl
  obtain ⟨⟨q1, q2, q3, q4⟩, hg⟩ := hg
  refine ⟨L1, ?_, ?_, ?_, SL_c (SL_k l5 e9 hI.1 hS) (show rnW c1 = rnW (upO c1 cv) from congrArg rnW q3) (show lsZ c1 = lsZ (upL c1 cv) from congrArg lsZ q4) (show lsY c1 = lsY (upL c1 cv) from congrArg lsY q4)⟩
  · obtain ⟨ft, -, -, L2⟩ := L1
    rcases L2 with ⟨f0, p0⟩ | ⟨f0, p0, -⟩
    · rcases hg with ⟨y1, y2⟩ | ⟨y1, y2⟩
      · rcases h10 with ⟨z1, z2⟩ | ⟨z1, z2⟩
        · have ed : dnG c1 = dnG cv := (show dnG c1 = dnG (upG c1 cv) from congrArg dnG y2)
          have ec : ∀ Q, cdG cv Q → cdG c1 Q := fun Q hq => by rw [y2]; exact hq
          unfold GL
          rw [z2, ed]
          exact l2.imp id (fun q => ⟨q.1, q.2.1, q.2.2.elim fun Q r => ⟨Q, hG q.1 Q r.1, ec Q r.2⟩⟩)
        · omega
      · omega
    · rcases hg with ⟨y1, y2⟩ | ⟨y1, y2⟩
      · omega
      · rcases h10 with ⟨z1, z2⟩ | ⟨z1, z2⟩
        · omega
        · exact Or.inl ⟨z2, y2⟩
  · have w := IL_k l3 hI
    unfold IL at w ⊢
    rw [q1, q2]
    exact w
  · have w := OL_k l4 (congrArg Prod.snd hI.1)
    rw [q3]
    exact w
/-- input -/
theorem i4_m {t u : Nat → Int32} {q : Nat} : ∀ j, (∀ k, k < j → t (4 * q + k) &&& 255 = u (4 * q + k) &&& 255) → i4 t q j = i4 u q j
  | 0, _ => rfl
  | j + 1, h => by
    show (i4 t q j <<< ((8 : Int32) &&& 31)) ||| (t (4 * q + j) &&& 255) = (i4 u q j <<< ((8 : Int32) &&& 31)) ||| (u (4 * q + j) &&& 255)
    rw [i4_m j (fun k hk => h k (by omega)), h j (by omega)]
theorem LK9_i {cv c1 : gCv} (hl : LK9 I cv n m γ el F) (hn : 0 ≤ n) (hc : inC cv c1 n) (gT : kpT m γ el F γ1 el1 F1) (gG : kpG m γ el F γ1 el1 F1) (hO : (mO (F1 m)).2 = (mO (F m)).2) (h34 : fI (F1 m) 34 = fI (F m) 34) (hS : kpS m γ F F1) (hx : ∃ ft, F (γ 9 31) = .inl (I .byte, 8192, .inl ft) ∧ ∃ p, F1 (fR (F1 m) 28) = .inl (I .int, (n / 4).toNat, .inl p) ∧ ∀ q, q < (n / 4).toNat → p q = i4 ft q 4) : LK9 I c1 0 m γ1 el1 F1 := by
  obtain ⟨hc1, k, k1, k2, k3⟩ := hc
  obtain ⟨l1, l2, l3, l4, l5⟩ := hl
  obtain ⟨ft, h1, h2, -⟩ := id l1
  obtain ⟨f2, h3, p, p1, p2⟩ := hx
  have e := Sum.inl.inj (Prod.mk.inj (Prod.mk.inj (Sum.inl.inj (h3.symm.trans h1))).2).2
  subst e
  have L0 : LK I cv 0 m γ1 el1 F1 := LK_n (LK_k l1 gT) hn
  have G0 := GL_k l2 gG
  have O0 := OL_k l4 hO
  have S0 : SL cv m γ1 F1 := SL_q l5 gT.1 (congrArg (fun z => z.2.2.1) hO) h34 hS
  refine ⟨?_, ?_, ⟨k, k2, p, ?_, fun i hi => ?_⟩, ?_, ?_⟩
  · rw [hc1]; exact L0
  · rw [hc1]; exact G0
  · rw [show k = (n / 4).toNat by omega]; exact p1
  · rw [k3 i hi, p2 i (by omega)]
    exact (i4_m 4 (fun q hq => h2 _ (by omega))).symm
  · rw [hc1]; exact O0
  · rw [hc1]; exact S0
/-- the beginning -/
def c0G (c : gCv) : Prop := c.2.1.toInt = 0 ∧ (dnG c).toInt = 0 ∧ (inN c).toInt = 0 ∧ (rnE c).toInt = -1 ∧ rnA c = 0 ∧ (rnS c).toInt = 0 ∧ (rnN c).toInt = 0 ∧ (rnK c).toInt = 0 ∧ (lsZ c).toInt = 0
theorem LK9_0 {cv : gCv} (h : mdS D I m 0 P F γ el) (h9 : (fI (F m) 9).toInt = 0) (h10 : (fI (F m) 10).toInt = 0) (h28 : F (fR (F m) 28) = .inl (I .int, 0, .inl (fun _ => 0))) (hO : (mO (F m)).2 = (-1, 0, 0, 0, 0)) (h34 : fI (F m) 34 = 0) (hc : c0G cv) : LK9 I cv 0 m γ el F := by
  have z0 : Int32.toInt 0 = 0 := by decide
  obtain ⟨c1, c2, c3, c4, c5, c6, c7, c8, c9⟩ := hc
  have e23 : fI (F m) 23 = -1 := congrArg (fun z => z.1) hO
  have e24 : fI (F m) 24 = 0 := congrArg (fun z => z.2.1) hO
  have e25 : fI (F m) 25 = 0 := congrArg (fun z => z.2.2.1) hO
  have e26 : fI (F m) 26 = 0 := congrArg (fun z => z.2.2.2.1) hO
  have e27 : fI (F m) 27 = 0 := congrArg (fun z => z.2.2.2.2) hO
  refine ⟨LK_0 h h9 c1, Or.inl ⟨h10, c2⟩, ⟨0, c3, _, h28, fun i hi => absurd hi (Nat.not_lt_zero i)⟩, ?_, ⟨fun i hi => by rw [e25, z0] at hi; omega, ⟨by omega, by omega, by rw [h34, c9] <;> decide⟩, fun i hi => by omega⟩⟩
  unfold OL
  rw [e23, e24, e25, e26, e27, c4, c5, c6, c7, c8]
  exact ⟨by decide, rfl, by decide, by decide, by decide, fun _ => rfl⟩
end KPT
end
section
/-! give and run: class and model do the same -/
section RQ9
variable {D : va_G} {I : FieldType → ClassId} {P P1 : List Nat} {F F1 : Nat → va_E} {γ γ1 γ2 el el1 : Nat → Nat → Nat} {m x : Nat} {n : Int} {cv : gCv} {A1 : va_W} {a1 a2 k r : Int32} {f1 : Nat → Int64} {Q : gPg}
theorem nm720 (h : ∃ nm, gvI Q nm) : nmO Q 720 := by
  obtain ⟨nm, h1, h2, h3, -⟩ := h
  intro b j hb hj
  obtain ⟨q1, q2, q3⟩ := h1 b j hb hj
  exact ⟨by omega, by omega, by omega⟩
def gvB (γ el : Nat → Nat → Nat) (F : Nat → va_E) (m : Nat) (Q : gPg) (a1 r err : Int32) : Prop := ((a1.toInt < 1 ∨ 32 < a1.toInt) ∧ err.toInt = 1) ∨ (1 ≤ a1.toInt ∧ a1.toInt ≤ 32 ∧ err.toInt = 0 ∧ ∃ Z, GVr a1.toInt (dpt Q) 40 1 (pgZ Q) 100 0 r.toInt Z ∧ ((r.toInt ≠ -1 ∧ (fI (F m) 10).toInt ≠ 0 ∧ (okZ a1.toInt Z → rfW γ el F (γ 9 7) (fnP Z))) ∨ (r.toInt = -1 ∧ (fI (F m) 10).toInt = 0)))
theorem gvB_of {p f : Nat} (hj : ∀ j, j ≠ 0 → j ≠ 12 → γ2 j = γ1 j) (hp : p = γ1 9 7) (h : gvA γ1 el1 F1 m p f Q a1 r k) : gvB γ2 el1 F1 m Q a1 r k := by
  rcases h with h | ⟨h1, h2, h3, Z, h4, h5⟩
  · exact Or.inl h
  · refine Or.inr ⟨h1, h2, h3, Z, h4, h5.imp (fun q => ⟨q.1, q.2.1, fun ok => ?_⟩) id⟩
    rw [hj 9 (by decide) (by decide), ← hp]
    exact rfW_j hj (rfX_W.mp (q.2.2 ok).1)
theorem LK9_g (hl : LK9 I cv n m γ el F) (gT : kpT m γ el F γ2 el1 F1) (gI : kpI m F F1) (gS : kpS m γ F F1) (gG : (a1.toInt < 1 ∨ 32 < a1.toInt) ∨ (fI (F m) 9).toInt = 0 → kpG m γ el F γ2 el1 F1) (gA : (fI (F m) 9).toInt ≠ 0 → ∀ Q, pgR γ el F Q → (∃ (B : Int → Int) (n : Int), bOk B n ∧ okP B n Q) → gvB γ2 el1 F1 m Q a1 r (fI (F1 m) 30))
    (hq : (k = 0 ∧ ∃ (z : Int32) (c1 : gCv), clS D I x A1 n c1 ∧ f1 0 = z.toInt64 ∧ gvT a1 cv c1 z) ∨ (k = 1 ∧ clS D I x A1 n cv ∧ tx_SpillForge_give_0 a1) ∨ (k = 2 ∧ clS D I x A1 n cv ∧ tx_SpillForge_give_1 a1 cv.2.1)) : ∃ c1, clS D I x A1 n c1 ∧ LK9 I c1 n m γ2 el1 F1 := by
  have L0 := LK_k hl.1 gT
  have I0 := IL_k hl.2.2.1 gI
  have O0 := OL_k hl.2.2.2.1 (congrArg Prod.snd gI.1)
  have S0 : SL cv m γ2 F1 := SL_k hl.2.2.2.2 gT.1 gI.1 gS
  obtain ⟨ft, -, -, l⟩ := id hl.1
  rcases hq with ⟨-, z, c1, q1, -, q2⟩ | ⟨-, q1, q2⟩ | ⟨-, q1, q2⟩
  · obtain ⟨a2, a3, a4, a5, a6⟩ := q2
    refine ⟨c1, q1, ?_⟩
    rcases l with ⟨-, e⟩ | ⟨f0, e, Q, l1, l2, l3, l4, B, nn, hB, hP⟩
    · exact absurd e a4
    obtain ⟨Z, z1, z2⟩ := a6 B nn Q hB hP l4 l3.1
    refine ⟨by rw [a5]; exact L0, ?_, by rw [a5]; exact I0, by rw [a5]; exact O0, by rw [a5]; exact S0⟩
    rcases gA f0 Q l1 ⟨B, nn, hB, hP⟩ with ⟨y1, -⟩ | ⟨y1, y2, y3, Z2, y4, y5⟩
    · omega
    obtain ⟨er, eZ⟩ := GVr_u z1 y4
    subst eZ
    rcases z2 with ⟨u1, u2, u3⟩ | ⟨u1, u2⟩
    · rcases y5 with ⟨w1, w2, w3⟩ | ⟨w1, w2⟩
      · have ok := GVr_okP (by omega) hB hP z1 u1
        exact Or.inr ⟨w2, by omega, fnP Z, ⟨w3 ok, fn_run a3 ok, zl_fn (by omega) a3 hB hP z1 u1, st_fn (by omega) hB hP z1 u1⟩, u3 ok.2.2.1 ok.2.2.2.1 (nm720 ok.2.1)⟩
      · omega
    · rcases y5 with ⟨w1, w2, w3⟩ | ⟨w1, w2⟩
      · omega
      · exact Or.inl ⟨w2, u2⟩
  · exact ⟨cv, q1, L0, GL_k hl.2.1 (gG (Or.inl (gvx_0 q2))), I0, O0, S0⟩
  · have y := gvx_1 q2
    have e9 : (fI (F m) 9).toInt = 0 := by
      rcases l with ⟨e, -⟩ | ⟨-, e, -⟩
      · exact e
      · omega
    exact ⟨cv, q1, L0, GL_k hl.2.1 (gG (Or.inr e9)), I0, O0, S0⟩
theorem rn_q (h : mdS D I m n P F γ el) (hT : RS D I P F1 γ el) (hl : LK9 I cv n m γ el F) (gT : kpT m γ el F γ el F1) (gG : kpG m γ el F γ el F1) (hs : rStr γ [97] F F1) (hM : rnM I γ el F m a1 a2 r F1)
    (hq : (k = 0 ∧ ∃ (z : Int32) (c1 : gCv), clS D I x A1 n c1 ∧ f1 0 = z.toInt64 ∧ rnT a1 a2 cv c1 z) ∨ (k = 1 ∧ clS D I x A1 n cv ∧ tx_SpillForge_run_0 a2) ∨ (k = 2 ∧ clS D I x A1 n cv ∧ tx_SpillForge_run_1 a1 a2 cv.2.1 (dnG cv))) : ∃ c1, clS D I x A1 n c1 ∧ LK9 I c1 n m γ el F1 ∧ fI (F1 m) 30 = k ∧ (k = 0 → f1 0 = r.toInt64) := by
  have z1 : Int32.toInt 1 = 1 := by decide
  have z2 : Int32.toInt 2 = 2 := by decide
  have z0 : Int32.toInt 0 = 0 := by decide
  obtain ⟨ft, t1, t2, l⟩ := id hl.1
  have pe : ((fI (F m) 9).toInt = 0 ∧ cv.2.1.toInt = 0) ∨ ((fI (F m) 9).toInt ≠ 0 ∧ cv.2.1.toInt ≠ 0) := l.imp id (fun q => ⟨q.1, by rw [q.2.1]; decide⟩)
  have ge : ((fI (F m) 10).toInt = 0 ∧ (dnG cv).toInt = 0) ∨ ((fI (F m) 10).toInt ≠ 0 ∧ (dnG cv).toInt ≠ 0) := hl.2.1.imp id (fun q => ⟨q.1, q.2.1⟩)
  have k35 := (md_k h.1 h.2.1).1
  have c35 : F1 (fR (F m) 35) = F (fR (F m) 35) := hs _ (by omega) (Or.inr (by omega)) (by rw [k35]; decide)
  have e35 := e35_t h hT
  have KQ : mO (F1 m) = mO (F m) ∧ F1 (γ 9 22) = F (γ 9 22) → LK9 I cv n m γ el F1 := fun hO => LK9_k hl ⟨gT, gG, kpI_t h hs (by decide) hO.1, hO.2, e35, c35⟩
  rcases hM with ⟨y1, y2, y3⟩ | ⟨y1, y2, y3, y4⟩ | ⟨y1, y2, y3⟩
  · rcases hq with ⟨q0, z, c1, q1, q2, q3⟩ | ⟨q0, q1, q2⟩ | ⟨q0, q1, q2⟩
    · have w1 := q3.1
      have w2 := q3.2.1
      omega
    · exact ⟨cv, q1, KQ y3, Int32.toInt_inj.mp (by rw [y2, q0]; exact z1.symm), fun e => absurd (q0.symm.trans e) (by decide)⟩
    · have w1 := rnx_1 q2
      omega
  · rcases hq with ⟨q0, z, c1, q1, q2, q3⟩ | ⟨q0, q1, q2⟩ | ⟨q0, q1, q2⟩
    · have w1 := q3.2.2.2.1
      omega
    · have w1 := rnx_0 q2
      omega
    · exact ⟨cv, q1, KQ y4, Int32.toInt_inj.mp (by rw [y3, q0]; exact z2.symm), fun e => absurd (q0.symm.trans e) (by decide)⟩
  · rcases hq with ⟨q0, z, c1, q1, q2, q3⟩ | ⟨q0, q1, q2⟩ | ⟨q0, q1, q2⟩
    · obtain ⟨b1, b2, b3, b4, b5⟩ := q3
      obtain ⟨Q, hP, hC, hR⟩ : ∃ Q, rnP Q ∧ ((a1.toInt = 0 ∧ cv.2.1.toInt ≠ 0 ∧ cdC cv Q) ∨ (a1.toInt ≠ 0 ∧ (dnG cv).toInt ≠ 0 ∧ cdG cv Q)) ∧ ((a1.toInt = 0 ∧ rfX γ el F (γ 9 6) Q ∧ γ 6 0 = Q.1) ∨ (a1.toInt ≠ 0 ∧ rfX γ el F (γ 9 7) Q ∧ γ 6 1 = Q.1)) := by
        obtain ⟨s1, s2, s3, s4, s5, -⟩ := id h
        rcases y2 with ⟨e1, e2⟩ | ⟨e1, e2⟩
        · rcases l with ⟨f0, -⟩ | ⟨f0, p0, Q, l1, l2, l3, l4, B, nn, hB, hP⟩
          · exact absurd f0 e2
          · obtain ⟨c9, cf, -⟩ := md_6 s1 s2
            obtain ⟨e6, -⟩ := rf_6 s1 c9 cf (s4.resolve_left f0).1 l1.1.1
            exact ⟨Q, rnP_P hB hP, Or.inl ⟨e1, by rw [p0]; decide, l4⟩, Or.inl ⟨e1, rfX_W.mpr (rfP_w (okP_f hB hP).2.2.2.2.2 l1.1), e6⟩⟩
        · rcases hl.2.1 with ⟨f0, -⟩ | ⟨f0, d0, Q, g1, g2⟩
          · exact absurd f0 e2
          · obtain ⟨⟨-, c7⟩, -, f7⟩ := md_c9 s1 s2
            obtain ⟨e6, -⟩ := rf_6 s1 c7 f7 (s5.resolve_left f0) g1.1.1
            exact ⟨Q, g1.2.1, Or.inr ⟨e1, d0, g2⟩, Or.inr ⟨e1, rfX_W.mpr g1.1, e6⟩⟩
      obtain ⟨gn, i1, i2⟩ := hl.2.2.1
      obtain ⟨⟨v1, v34⟩, r1, v2, v3, v4, v5, v6, v7⟩ := y3 Q (inG cv) gn hP hR i2
      obtain ⟨r2, u1, u2, u3, u4, u5, u6⟩ := b5 Q (inG cv) gn hP hC i1 (fun i _ => rfl)
      have er : r1 = r2 := v2.trans u1.symm
      subst er
      have g1 : inN c1 = inN cv := (show inN c1 = inN (upO cv c1) from congrArg inN b3)
      have gz : lsZ c1 = lsZ cv := (show lsZ c1 = lsZ (upO cv c1) from congrArg lsZ b3)
      have gy : lsY c1 = lsY cv := (show lsY c1 = lsY (upO cv c1) from congrArg lsY b3)
      have g2 : inG c1 = inG cv := (show inG c1 = inG (upO cv c1) from congrArg inG b3)
      refine ⟨c1, q1, ⟨?_, ?_, ⟨gn, by rw [g1]; exact i1, by rw [g2]; exact v7.2.2.1⟩, ⟨by rw [v4, u3, v3], u4.trans v5.1.symm, u6.1.trans v7.2.2.2.2.2.1.symm, u5.trans v6.symm, u6.2.1.trans v7.2.2.2.2.2.2.1.symm, fun y => u4.trans (v5.2 (by rw [v4, v3] at y; exact y))⟩, ⟨fun i hi => ?_, ?_, fun i hi => ?_⟩⟩, Int32.toInt_inj.mp (by rw [v1, q0]; exact z0.symm), fun _ => ?_⟩
      · rw [b3]; exact LK_k hl.1 gT
      · rw [b3]; exact GL_k hl.2.1 gG
      · have w := v7.2.2.2.2.2.1
        exact (u6.2.2 i (by omega)).trans (v7.2.2.2.2.2.2.2.1 i (by omega)).symm
      · rw [gz, v34]; exact hl.2.2.2.2.2.1
      · rw [gz] at hi
        rw [gy, e35, c35]; exact hl.2.2.2.2.2.2 i hi
      · rw [q2]
        exact congrArg Int32.toInt64 (Int32.toInt_inj.mp (u2.trans v3.symm))
    · have w1 := rnx_0 q2
      omega
    · have w1 := rnx_1 q2
      omega
/-- told -/
theorem td_q {z : Int32} (hO : OL cv m F) (hM : tdM F m a1 z F1) (hq : (k = 0 ∧ ∃ z : Int32, f1 0 = z.toInt64 ∧ tr_SpillForge_told a1 (rnA cv) (rnS cv) (rnN cv) (rnK cv) (rnE cv) z) ∨ (k = 1 ∧ tx_SpillForge_told_0 a1)) : fI (F1 m) 30 = k ∧ (k = 0 → f1 0 = z.toInt64) := by
  have z1 : Int32.toInt 1 = 1 := by decide
  have z0 : Int32.toInt 0 = 0 := by decide
  obtain ⟨o1, o2, o3, o4, o5, o6⟩ := hO
  rcases hM with ⟨y1, y2⟩ | ⟨y1, y2⟩
  · rcases hq with ⟨q0, z2, q1, q2⟩ | ⟨q0, q1⟩
    · rcases tdc_x q2 with ⟨e, -⟩ | ⟨e, -⟩ | ⟨e, -⟩ | ⟨e, -⟩ | ⟨e, -⟩ <;> omega
    · exact ⟨Int32.toInt_inj.mp (by rw [y2, q0]; exact z1.symm), fun e => absurd (q0.symm.trans e) (by decide)⟩
  · rcases hq with ⟨q0, z2, q1, q2⟩ | ⟨q0, q1⟩
    · refine ⟨Int32.toInt_inj.mp (by rw [y1, q0]; exact z0.symm), fun _ => ?_⟩
      rw [q1]
      refine congrArg Int32.toInt64 (Int32.toInt_inj.mp ?_)
      rcases tdc_x q2 with ⟨e, ez⟩ | ⟨e, ez⟩ | ⟨e, ez⟩ | ⟨e, ez⟩ | ⟨e, ez⟩
      · rcases y2 with ⟨g, w⟩ | ⟨g, -⟩ | ⟨g, -⟩ | ⟨g, -⟩ | ⟨g, -⟩
        · rcases w with ⟨w1, w2⟩ | ⟨w1, w2⟩
          · rw [ez, w2, o6 w1]
          · rw [ez, w2, o2]
        all_goals omega
      · rcases y2 with ⟨g, -⟩ | ⟨g, w⟩ | ⟨g, -⟩ | ⟨g, -⟩ | ⟨g, -⟩
        · omega
        · rw [ez, w]; exact o3
        all_goals omega
      · rcases y2 with ⟨g, -⟩ | ⟨g, -⟩ | ⟨g, w⟩ | ⟨g, -⟩ | ⟨g, -⟩
        · omega
        · omega
        · rw [ez, w]; exact o4
        all_goals omega
      · rcases y2 with ⟨g, -⟩ | ⟨g, -⟩ | ⟨g, -⟩ | ⟨g, w⟩ | ⟨g, -⟩
        · omega
        · omega
        · omega
        · rw [ez, w]; exact o5
        · omega
      · rcases y2 with ⟨g, -⟩ | ⟨g, -⟩ | ⟨g, -⟩ | ⟨g, -⟩ | ⟨g, w⟩
        · omega
        · omega
        · omega
        · omega
        · rw [ez, w]; exact o1
    · have w1 := tdx_0 q1
      omega
/-- shown -/
theorem sh_q {z : Int32} (hO : OL cv m F) (hS : SL cv m γ F) (h512 : (fI (F m) 25).toInt ≤ 512) (hM : shM γ F m a1 z F1) (hq : (k = 0 ∧ ∃ z : Int32, f1 0 = z.toInt64 ∧ tr_SpillForge_shown a1 (rnS cv) (rnW cv) z) ∨ (k = 1 ∧ tx_SpillForge_shown_0 a1 (rnS cv))) : fI (F1 m) 30 = k ∧ (k = 0 → f1 0 = z.toInt64) := by
  have z1 : Int32.toInt 1 = 1 := by decide
  have z0 : Int32.toInt 0 = 0 := by decide
  have o3 := hO.2.2.1
  rcases hM with ⟨y1, y2⟩ | ⟨y1, y2, y3⟩
  · rcases hq with ⟨q0, z2, q1, q2⟩ | ⟨q0, q1⟩
    · have w := (shc_x q2).1
      omega
    · exact ⟨Int32.toInt_inj.mp (by rw [y2, q0]; exact z1.symm), fun e => absurd (q0.symm.trans e) (by decide)⟩
  · rcases hq with ⟨q0, z2, q1, q2⟩ | ⟨q0, q1⟩
    · refine ⟨Int32.toInt_inj.mp (by rw [y2, q0]; exact z0.symm), fun _ => ?_⟩
      rw [q1]
      refine congrArg Int32.toInt64 ?_
      rw [y3, (shc_x q2).2 (by omega)]
      exact hS.1 _ (by omega)
    · have w := shx_0 q1
      omega
/-- word -/
theorem wd_q {z : Int64} (hS : SL cv m γ F) (hM : wdM F m a1 z F1) (hq : (k = 0 ∧ ∃ z : Int64, f1 0 = z ∧ tr_SpillForge_word a1 (lsZ cv) (lsY cv) z) ∨ (k = 1 ∧ tx_SpillForge_word_0 a1 (lsZ cv))) : fI (F1 m) 30 = k ∧ (k = 0 → f1 0 = z) := by
  have z1 : Int32.toInt 1 = 1 := by decide
  have z0 : Int32.toInt 0 = 0 := by decide
  obtain ⟨-, ⟨s0, s1, s2⟩, s3⟩ := hS
  rcases hM with ⟨y1, y2⟩ | ⟨y1, y2, y3⟩
  · rcases hq with ⟨q0, z2, q1, q2⟩ | ⟨q0, q1⟩
    · have w := (wdc_x q2).1
      omega
    · exact ⟨Int32.toInt_inj.mp (by rw [y2, q0]; exact z1.symm), fun e => absurd (q0.symm.trans e) (by decide)⟩
  · rcases hq with ⟨q0, z2, q1, q2⟩ | ⟨q0, q1⟩
    · refine ⟨Int32.toInt_inj.mp (by rw [y2, q0]; exact z0.symm), fun _ => ?_⟩
      rw [q1, y3]
      rw [e8_tr (i := a1.toInt.toNat) (n := (fI (F m) 34).toInt.toNat) (by omega) (by omega) (by omega) (by omega) (wdc_x q2).2]
      exact w8_c (fun j hj => s3 j (by omega)) 8
    · have w := wdx_0 q1
      omega
/-- list -/
theorem ls_q {z : Int32} (h : mdS D I m n P F γ el) (hl : LK9 I cv n m γ el F) (gT : kpT m γ el F γ2 el F1) (gG : kpG m γ el F γ2 el F1) (gO : ((mO (F1 m)).1.1, (mO (F1 m)).2) = ((mO (F m)).1.1, (mO (F m)).2)) (g28 : F1 (fR (F m) 28) = F (fR (F m) 28)) (g22 : F1 (γ 9 22) = F (γ 9 22)) (hM : lsM γ el F m a1 z F1)
    (hq : (k = 0 ∧ ∃ (z : Int32) (c1 : gCv), clS D I x A1 n c1 ∧ f1 0 = z.toInt64 ∧ lsT a1 cv c1 z) ∨ (k = 1 ∧ clS D I x A1 n cv ∧ tx_SpillForge_list_0 a1 cv.2.1 (dnG cv))) : ∃ c1, clS D I x A1 n c1 ∧ LK9 I c1 n m γ2 el F1 ∧ fI (F1 m) 30 = k ∧ (k = 0 → f1 0 = z.toInt64) := by
  have z1 : Int32.toInt 1 = 1 := by decide
  have z0 : Int32.toInt 0 = 0 := by decide
  have a0 : a1 = 0 ↔ a1.toInt = 0 := ⟨fun e => by rw [e]; exact z0, fun e => Int32.toInt_inj.mp (by rw [e]; exact z0.symm)⟩
  have O1 : (mO (F1 m)).1.1 = (mO (F m)).1.1 := (Prod.mk.inj gO).1
  have O2 : (mO (F1 m)).2 = (mO (F m)).2 := (Prod.mk.inj gO).2
  obtain ⟨ft, t1, t2, l⟩ := id hl.1
  have pe : ((fI (F m) 9).toInt = 0 ∧ cv.2.1.toInt = 0) ∨ ((fI (F m) 9).toInt ≠ 0 ∧ cv.2.1.toInt ≠ 0) := l.imp id (fun q => ⟨q.1, by rw [q.2.1]; decide⟩)
  have ge : ((fI (F m) 10).toInt = 0 ∧ (dnG cv).toInt = 0) ∨ ((fI (F m) 10).toInt ≠ 0 ∧ (dnG cv).toInt ≠ 0) := hl.2.1.imp id (fun q => ⟨q.1, q.2.1⟩)
  rcases hM with ⟨y0, y1, ⟨y2, y3⟩, y4⟩ | ⟨y1, F', cc, f, yF, yc, yx, y34, yl⟩
  · rw [a0] at y0
    have eO : mO (F1 m) = mO (F m) := Prod.ext (Prod.ext O1 y3) O2
    rcases hq with ⟨q0, z2, c1, q1, q2, q3⟩ | ⟨q0, q1, q2⟩
    · have w := q3.2.1
      omega
    · exact ⟨cv, q1, LK9_k hl ⟨gT, gG, ⟨eO, g28⟩, g22, y2, y4⟩, Int32.toInt_inj.mp (by rw [y1, q0]; exact z1.symm), fun e => absurd (q0.symm.trans e) (by decide)⟩
  · rw [a0] at yc
    rcases hq with ⟨q0, z2, c1, q1, q2, q3⟩ | ⟨q0, q1, q2⟩
    · obtain ⟨b1, b2, b3, b4⟩ := q3
      obtain ⟨s1, s2, s3, s4, s5, -⟩ := id h
      have st : rStr γ [] F F' := fun b _ y _ => yF b (fun e => by rw [e, s2] at y; omega)
      obtain ⟨Q, hP, hC, hL, hS, hR, h6⟩ : ∃ Q, rnP Q ∧ ((a1.toInt = 0 ∧ cv.2.1.toInt ≠ 0 ∧ cdC cv Q) ∨ (a1.toInt ≠ 0 ∧ (dnG cv).toInt ≠ 0 ∧ cdG cv Q)) ∧ (zlB Q Q.1).length ≤ 16384 ∧ stQ Q ∧ rfX γ el F' cc Q ∧ γ 6 f = Q.1 := by
        rcases yc with ⟨e1, e2, ec, ef⟩ | ⟨e1, e2, ec, ef⟩
        · rcases l with ⟨f0, -⟩ | ⟨f0, p0, Q, l1, l2, l3, l4, B, nn, hB, hP⟩
          · exact absurd f0 e2
          · obtain ⟨c9, cf, -⟩ := md_6 s1 s2
            obtain ⟨e6, -⟩ := rf_6 s1 c9 cf (s4.resolve_left f0).1 l1.1.1
            rw [ec, ef]
            exact ⟨Q, rnP_P hB hP, Or.inl ⟨e1, by rw [p0]; decide, l4⟩, zl_rd hB hP, st_rd (okP_f hB hP).2.2.2.2.2, rfX_rs s1 c9 cf e6 (rfX_W.mpr (rfP_w (okP_f hB hP).2.2.2.2.2 l1.1)) st ⟨List.not_mem_nil, List.not_mem_nil, List.not_mem_nil⟩, e6⟩
        · rcases hl.2.1 with ⟨f0, -⟩ | ⟨f0, d0, Q, g1, g2⟩
          · exact absurd f0 e2
          · obtain ⟨⟨-, c7⟩, -, f7⟩ := md_c9 s1 s2
            obtain ⟨e6, -⟩ := rf_6 s1 c7 f7 (s5.resolve_left f0) g1.1.1
            rw [ec, ef]
            exact ⟨Q, g1.2.1, Or.inr ⟨e1, d0, g2⟩, g1.2.2.1, g1.2.2.2, rfX_rs s1 c7 f7 e6 (rfX_W.mpr g1.1) st ⟨List.not_mem_nil, List.not_mem_nil, List.not_mem_nil⟩, e6⟩
      rw [h6, zrP_B hR hP hS Q.1 (Nat.le_refl _)] at yx yl
      obtain ⟨u1, u2⟩ := b4 Q hP hC hL
      have ez : z2 = z := Int32.toInt_inj.mp (by rw [b3]; omega)
      have gw : rnW c1 = rnW cv := (show rnW c1 = rnW (upL cv c1) from congrArg rnW b1)
      have e25 : fI (F1 m) 25 = fI (F m) 25 := congrArg (fun z => z.2.2.1) O2
      refine ⟨c1, q1, ⟨?_, ?_, ?_, ?_, ⟨?_, ⟨by omega, by omega, by rw [y34]; omega⟩, fun i hi => (u2 i (by omega)).trans (yl i (by omega)).symm⟩⟩, Int32.toInt_inj.mp (by rw [y1, q0]; exact z0.symm), fun _ => by rw [q2, ez]⟩
      · rw [b1]; exact LK_k hl.1 gT
      · rw [b1]; exact GL_k hl.2.1 gG
      · rw [b1]
        obtain ⟨gn, h1, p, h2, h3⟩ := hl.2.2.1
        refine ⟨gn, h1, p, ?_, h3⟩
        rw [show fR (F1 m) 28 = fR (F m) 28 from O1, g28]
        exact h2
      · rw [b1]; exact OL_k hl.2.2.2.1 O2
      · rw [gw, gT.1, e25, g22]; exact hl.2.2.2.2.1
    · have w := lsx_0 q2
      omega
end RQ9
end
