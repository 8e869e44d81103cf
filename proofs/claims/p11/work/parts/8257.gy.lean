section GYR
variable {D : va_G} {I : FieldType → ClassId} {P : List Nat} {F : Nat → va_E} {γ0 el0 : Nat → Nat → Nat} {f nm sl : Nat} {Q R : gPg} {dp : Nat → Nat}
/-- LOAD lines set temporaries -/
def ldT (R : gPg) : Prop := ∀ b i, b < R.1 → i < R.2.1 b → R.2.2.1 b i 0 = 17 → 100 ≤ R.2.2.1 b i 1
theorem ldT_mg {k : Int} {b j : Nat} (h : ldT Q) (hm : mgb Q k b j) : ldT (mg1 Q b j) := fun d i hd hi h17 => by
  have hi2 : i < if d = b then Q.2.1 d - 1 else Q.2.1 d := hi
  have hx : (if d = b ∧ j ≤ i then i + 1 else i) < Q.2.1 d := by
    by_cases e : d = b
    · rw [if_pos e] at hi2; split <;> omega
    · rw [if_neg e] at hi2; rw [if_neg (fun z => e z.1)]; exact hi2
  have q := h d _ hd hx h17
  obtain ⟨hb, hj, h0, h1, h2, h3⟩ := hm
  show 100 ≤ rnV (max (Q.2.2.1 b j 1) (Q.2.2.1 b j 2)) (min (Q.2.2.1 b j 1) (Q.2.2.1 b j 2)) (Q.2.2.1 d (if d = b ∧ j ≤ i then i + 1 else i) 1)
  unfold rnV
  by_cases e : Q.2.2.1 d (if d = b ∧ j ≤ i then i + 1 else i) 1 = max (Q.2.2.1 b j 1) (Q.2.2.1 b j 2)
  · rw [if_pos e]
    rcases h3 with h3 | h3
    · omega
    · have a := h3.1
      have c := h3.2.1
      omega
  · rw [if_neg e]; exact q
theorem ldT_MG {k : Int} : ∀ {m : Nat} {Q R : gPg}, ldT Q → MGn k m Q R → ldT R
  | 0, _, _, h, g => by rw [g.1]; exact h
  | m + 1, _, _, h, ⟨b, j, q, g⟩ => ldT_MG (ldT_mg h q.1) g
theorem qOk_MG {k : Int} : ∀ {m : Nat} {Q R : gPg}, qOk Q → MGn k m Q R → qOk R
  | 0, _, _, h, g => by rw [g.1]; exact h
  | m + 1, _, _, h, ⟨b, j, q, g⟩ => qOk_MG (qOk_mg h q.1) g
def lT (l : Nat → Int) (_ : Nat) : Prop := l 0 = 17 → 100 ≤ l 1
theorem lT_m : ∀ (l : Nat → Int) (a c : Nat), a ≤ c → lT l a → lT l c := fun _ _ _ _ h => h
theorem lT_N {so : Nat → Int} {x : Int} {s : gSp6} (h1 : 100 ≤ s.2) (h : allL lT s) : allL lT (ldN so x s) := by
  unfold ldN
  by_cases c : slf so x = -1
  · rw [if_pos c]; exact h
  · rw [if_neg c]; exact allL_L lT_m h (Nat.le_succ _) (fun _ => by show (100 : Int) ≤ (s.2 : Int); omega)
theorem lT_Ln {so : Nat → Int} {l : Nat → Int} {s : gSp6} (h1 : 100 ≤ s.2) (hl : lT l 0) (h : allL lT s) : allL lT (spLn so l s) := by
  have r : allL lT (spR so l s) ∧ 100 ≤ (spR so l s).2 := by
    unfold spR
    split
    · exact ⟨lT_N h1 h, ldN_2 h1⟩
    · exact ⟨lT_N (ldN_2 h1) (lT_N h1 h), ldN_2 (ldN_2 h1)⟩
  unfold spLn spW
  by_cases c : slf so (l 1) = -1
  · rw [if_pos c]; exact allL_L lT_m r.1 (Nat.le_refl _) hl
  · rw [if_neg c]
    have p := (slf_p c).2
    have a1 := allL_L (l := mkL (l 0) ((spR so l s).2 : Int) (ldV so (l 2) s.2) (l 3) (spV so l s) (l 5)) (m := (spR so l s).2 + 1) lT_m r.1 (Nat.le_succ _) (fun _ => by have := r.2; show (100 : Int) ≤ ((spR so l s).2 : Int); omega)
    exact allL_L (s := (pgL (spR so l s).1 (mkL (l 0) ((spR so l s).2 : Int) (ldV so (l 2) s.2) (l 3) (spV so l s) (l 5)), (spR so l s).2 + 1)) lT_m a1 (Nat.le_refl _) (fun z => absurd (show (18 : Int) = 17 from z) (by decide))
theorem lT_B {so : Nat → Int} {ls : Nat → Nat → Int} {s : gSp6} (h0 : 0 < s.1.1) (h1 : 100 ≤ s.2) (h : allL lT s) : ∀ m, (∀ j, j < m → lT (ls j) 0) → allL lT (spB so ls m s)
  | 0, _ => h
  | m + 1, hl => lT_Ln (spB_k (so := so) (ls := ls) h0 h1 m).2.2 (hl m (Nat.lt_succ_self m)) (lT_B h0 h1 h m (fun j hj => hl j (by omega)))
theorem lT_P {so : Nat → Int} (h1 : 100 ≤ nm) : ∀ b, (∀ c j, c < b → j < R.2.1 c → lT (R.2.2.1 c j) 0) → allL lT (spP so R nm b)
  | 0, _ => fun b j hb _ => absurd hb (Nat.not_lt_zero b)
  | b + 1, h => lT_B (s := (pgOL R (spP so R nm b).1, (spP so R nm b).2)) (Nat.succ_pos _) (spP_k (so := so) (Q := R) h1 b).2.1 (allL_OL (lT_P h1 b (fun c j hc => h c j (by omega)))) (R.2.1 b) (fun j hj => h b j (Nat.lt_succ_self b) hj)
theorem ldT_P {so : Nat → Int} (h1 : 100 ≤ nm) (h : ldT R) : ldT (spP so R nm R.1).1 := fun b i hb hi h17 => lT_P (so := so) h1 R.1 (fun c j hc hj => h c j hc hj) b i hb hi h17
/-- a round's graph -/
def grX (γ : Nat → Nat → Nat) (F : Nat → va_E) (Q : gPg) : Prop := (∀ n k, n < 2000 → k < 2000 → (egS γ F n k = true ↔ JJ Q n k)) ∧ ∀ v, rSd (cB (F (γ 9 3))) v ↔ Sd Q false 2000 v
def kdX (γ0 γ : Nat → Nat → Nat) (f q0 q1 : Nat) (Q : gPg) : Prop := γ 0 q1 = 9 ∧ γ 1 q1 = f ∧ γ 0 q0 = 10 ∧ γ 9 = γ0 9 ∧ γ 6 f = Q.1
theorem grX_g {γ el : Nat → Nat → Nat} {F1 : Nat → va_E} {q0 q1 : Nat} {a2 : Int32} (hT : RS D I P F γ el) (hc : γ 0 q1 = 9) (hcf : γ 1 q1 = f) (hm : γ 0 q0 = 10) (hQ6 : γ 6 f = Q.1) (hq : rfX γ el F q1 Q) (hO : qOk Q) (hQ40 : Q.1 ≤ 40) (ha : a2.toInt = 0) (hg : rGr γ el F q1 (γ 6 (γ 1 q1)) (cB (F1 (γ 9 3))) (vA (γ 6 (γ 1 q1)))) (h : tr_RModel_graph D I γ el P F q0 q1 a2 F1) : grX γ F1 Q := by
  have hw := rfX_W.mp hq
  have hB := hB2_ hT hc hcf hQ6
  have hQ6' : γ 6 (γ 1 q1) = Q.1 := by rw [hcf]; exact hQ6
  refine ⟨fun n k hn hk => ?_, fun v => nm_Sd hT hB hw hO hQ6' hg v⟩
  rw [gr_tr hT hm hc hw hO hQ40 hQ6' hB ha h n k hn hk]
  exact Jn_J1 hO
theorem ga52_r {q0 : Nat} {q1 : Nat} {a2 : Int32} {s1 : List Nat} {s2 : Nat → va_E} {s3 : Nat → Nat → Nat} {s4 : Nat → Nat → Nat} {k : Nat} {e1 : Nat → va_E} {e2 : List Nat} {e3 : Nat → Nat → Nat} {e4 : Nat → Nat → Nat} (h : tl_RModel_giveAll_52 D I γ0 el0 f P F q0 q1 a2 s1 s2 s3 s4 k e1 e2 e3 e4) : ∀ Q : gPg, rfX s3 s4 s2 q1 Q → qOk Q → Q.1 ≤ 40 → kdX γ0 s3 f q0 q1 Q → grX s3 s2 Q → ∃ m R, MGn a2.toInt m Q R ∧ rfX e3 e4 e1 q1 R ∧ kdX γ0 e3 f q0 q1 R ∧ grX e3 e1 R ∧ RS D I e2 e1 e3 e4 ∧ (fI (e1 q0) 11).toInt = (fI (s2 q0) 11).toInt ∧ (fI (e1 q0) 14).toInt = (fI (s2 q0) 14).toInt := by
  refine h (fun s1 s2 s3 s4 k e1 e2 e3 e4 => ∀ Q : gPg, rfX s3 s4 s2 q1 Q → qOk Q → Q.1 ≤ 40 → kdX γ0 s3 f q0 q1 Q → grX s3 s2 Q → ∃ m R, MGn a2.toInt m Q R ∧ rfX e3 e4 e1 q1 R ∧ kdX γ0 e3 f q0 q1 R ∧ grX e3 e1 R ∧ RS D I e2 e1 e3 e4 ∧ (fI (e1 q0) 11).toInt = (fI (s2 q0) 11).toInt ∧ (fI (e1 q0) 14).toInt = (fI (s2 q0) 14).toInt) ?_ ?_
  · intro P_2 F_2 gm_2 el_2 x1 x2 x3 x4 x5 h1 h2 h3 h4 h5 h6 h7 h8 h9 h10 h11 h12 h13 h14 h15 h16 h17 h18 h19 h20 h21
    intro Q hq hO hQ40 hk hg
    obtain ⟨k1, k2, k3, k4, k5⟩ := hk
    have r := rme_tr h1 k3 k1 k2 k5 hq hO hg.1 h20
    rcases r with ⟨-, r2, r3, r4, r5, r6⟩ | ⟨r1, -⟩
    · rw [r3, r4, r5, r6]
      exact ⟨0, Q, ⟨rfl, r2⟩, hq, ⟨k1, k2, k3, k4, k5⟩, hg, h1, rfl, rfl⟩
    · exact absurd h21 r1
  · intro P_2 F_2 gm_2 el_2 x1 x2 x3 x4 x5 x6 k e1 e2 e3 e4 h1 h2 h3 h4 h5 h6 h7 h8 h9 h10 h11 h12 h13 h14 h15 h16 h17 h18 h19 h20 h21 h22 h23 h24 h25 h26 ih
    intro Q hq hO hQ40 hk hg
    obtain ⟨k1, k2, k3, k4, k5⟩ := hk
    have r := rme_tr h1 k3 k1 k2 k5 hq hO hg.1 h20
    rcases r with ⟨r1, -⟩ | ⟨-, b, j, r2, r3, r4, r5, r6, r7, r8⟩
    · exact absurd r1 h21
    have hT2 : RS D I x1 x2 x3 x4 := (h9).1
    have hQ6' : x3 6 f = (mg1 Q b j).1 := r4
    have O2 := qOk_mg hO r2.1
    have gr := grX_g hT2 r5 r6 r7 hQ6' r3 O2 hQ40 (by decide) (h24 rfl) h26
    have q6 : rfX x3 x4 x6 q1 (mg1 Q b j) := rfX_rs hT2 r5 r6 hQ6' r3 h23 ⟨List.not_mem_nil, List.not_mem_nil, List.not_mem_nil⟩
    have eq6 := h25
    obtain ⟨m, R, s1, s2, s3, s4, s5, s6, s7⟩ := ih (mg1 Q b j) q6 O2 hQ40 ⟨r5, r6, r7, r8.trans k4, hQ6'⟩ gr
    refine ⟨m + 1, R, ⟨b, j, r2, s1⟩, s2, s3, s4, s5, ?_, ?_⟩
    · rw [s6, eq6]; exact h16
    · rw [s7, eq6]; exact h17
theorem Ed_c {Q R : gPg} (h1 : R.1 = Q.1) (h2 : ∀ b, b < Q.1 → R.2.2.2 b = Q.2.2.2 b) : Ed R = Ed Q := by
  funext a b
  apply propext
  unfold Ed
  rw [h1]
  exact ⟨fun ⟨x, i, y, z⟩ => ⟨x, i, y, by rw [← h2 a x]; exact z⟩, fun ⟨x, i, y, z⟩ => ⟨x, i, y, by rw [h2 a x]; exact z⟩⟩
theorem dpt_c {Q R : gPg} (h1 : R.1 = Q.1) (h2 : ∀ b, b < Q.1 → R.2.2.2 b = Q.2.2.2 b) : dpt R = dpt Q := by
  have e := Ed_c h1 h2
  have eI : InL R = InL Q := by
    funext h b
    unfold InL clo rAll
    rw [e]
  funext b
  unfold dpt
  rw [eI, h1]
theorem dpt_MG {k : Int} : ∀ {m : Nat} {Q R : gPg}, MGn k m Q R → dpt R = dpt Q
  | 0, _, _, g => by rw [g.1]
  | m + 1, _, _, ⟨b, j, q, g⟩ => (dpt_MG g).trans (dpt_c rfl (fun _ _ => rfl))
theorem dpt_P {so : Nat → Int} (h1 : 100 ≤ nm) : dpt (spP so R nm R.1).1 = dpt R := dpt_c (spP_k (so := so) (Q := R) h1 R.1).1 (fun b hb => spP_g h1 R.1 b hb)
theorem rs_12 {γ el : Nat → Nat → Nat} {F1 : Nat → va_E} {m : Nat} {x : Int32} (hT : RS D I P F γ el) (hm : γ 0 m = 10) (n : ∀ b, b ≠ m → F1 b = F b) (e : F1 m = cF (F m) 12 (.int x)) : RS D I P F1 γ el := by
  obtain ⟨r28, r35, v9, v10, v11, v12, v13, v14, v23, v24, v25, v26, v27, v30, v32, v33, v34, he, hM1, hK, hM2⟩ := rk10_m (show rk_10 γ (F m) from RS_o hT hm)
  rw [he] at e
  exact RS_md hT hm n (v12 := x) e hM1 hK hM2
theorem ga28_r {q0 : Nat} {q1 : Nat} {a2 : Int32} {s1 : List Nat} {s2 : Nat → va_E} {s3 : Nat → Nat → Nat} {s4 : Nat → Nat → Nat} {s5 : Int32} {k : Nat} {e1 : Nat → va_E} {e2 : List Nat} {e3 : Nat → Nat → Nat} {e4 : Nat → Nat → Nat} {e5 : Int32} (hk1 : 1 ≤ a2.toInt) (hk2 : a2.toInt ≤ 32) (h : tl_RModel_giveAll_28 D I γ0 el0 f P F q0 q1 a2 s1 s2 s3 s4 s5 k e1 e2 e3 e4 e5) : ∀ (Q : gPg) (nm sl t : Nat), s5.toInt = (t : Int) → 1 ≤ t → t ≤ 41 → rfX s3 s4 s2 q1 Q → qOk Q → gvI Q nm → ldT Q → kdX γ0 s3 f q0 q1 Q → dpt Q = dp → (fI (s2 q0) 14).toInt = (nm : Int) → (fI (s2 q0) 11).toInt = (sl : Int) → ∃ r Z, GVr a2.toInt dp (41 - t) t Q nm sl r Z ∧ (k = 87 → r = e5.toInt ∧ 1 ≤ r ∧ rfX e3 e4 e1 q1 Z.1 ∧ kdX γ0 e3 f q0 q1 Z.1 ∧ (∀ u, u < 2000 → (cB (e1 (e3 9 17)) u).toInt = Z.2.1 u) ∧ (fI (e1 q0) 11).toInt = (Z.2.2 : Int)) ∧ (k ≠ 87 → r = -1) := by
  refine h (fun s1 s2 s3 s4 s5 k e1 e2 e3 e4 e5 => ∀ (Q : gPg) (nm sl t : Nat), s5.toInt = (t : Int) → 1 ≤ t → t ≤ 41 → rfX s3 s4 s2 q1 Q → qOk Q → gvI Q nm → ldT Q → kdX γ0 s3 f q0 q1 Q → dpt Q = dp → (fI (s2 q0) 14).toInt = (nm : Int) → (fI (s2 q0) 11).toInt = (sl : Int) → ∃ r Z, GVr a2.toInt dp (41 - t) t Q nm sl r Z ∧ (k = 87 → r = e5.toInt ∧ 1 ≤ r ∧ rfX e3 e4 e1 q1 Z.1 ∧ kdX γ0 e3 f q0 q1 Z.1 ∧ (∀ u, u < 2000 → (cB (e1 (e3 9 17)) u).toInt = Z.2.1 u) ∧ (fI (e1 q0) 11).toInt = (Z.2.2 : Int)) ∧ (k ≠ 87 → r = -1)) ?_ ?_ ?_ ?_ ?_
  · intro P_1 F_1 gm_1 el_1 l3_1 h1 h2 h3 h4 h5 h6 h7 h8 h9
    intro Q nm sl t ht h1t ht41 hq hO hi hL hkd hdp hn14 hn11
    have e : t = 41 := by omega
    rw [e]
    exact ⟨-1, (pgO, fun _ => -1, 0), ⟨rfl, rfl⟩, fun z => (nomatch z), fun _ => rfl⟩
  · intro P_1 F_1 gm_1 el_1 l3_1 x1 x2 x3 x4 x5 x6 x7 x8 x9 x10 x11 x12 x13 x14 x15 x16 x17 x18 k e1 e2 e3 e4 e5 h1 h2 h3 h4 h5 h6 h7 h8 h9 h10 h11 h12 h13 h14 h15 h16 h17 h18 h19 h20 h21 h22 h23 h24 h25 h26 h27 h28 h29 h30 h31 h32 h33 h34 h35 h36 h37 h38 h39 h40 h41 ih
    intro Q nm sl t ht h1t ht41 hq hO hi hL hkd hdp hn14 hn11
    have hi' := hi
    obtain ⟨i1, i2, i3, i4, i5, i6⟩ := hi
    obtain ⟨k1, k2, k3, k4, k5⟩ := hkd
    have cr := crw_tr h2 k1 k2 k5 hq (by omega) h10
    have gr := grX_g h2 k1 k2 k3 k5 hq hO i5 (by decide) (h14 rfl) h16
    have q2 : rfX gm_1 el_1 x2 q1 Q := rfX_rs h2 k1 k2 k5 hq h13 ⟨List.not_mem_nil, List.not_mem_nil, List.not_mem_nil⟩
    have eq2 := h15
    obtain ⟨m, R, s1, s2, s3, s4, s5, s6, s7⟩ := ga52_r h17 Q q2 hO i5 ⟨k1, k2, k3, k4, k5⟩ gr
    obtain ⟨gR, sR⟩ := gvI_m hi' s1
    have nR : R.1 = Q.1 := (MGn_f i1 i1 s1).2.2.2.1
    have OR := qOk_MG hO s1
    have LR := ldT_MG hL s1
    obtain ⟨l1, l2, l3, l4, l5⟩ := s3
    have hB := hB2_ s5 l1 l2 l5
    obtain ⟨w1, w2⟩ := wg_r s5 l3 l1 hB (rfX_W.mp s2) OR gR.2.2.2.2.1 (by omega) h22
    obtain ⟨kk3, kk5, kk15, kk16, kk17, kk18, kk19, kk11⟩ := md_kd9 s5 l3
    have dR : dpt R = dp := (dpt_MG s1).trans hdp
    have T7 : RS D I x4 x7 x5 x6 := h18
    have G7 : ∀ n k, n < 2000 → k < 2000 → (egS x5 x7 n k = true ↔ JJ R n k) := fun n k hn hk => by
      have q := s4.1 n k hn hk
      unfold egS at q ⊢
      rw [w2 _ (fun e => by have q2 := kk11 n hn; rw [e, (md_kd5 s5 l3).1] at q2; cases q2) (fun e => by have q2 := kk11 n hn; rw [e, kk5] at q2; cases q2)]; exact q
    have S7 : ∀ v, rSd (cB (x7 (x5 9 3))) v ↔ Sd R false 2000 v := fun v => by
      rw [h21]; exact s4.2 v
    obtain ⟨n, p, c1, c2, c3, c4⟩ := rco_tr (Q := R) T7 l3 (by omega) hk2 G7 S7 h29
    have ta : TA (JJ R) (fun v => wPg R dp v R.1) a2.toInt n (Sd R false 2000) (dgc R) p := TA_c (fun v hv => ⟨by
      have q := w1 v hv.1
      rw [dR] at q
      exact q, rfl⟩) c1
    have rd : rnd a2.toInt dp Q R n p := ⟨⟨m, s1⟩, ta⟩
    have ef : 41 - t = (40 - t) + 1 := by omega
    rw [ef]
    have bd : bdN (JJ R) a2.toInt p n n := Classical.byContradiction fun z => h30 (c3.mpr z)
    have m3 : x5 9 3 ≠ q0 := fun e => by rw [e, l3] at kk3; cases kk3
    have m17 : x5 9 17 ≠ q0 := fun e => by rw [e, l3] at kk17; cases kk17
    have T9 : RS D I x4 x9 x5 x6 := h24
    have T12 : RS D I x4 x12 x5 x6 := rs_12 T9 l3 h33 h34
    have q7 : rfX x5 x6 x7 q1 R := rfX_rs s5 l1 l2 l5 s2 h19 ⟨List.not_mem_nil, List.not_mem_nil, List.not_mem_nil⟩
    have q9 : rfX x5 x6 x9 q1 R := rfX_rs T7 l1 l2 l5 q7 h25 ⟨List.not_mem_nil, List.not_mem_nil, List.not_mem_nil⟩
    have q12 : rfX x5 x6 x12 q1 R := rfX_fr T9 l1 l2 l5 q9 (fun a ha => h33 a (fun e => by rw [e, l3] at ha; omega))
    have e9 : x9 q0 = x3 q0 := (h27).trans h20
    obtain ⟨r28, r35, v9, v10, v11, v12, v13, v14, v23, v24, v25, v26, v27, v30, v32, v33, v34, he, hM1, -⟩ := rk10_m (show rk_10 x5 (x9 q0) from RS_o T9 l3)
    have e12 : x12 q0 = mdE x5 r28 r35 v9 v10 v11 x11 v13 v14 v23 v24 v25 v26 v27 v30 v32 v33 v34 := by rw [h34, he]; rfl
    have z11 : (fI (x12 q0) 11).toInt = (sl : Int) := by
      rw [e12]
      show v11.toInt = _
      have q := s6
      rw [eq2, hn11, ← e9, he] at q
      exact q
    have z14 : (fI (x12 q0) 14).toInt = (nm : Int) := by
      rw [e12]
      show v14.toInt = _
      have q := s7
      rw [eq2, hn14, ← e9, he] at q
      exact q
    have sl2 : sl ≤ 100 := by
      have q := hM1.2.2.1.2
      rw [e12] at z11
      have z' : v11.toInt = (sl : Int) := z11
      omega
    have sp := spi_r (R := R) (nm := nm) (sl := sl) (col := clN (JJ R) a2.toInt p n n) T12 l3 l1 l2 l5 q12 OR gR (fun v => by
      rw [h33 _ m3, h28]; exact S7 v) (fun v hv => by
      rw [h33 _ m17]; exact c2 v hv) (fun v => (clN_b (J := JJ R) (p := p) (n := n) (by omega) n v).1) z11 sl2 z14 LR h39
    rcases sp with ⟨g1, -⟩ | ⟨-, g2, g3, g4, g5⟩
    · exact absurd g1 h40
    obtain ⟨qi1, qi2, qi3, qi4⟩ := spP_i (so := soU (unc R (clN (JJ R) a2.toInt p n n)) sl) gR
    have nQ : (spP (soU (unc R (clN (JJ R) a2.toInt p n n)) sl) R nm R.1).1.1 = R.1 := (spP_k (so := soU (unc R (clN (JJ R) a2.toInt p n n)) sl) (Q := R) gR.2.1 R.1).1
    have skS := h35
    obtain ⟨r, Z, r1, r2, r3⟩ := ih (spP (soU (unc R (clN (JJ R) a2.toInt p n n)) sl) R nm R.1).1 (spP (soU (unc R (clN (JJ R) a2.toInt p n n)) sl) R nm R.1).2 (sl + cntP (unc R (clN (JJ R) a2.toInt p n n)) 100) (t + 1) (by omega) (by omega) (by omega) g3 (qOk_sp gR.2.1 OR qi3) qi2 (ldT_P gR.2.1 LR) ⟨rSk_k skS (show rKd x5 q1 9 from l1) (by decide) (by decide), rSk_1 skS (show rKd x5 q1 9 from l1) (by decide) l2, rSk_k skS (show rKd x5 q0 10 from l3) (by decide) (by decide), (rSk_9 skS).trans l4, by rw [h36, nQ]; exact l5⟩ ((dpt_P gR.2.1).trans dR) g4 g5
    rw [show 41 - (t + 1) = 40 - t by omega] at r1
    exact ⟨r, Z, ⟨R, n, p, rd, Or.inr (Or.inr ⟨bd, g2, r1⟩)⟩, r2, r3⟩
  · intro P_1 F_1 gm_1 el_1 l3_1 x1 x2 x3 x4 x5 x6 x7 x8 x9 x10 x11 x12 x13 x14 x15 x16 x17 h1 h2 h3 h4 h5 h6 h7 h8 h9 h10 h11 h12 h13 h14 h15 h16 h17 h18 h19 h20 h21 h22 h23 h24 h25 h26 h27 h28 h29 h30 h31 h32 h33 h34 h35 h36 h37 h38 h39 h40
    intro Q nm sl t ht h1t ht41 hq hO hi hL hkd hdp hn14 hn11
    have hi' := hi
    obtain ⟨i1, i2, i3, i4, i5, i6⟩ := hi
    obtain ⟨k1, k2, k3, k4, k5⟩ := hkd
    have cr := crw_tr h2 k1 k2 k5 hq (by omega) h10
    have gr := grX_g h2 k1 k2 k3 k5 hq hO i5 (by decide) (h14 rfl) h16
    have q2 : rfX gm_1 el_1 x2 q1 Q := rfX_rs h2 k1 k2 k5 hq h13 ⟨List.not_mem_nil, List.not_mem_nil, List.not_mem_nil⟩
    have eq2 := h15
    obtain ⟨m, R, s1, s2, s3, s4, s5, s6, s7⟩ := ga52_r h17 Q q2 hO i5 ⟨k1, k2, k3, k4, k5⟩ gr
    obtain ⟨gR, sR⟩ := gvI_m hi' s1
    have nR : R.1 = Q.1 := (MGn_f i1 i1 s1).2.2.2.1
    have OR := qOk_MG hO s1
    have LR := ldT_MG hL s1
    obtain ⟨l1, l2, l3, l4, l5⟩ := s3
    have hB := hB2_ s5 l1 l2 l5
    obtain ⟨w1, w2⟩ := wg_r s5 l3 l1 hB (rfX_W.mp s2) OR gR.2.2.2.2.1 (by omega) h22
    obtain ⟨kk3, kk5, kk15, kk16, kk17, kk18, kk19, kk11⟩ := md_kd9 s5 l3
    have dR : dpt R = dp := (dpt_MG s1).trans hdp
    have T7 : RS D I x4 x7 x5 x6 := h18
    have G7 : ∀ n k, n < 2000 → k < 2000 → (egS x5 x7 n k = true ↔ JJ R n k) := fun n k hn hk => by
      have q := s4.1 n k hn hk
      unfold egS at q ⊢
      rw [w2 _ (fun e => by have q2 := kk11 n hn; rw [e, (md_kd5 s5 l3).1] at q2; cases q2) (fun e => by have q2 := kk11 n hn; rw [e, kk5] at q2; cases q2)]; exact q
    have S7 : ∀ v, rSd (cB (x7 (x5 9 3))) v ↔ Sd R false 2000 v := fun v => by
      rw [h21]; exact s4.2 v
    obtain ⟨n, p, c1, c2, c3, c4⟩ := rco_tr (Q := R) T7 l3 (by omega) hk2 G7 S7 h29
    have ta : TA (JJ R) (fun v => wPg R dp v R.1) a2.toInt n (Sd R false 2000) (dgc R) p := TA_c (fun v hv => ⟨by
      have q := w1 v hv.1
      rw [dR] at q
      exact q, rfl⟩) c1
    have rd : rnd a2.toInt dp Q R n p := ⟨⟨m, s1⟩, ta⟩
    have ef : 41 - t = (40 - t) + 1 := by omega
    rw [ef]
    have bd : bdN (JJ R) a2.toInt p n n := Classical.byContradiction fun z => h30 (c3.mpr z)
    have m3 : x5 9 3 ≠ q0 := fun e => by rw [e, l3] at kk3; cases kk3
    have m17 : x5 9 17 ≠ q0 := fun e => by rw [e, l3] at kk17; cases kk17
    have T9 : RS D I x4 x9 x5 x6 := h24
    have T12 : RS D I x4 x12 x5 x6 := rs_12 T9 l3 h33 h34
    have q7 : rfX x5 x6 x7 q1 R := rfX_rs s5 l1 l2 l5 s2 h19 ⟨List.not_mem_nil, List.not_mem_nil, List.not_mem_nil⟩
    have q9 : rfX x5 x6 x9 q1 R := rfX_rs T7 l1 l2 l5 q7 h25 ⟨List.not_mem_nil, List.not_mem_nil, List.not_mem_nil⟩
    have q12 : rfX x5 x6 x12 q1 R := rfX_fr T9 l1 l2 l5 q9 (fun a ha => h33 a (fun e => by rw [e, l3] at ha; omega))
    have e9 : x9 q0 = x3 q0 := (h27).trans h20
    obtain ⟨r28, r35, v9, v10, v11, v12, v13, v14, v23, v24, v25, v26, v27, v30, v32, v33, v34, he, hM1, -⟩ := rk10_m (show rk_10 x5 (x9 q0) from RS_o T9 l3)
    have e12 : x12 q0 = mdE x5 r28 r35 v9 v10 v11 x11 v13 v14 v23 v24 v25 v26 v27 v30 v32 v33 v34 := by rw [h34, he]; rfl
    have z11 : (fI (x12 q0) 11).toInt = (sl : Int) := by
      rw [e12]
      show v11.toInt = _
      have q := s6
      rw [eq2, hn11, ← e9, he] at q
      exact q
    have z14 : (fI (x12 q0) 14).toInt = (nm : Int) := by
      rw [e12]
      show v14.toInt = _
      have q := s7
      rw [eq2, hn14, ← e9, he] at q
      exact q
    have sl2 : sl ≤ 100 := by
      have q := hM1.2.2.1.2
      rw [e12] at z11
      have z' : v11.toInt = (sl : Int) := z11
      omega
    have sp := spi_r (R := R) (nm := nm) (sl := sl) (col := clN (JJ R) a2.toInt p n n) T12 l3 l1 l2 l5 q12 OR gR (fun v => by
      rw [h33 _ m3, h28]; exact S7 v) (fun v hv => by
      rw [h33 _ m17]; exact c2 v hv) (fun v => (clN_b (J := JJ R) (p := p) (n := n) (by omega) n v).1) z11 sl2 z14 LR h39
    rcases sp with ⟨-, g2⟩ | ⟨g1, -⟩
    · exact ⟨-1, (pgO, fun _ => -1, 0), ⟨R, n, p, rd, Or.inr (Or.inl ⟨bd, g2, rfl, rfl⟩)⟩, fun z => (nomatch z), fun _ => rfl⟩
    · exact absurd h40 g1
  · intro P_1 F_1 gm_1 el_1 l3_1 x1 x2 x3 x4 x5 x6 x7 x8 x9 h1 h2 h3 h4 h5 h6 h7 h8 h9 h10 h11 h12 h13 h14 h15 h16 h17 h18 h19 h20 h21 h22 h23 h24 h25 h26 h27 h28 h29 h30
    intro Q nm sl t ht h1t ht41 hq hO hi hL hkd hdp hn14 hn11
    have hi' := hi
    obtain ⟨i1, i2, i3, i4, i5, i6⟩ := hi
    obtain ⟨k1, k2, k3, k4, k5⟩ := hkd
    have cr := crw_tr h2 k1 k2 k5 hq (by omega) h10
    have gr := grX_g h2 k1 k2 k3 k5 hq hO i5 (by decide) (h14 rfl) h16
    have q2 : rfX gm_1 el_1 x2 q1 Q := rfX_rs h2 k1 k2 k5 hq h13 ⟨List.not_mem_nil, List.not_mem_nil, List.not_mem_nil⟩
    have eq2 := h15
    obtain ⟨m, R, s1, s2, s3, s4, s5, s6, s7⟩ := ga52_r h17 Q q2 hO i5 ⟨k1, k2, k3, k4, k5⟩ gr
    obtain ⟨gR, sR⟩ := gvI_m hi' s1
    have nR : R.1 = Q.1 := (MGn_f i1 i1 s1).2.2.2.1
    have OR := qOk_MG hO s1
    have LR := ldT_MG hL s1
    obtain ⟨l1, l2, l3, l4, l5⟩ := s3
    have hB := hB2_ s5 l1 l2 l5
    obtain ⟨w1, w2⟩ := wg_r s5 l3 l1 hB (rfX_W.mp s2) OR gR.2.2.2.2.1 (by omega) h22
    obtain ⟨kk3, kk5, kk15, kk16, kk17, kk18, kk19, kk11⟩ := md_kd9 s5 l3
    have dR : dpt R = dp := (dpt_MG s1).trans hdp
    have T7 : RS D I x4 x7 x5 x6 := h18
    have G7 : ∀ n k, n < 2000 → k < 2000 → (egS x5 x7 n k = true ↔ JJ R n k) := fun n k hn hk => by
      have q := s4.1 n k hn hk
      unfold egS at q ⊢
      rw [w2 _ (fun e => by have q2 := kk11 n hn; rw [e, (md_kd5 s5 l3).1] at q2; cases q2) (fun e => by have q2 := kk11 n hn; rw [e, kk5] at q2; cases q2)]; exact q
    have S7 : ∀ v, rSd (cB (x7 (x5 9 3))) v ↔ Sd R false 2000 v := fun v => by
      rw [h21]; exact s4.2 v
    obtain ⟨n, p, c1, c2, c3, c4⟩ := rco_tr (Q := R) T7 l3 (by omega) hk2 G7 S7 h29
    have ta : TA (JJ R) (fun v => wPg R dp v R.1) a2.toInt n (Sd R false 2000) (dgc R) p := TA_c (fun v hv => ⟨by
      have q := w1 v hv.1
      rw [dR] at q
      exact q, rfl⟩) c1
    have rd : rnd a2.toInt dp Q R n p := ⟨⟨m, s1⟩, ta⟩
    have ef : 41 - t = (40 - t) + 1 := by omega
    rw [ef]
    have q7 : rfX x5 x6 x7 q1 R := rfX_rs s5 l1 l2 l5 s2 h19 ⟨List.not_mem_nil, List.not_mem_nil, List.not_mem_nil⟩
    have q9 : rfX x5 x6 x9 q1 R := rfX_rs T7 l1 l2 l5 q7 h25 ⟨List.not_mem_nil, List.not_mem_nil, List.not_mem_nil⟩
    have e9 : x9 q0 = x3 q0 := (h27).trans h20
    have z11 : (fI (x9 q0) 11).toInt = (sl : Int) := by
      have q := s6
      rw [eq2, hn11, ← e9] at q
      exact q
    exact ⟨(t : Int), (R, clN (JJ R) a2.toInt p n n, sl), ⟨R, n, p, rd, Or.inl ⟨c3.mp h30, rfl, rfl⟩⟩, fun _ => ⟨ht.symm, by omega, q9, ⟨l1, l2, l3, l4, l5⟩, c2, z11⟩, fun z => absurd rfl z⟩
  · intro P_1 F_1 gm_1 el_1 l3_1 x1 h1 h2 h3 h4 h5 h6 h7 h8 h9 h10 h11
    intro Q nm sl t ht h1t ht41 hq hO hi hL hkd hdp hn14 hn11
    have hi' := hi
    obtain ⟨i1, i2, i3, i4, i5, i6⟩ := hi
    obtain ⟨k1, k2, k3, k4, k5⟩ := hkd
    have cr := crw_tr h2 k1 k2 k5 hq (by omega) h10
    omega
end GYR
