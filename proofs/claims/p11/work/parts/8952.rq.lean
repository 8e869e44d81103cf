/-! give and run: class and model do the same -/
section RQ9
variable {D : va_G} {I : FieldType → ClassId} {P P1 : List Nat} {F F1 : Nat → va_E} {γ γ1 γ2 el el1 : Nat → Nat → Nat} {m x : Nat} {n : Int} {cv : gCv} {A1 : va_W} {a1 a2 k r : Int32} {f1 : Nat → Int64} {Q : gPg}
theorem nm720 (h : ∃ nm, gvI Q nm) : nmO Q 720 := by
  obtain ⟨nm, h1, h2, h3, -⟩ := h
  intro b j hb hj
  obtain ⟨q1, q2, q3⟩ := h1 b j hb hj
  exact ⟨by omega, by omega, by omega⟩
def gvB (γ el : Nat → Nat → Nat) (F : Nat → va_E) (m : Nat) (Q : gPg) (a1 r err : Int32) : Prop := ((a1.toInt < 1 ∨ 32 < a1.toInt) ∧ err.toInt = 1) ∨ (1 ≤ a1.toInt ∧ a1.toInt ≤ 32 ∧ err.toInt = 0 ∧ ∃ Z, GVr a1.toInt (dpt Q) 40 1 (pgZ Q) 100 0 r.toInt Z ∧ ((r.toInt ≠ -1 ∧ (fI (F m) 10).toInt ≠ 0 ∧ (okZ a1.toInt Z → rfW γ el F (γ 9 7) (fnP Z))) ∨ (r.toInt = -1 ∧ (fI (F m) 10).toInt = 0)))
theorem gvB_of {p f : Nat} (hj : ∀ j, j ≠ 0 → j ≠ 12 → γ2 j = γ1 j) (hp : p = γ1 9 7) (h : gvA γ1 el1 F1 m p f Q a1 r k) : gvB γ2 el1 F1 m Q a1 r k := by
  rcases h with h | ⟨h1, h2, h3, Z, h4, h5⟩
  · exact Or.inl h
  · refine Or.inr ⟨h1, h2, h3, Z, h4, h5.imp (fun q => ⟨q.1, q.2.1, fun ok => ?_⟩) id⟩
    rw [hj 9 (by decide) (by decide), ← hp]
    exact rfW_j hj (rfX_W.mp (q.2.2 ok).1)
theorem LK9_g (hl : LK9 I cv n m γ el F) (gT : kpT m γ el F γ2 el1 F1) (gI : kpI m F F1) (gS : kpS m γ F F1) (gG : (a1.toInt < 1 ∨ 32 < a1.toInt) ∨ (fI (F m) 9).toInt = 0 → kpG m γ el F γ2 el1 F1) (gA : (fI (F m) 9).toInt ≠ 0 → ∀ Q, pgR γ el F Q → (∃ (B : Int → Int) (n : Int), bOk B n ∧ okP B n Q) → gvB γ2 el1 F1 m Q a1 r (fI (F1 m) 30))
    (hq : (k = 0 ∧ ∃ (z : Int32) (c1 : gCv), clS D I x A1 n c1 ∧ f1 0 = z.toInt64 ∧ gvT a1 cv c1 z) ∨ (k = 1 ∧ clS D I x A1 n cv ∧ tx_SpillForge_give_0 a1) ∨ (k = 2 ∧ clS D I x A1 n cv ∧ tx_SpillForge_give_1 a1 cv.2.1)) : ∃ c1, clS D I x A1 n c1 ∧ LK9 I c1 n m γ2 el1 F1 := by
  have L0 := LK_k hl.1 gT
  have I0 := IL_k hl.2.2.1 gI
  have O0 := OL_k hl.2.2.2.1 (congrArg Prod.snd gI.1)
  have S0 : SL cv m γ2 F1 := SL_k hl.2.2.2.2 gT.1 gI.1 gS
  obtain ⟨ft, -, -, l⟩ := id hl.1
  rcases hq with ⟨-, z, c1, q1, -, q2⟩ | ⟨-, q1, q2⟩ | ⟨-, q1, q2⟩
  · obtain ⟨a2, a3, a4, a5, a6⟩ := q2
    refine ⟨c1, q1, ?_⟩
    rcases l with ⟨-, e⟩ | ⟨f0, e, Q, l1, l2, l3, l4, B, nn, hB, hP⟩
    · exact absurd e a4
    obtain ⟨Z, z1, z2⟩ := a6 B nn Q hB hP l4 l3.1
    refine ⟨by rw [a5]; exact L0, ?_, by rw [a5]; exact I0, by rw [a5]; exact O0, by rw [a5]; exact S0⟩
    rcases gA f0 Q l1 ⟨B, nn, hB, hP⟩ with ⟨y1, -⟩ | ⟨y1, y2, y3, Z2, y4, y5⟩
    · omega
    obtain ⟨er, eZ⟩ := GVr_u z1 y4
    subst eZ
    rcases z2 with ⟨u1, u2, u3⟩ | ⟨u1, u2⟩
    · rcases y5 with ⟨w1, w2, w3⟩ | ⟨w1, w2⟩
      · have ok := GVr_okP (by omega) hB hP z1 u1
        exact Or.inr ⟨w2, by omega, fnP Z, ⟨w3 ok, fn_run a3 ok, zl_fn (by omega) a3 hB hP z1 u1, st_fn (by omega) hB hP z1 u1⟩, u3 ok.2.2.1 ok.2.2.2.1 (nm720 ok.2.1)⟩
      · omega
    · rcases y5 with ⟨w1, w2, w3⟩ | ⟨w1, w2⟩
      · omega
      · exact Or.inl ⟨w2, u2⟩
  · exact ⟨cv, q1, L0, GL_k hl.2.1 (gG (Or.inl (gvx_0 q2))), I0, O0, S0⟩
  · have y := gvx_1 q2
    have e9 : (fI (F m) 9).toInt = 0 := by
      rcases l with ⟨e, -⟩ | ⟨-, e, -⟩
      · exact e
      · omega
    exact ⟨cv, q1, L0, GL_k hl.2.1 (gG (Or.inr e9)), I0, O0, S0⟩
theorem rn_q (h : mdS D I m n P F γ el) (hT : RS D I P F1 γ el) (hl : LK9 I cv n m γ el F) (gT : kpT m γ el F γ el F1) (gG : kpG m γ el F γ el F1) (hs : rStr γ [97] F F1) (hM : rnM I γ el F m a1 a2 r F1)
    (hq : (k = 0 ∧ ∃ (z : Int32) (c1 : gCv), clS D I x A1 n c1 ∧ f1 0 = z.toInt64 ∧ rnT a1 a2 cv c1 z) ∨ (k = 1 ∧ clS D I x A1 n cv ∧ tx_SpillForge_run_0 a2) ∨ (k = 2 ∧ clS D I x A1 n cv ∧ tx_SpillForge_run_1 a1 a2 cv.2.1 (dnG cv))) : ∃ c1, clS D I x A1 n c1 ∧ LK9 I c1 n m γ el F1 ∧ fI (F1 m) 30 = k ∧ (k = 0 → f1 0 = r.toInt64) := by
  have z1 : Int32.toInt 1 = 1 := by decide
  have z2 : Int32.toInt 2 = 2 := by decide
  have z0 : Int32.toInt 0 = 0 := by decide
  obtain ⟨ft, t1, t2, l⟩ := id hl.1
  have pe : ((fI (F m) 9).toInt = 0 ∧ cv.2.1.toInt = 0) ∨ ((fI (F m) 9).toInt ≠ 0 ∧ cv.2.1.toInt ≠ 0) := l.imp id (fun q => ⟨q.1, by rw [q.2.1]; decide⟩)
  have ge : ((fI (F m) 10).toInt = 0 ∧ (dnG cv).toInt = 0) ∨ ((fI (F m) 10).toInt ≠ 0 ∧ (dnG cv).toInt ≠ 0) := hl.2.1.imp id (fun q => ⟨q.1, q.2.1⟩)
  have k35 := (md_k h.1 h.2.1).1
  have c35 : F1 (fR (F m) 35) = F (fR (F m) 35) := hs _ (by omega) (Or.inr (by omega)) (by rw [k35]; decide)
  have e35 := e35_t h hT
  have KQ : mO (F1 m) = mO (F m) ∧ F1 (γ 9 22) = F (γ 9 22) → LK9 I cv n m γ el F1 := fun hO => LK9_k hl ⟨gT, gG, kpI_t h hs (by decide) hO.1, hO.2, e35, c35⟩
  rcases hM with ⟨y1, y2, y3⟩ | ⟨y1, y2, y3, y4⟩ | ⟨y1, y2, y3⟩
  · rcases hq with ⟨q0, z, c1, q1, q2, q3⟩ | ⟨q0, q1, q2⟩ | ⟨q0, q1, q2⟩
    · have w1 := q3.1
      have w2 := q3.2.1
      omega
    · exact ⟨cv, q1, KQ y3, Int32.toInt_inj.mp (by rw [y2, q0]; exact z1.symm), fun e => absurd (q0.symm.trans e) (by decide)⟩
    · have w1 := rnx_1 q2
      omega
  · rcases hq with ⟨q0, z, c1, q1, q2, q3⟩ | ⟨q0, q1, q2⟩ | ⟨q0, q1, q2⟩
    · have w1 := q3.2.2.2.1
      omega
    · have w1 := rnx_0 q2
      omega
    · exact ⟨cv, q1, KQ y4, Int32.toInt_inj.mp (by rw [y3, q0]; exact z2.symm), fun e => absurd (q0.symm.trans e) (by decide)⟩
  · rcases hq with ⟨q0, z, c1, q1, q2, q3⟩ | ⟨q0, q1, q2⟩ | ⟨q0, q1, q2⟩
    · obtain ⟨b1, b2, b3, b4, b5⟩ := q3
      obtain ⟨Q, hP, hC, hR⟩ : ∃ Q, rnP Q ∧ ((a1.toInt = 0 ∧ cv.2.1.toInt ≠ 0 ∧ cdC cv Q) ∨ (a1.toInt ≠ 0 ∧ (dnG cv).toInt ≠ 0 ∧ cdG cv Q)) ∧ ((a1.toInt = 0 ∧ rfX γ el F (γ 9 6) Q ∧ γ 6 0 = Q.1) ∨ (a1.toInt ≠ 0 ∧ rfX γ el F (γ 9 7) Q ∧ γ 6 1 = Q.1)) := by
        obtain ⟨s1, s2, s3, s4, s5, -⟩ := id h
        rcases y2 with ⟨e1, e2⟩ | ⟨e1, e2⟩
        · rcases l with ⟨f0, -⟩ | ⟨f0, p0, Q, l1, l2, l3, l4, B, nn, hB, hP⟩
          · exact absurd f0 e2
          · obtain ⟨c9, cf, -⟩ := md_6 s1 s2
            obtain ⟨e6, -⟩ := rf_6 s1 c9 cf (s4.resolve_left f0).1 l1.1.1
            exact ⟨Q, rnP_P hB hP, Or.inl ⟨e1, by rw [p0]; decide, l4⟩, Or.inl ⟨e1, rfX_W.mpr (rfP_w (okP_f hB hP).2.2.2.2.2 l1.1), e6⟩⟩
        · rcases hl.2.1 with ⟨f0, -⟩ | ⟨f0, d0, Q, g1, g2⟩
          · exact absurd f0 e2
          · obtain ⟨⟨-, c7⟩, -, f7⟩ := md_c9 s1 s2
            obtain ⟨e6, -⟩ := rf_6 s1 c7 f7 (s5.resolve_left f0) g1.1.1
            exact ⟨Q, g1.2.1, Or.inr ⟨e1, d0, g2⟩, Or.inr ⟨e1, rfX_W.mpr g1.1, e6⟩⟩
      obtain ⟨gn, i1, i2⟩ := hl.2.2.1
      obtain ⟨⟨v1, v34⟩, r1, v2, v3, v4, v5, v6, v7⟩ := y3 Q (inG cv) gn hP hR i2
      obtain ⟨r2, u1, u2, u3, u4, u5, u6⟩ := b5 Q (inG cv) gn hP hC i1 (fun i _ => rfl)
      have er : r1 = r2 := v2.trans u1.symm
      subst er
      have g1 : inN c1 = inN cv := (show inN c1 = inN (upO cv c1) from congrArg inN b3)
      have gz : lsZ c1 = lsZ cv := (show lsZ c1 = lsZ (upO cv c1) from congrArg lsZ b3)
      have gy : lsY c1 = lsY cv := (show lsY c1 = lsY (upO cv c1) from congrArg lsY b3)
      have g2 : inG c1 = inG cv := (show inG c1 = inG (upO cv c1) from congrArg inG b3)
      refine ⟨c1, q1, ⟨?_, ?_, ⟨gn, by rw [g1]; exact i1, by rw [g2]; exact v7.2.2.1⟩, ⟨by rw [v4, u3, v3], u4.trans v5.1.symm, u6.1.trans v7.2.2.2.2.2.1.symm, u5.trans v6.symm, u6.2.1.trans v7.2.2.2.2.2.2.1.symm, fun y => u4.trans (v5.2 (by rw [v4, v3] at y; exact y))⟩, ⟨fun i hi => ?_, ?_, fun i hi => ?_⟩⟩, Int32.toInt_inj.mp (by rw [v1, q0]; exact z0.symm), fun _ => ?_⟩
      · rw [b3]; exact LK_k hl.1 gT
      · rw [b3]; exact GL_k hl.2.1 gG
      · have w := v7.2.2.2.2.2.1
        exact (u6.2.2 i (by omega)).trans (v7.2.2.2.2.2.2.2.1 i (by omega)).symm
      · rw [gz, v34]; exact hl.2.2.2.2.2.1
      · rw [gz] at hi
        rw [gy, e35, c35]; exact hl.2.2.2.2.2.2 i hi
      · rw [q2]
        exact congrArg Int32.toInt64 (Int32.toInt_inj.mp (u2.trans v3.symm))
    · have w1 := rnx_0 q2
      omega
    · have w1 := rnx_1 q2
      omega
/-- told -/
theorem td_q {z : Int32} (hO : OL cv m F) (hM : tdM F m a1 z F1) (hq : (k = 0 ∧ ∃ z : Int32, f1 0 = z.toInt64 ∧ tr_SpillForge_told a1 (rnA cv) (rnS cv) (rnN cv) (rnK cv) (rnE cv) z) ∨ (k = 1 ∧ tx_SpillForge_told_0 a1)) : fI (F1 m) 30 = k ∧ (k = 0 → f1 0 = z.toInt64) := by
  have z1 : Int32.toInt 1 = 1 := by decide
  have z0 : Int32.toInt 0 = 0 := by decide
  obtain ⟨o1, o2, o3, o4, o5, o6⟩ := hO
  rcases hM with ⟨y1, y2⟩ | ⟨y1, y2⟩
  · rcases hq with ⟨q0, z2, q1, q2⟩ | ⟨q0, q1⟩
    · rcases tdc_x q2 with ⟨e, -⟩ | ⟨e, -⟩ | ⟨e, -⟩ | ⟨e, -⟩ | ⟨e, -⟩ <;> omega
    · exact ⟨Int32.toInt_inj.mp (by rw [y2, q0]; exact z1.symm), fun e => absurd (q0.symm.trans e) (by decide)⟩
  · rcases hq with ⟨q0, z2, q1, q2⟩ | ⟨q0, q1⟩
    · refine ⟨Int32.toInt_inj.mp (by rw [y1, q0]; exact z0.symm), fun _ => ?_⟩
      rw [q1]
      refine congrArg Int32.toInt64 (Int32.toInt_inj.mp ?_)
      rcases tdc_x q2 with ⟨e, ez⟩ | ⟨e, ez⟩ | ⟨e, ez⟩ | ⟨e, ez⟩ | ⟨e, ez⟩
      · rcases y2 with ⟨g, w⟩ | ⟨g, -⟩ | ⟨g, -⟩ | ⟨g, -⟩ | ⟨g, -⟩
        · rcases w with ⟨w1, w2⟩ | ⟨w1, w2⟩
          · rw [ez, w2, o6 w1]
          · rw [ez, w2, o2]
        all_goals omega
      · rcases y2 with ⟨g, -⟩ | ⟨g, w⟩ | ⟨g, -⟩ | ⟨g, -⟩ | ⟨g, -⟩
        · omega
        · rw [ez, w]; exact o3
        all_goals omega
      · rcases y2 with ⟨g, -⟩ | ⟨g, -⟩ | ⟨g, w⟩ | ⟨g, -⟩ | ⟨g, -⟩
        · omega
        · omega
        · rw [ez, w]; exact o4
        all_goals omega
      · rcases y2 with ⟨g, -⟩ | ⟨g, -⟩ | ⟨g, -⟩ | ⟨g, w⟩ | ⟨g, -⟩
        · omega
        · omega
        · omega
        · rw [ez, w]; exact o5
        · omega
      · rcases y2 with ⟨g, -⟩ | ⟨g, -⟩ | ⟨g, -⟩ | ⟨g, -⟩ | ⟨g, w⟩
        · omega
        · omega
        · omega
        · omega
        · rw [ez, w]; exact o1
    · have w1 := tdx_0 q1
      omega
/-- shown -/
theorem sh_q {z : Int32} (hO : OL cv m F) (hS : SL cv m γ F) (h512 : (fI (F m) 25).toInt ≤ 512) (hM : shM γ F m a1 z F1) (hq : (k = 0 ∧ ∃ z : Int32, f1 0 = z.toInt64 ∧ tr_SpillForge_shown a1 (rnS cv) (rnW cv) z) ∨ (k = 1 ∧ tx_SpillForge_shown_0 a1 (rnS cv))) : fI (F1 m) 30 = k ∧ (k = 0 → f1 0 = z.toInt64) := by
  have z1 : Int32.toInt 1 = 1 := by decide
  have z0 : Int32.toInt 0 = 0 := by decide
  have o3 := hO.2.2.1
  rcases hM with ⟨y1, y2⟩ | ⟨y1, y2, y3⟩
  · rcases hq with ⟨q0, z2, q1, q2⟩ | ⟨q0, q1⟩
    · have w := (shc_x q2).1
      omega
    · exact ⟨Int32.toInt_inj.mp (by rw [y2, q0]; exact z1.symm), fun e => absurd (q0.symm.trans e) (by decide)⟩
  · rcases hq with ⟨q0, z2, q1, q2⟩ | ⟨q0, q1⟩
    · refine ⟨Int32.toInt_inj.mp (by rw [y2, q0]; exact z0.symm), fun _ => ?_⟩
      rw [q1]
      refine congrArg Int32.toInt64 ?_
      rw [y3, (shc_x q2).2 (by omega)]
      exact hS.1 _ (by omega)
    · have w := shx_0 q1
      omega
/-- word -/
theorem wd_q {z : Int64} (hS : SL cv m γ F) (hM : wdM F m a1 z F1) (hq : (k = 0 ∧ ∃ z : Int64, f1 0 = z ∧ tr_SpillForge_word a1 (lsZ cv) (lsY cv) z) ∨ (k = 1 ∧ tx_SpillForge_word_0 a1 (lsZ cv))) : fI (F1 m) 30 = k ∧ (k = 0 → f1 0 = z) := by
  have z1 : Int32.toInt 1 = 1 := by decide
  have z0 : Int32.toInt 0 = 0 := by decide
  obtain ⟨-, ⟨s0, s1, s2⟩, s3⟩ := hS
  rcases hM with ⟨y1, y2⟩ | ⟨y1, y2, y3⟩
  · rcases hq with ⟨q0, z2, q1, q2⟩ | ⟨q0, q1⟩
    · have w := (wdc_x q2).1
      omega
    · exact ⟨Int32.toInt_inj.mp (by rw [y2, q0]; exact z1.symm), fun e => absurd (q0.symm.trans e) (by decide)⟩
  · rcases hq with ⟨q0, z2, q1, q2⟩ | ⟨q0, q1⟩
    · refine ⟨Int32.toInt_inj.mp (by rw [y2, q0]; exact z0.symm), fun _ => ?_⟩
      rw [q1, y3]
      rw [e8_tr (i := a1.toInt.toNat) (n := (fI (F m) 34).toInt.toNat) (by omega) (by omega) (by omega) (by omega) (wdc_x q2).2]
      exact w8_c (fun j hj => s3 j (by omega)) 8
    · have w := wdx_0 q1
      omega
/-- list -/
theorem ls_q {z : Int32} (h : mdS D I m n P F γ el) (hl : LK9 I cv n m γ el F) (gT : kpT m γ el F γ2 el F1) (gG : kpG m γ el F γ2 el F1) (gO : ((mO (F1 m)).1.1, (mO (F1 m)).2) = ((mO (F m)).1.1, (mO (F m)).2)) (g28 : F1 (fR (F m) 28) = F (fR (F m) 28)) (g22 : F1 (γ 9 22) = F (γ 9 22)) (hM : lsM γ el F m a1 z F1)
    (hq : (k = 0 ∧ ∃ (z : Int32) (c1 : gCv), clS D I x A1 n c1 ∧ f1 0 = z.toInt64 ∧ lsT a1 cv c1 z) ∨ (k = 1 ∧ clS D I x A1 n cv ∧ tx_SpillForge_list_0 a1 cv.2.1 (dnG cv))) : ∃ c1, clS D I x A1 n c1 ∧ LK9 I c1 n m γ2 el F1 ∧ fI (F1 m) 30 = k ∧ (k = 0 → f1 0 = z.toInt64) := by
  have z1 : Int32.toInt 1 = 1 := by decide
  have z0 : Int32.toInt 0 = 0 := by decide
  have a0 : a1 = 0 ↔ a1.toInt = 0 := ⟨fun e => by rw [e]; exact z0, fun e => Int32.toInt_inj.mp (by rw [e]; exact z0.symm)⟩
  have O1 : (mO (F1 m)).1.1 = (mO (F m)).1.1 := (Prod.mk.inj gO).1
  have O2 : (mO (F1 m)).2 = (mO (F m)).2 := (Prod.mk.inj gO).2
  obtain ⟨ft, t1, t2, l⟩ := id hl.1
  have pe : ((fI (F m) 9).toInt = 0 ∧ cv.2.1.toInt = 0) ∨ ((fI (F m) 9).toInt ≠ 0 ∧ cv.2.1.toInt ≠ 0) := l.imp id (fun q => ⟨q.1, by rw [q.2.1]; decide⟩)
  have ge : ((fI (F m) 10).toInt = 0 ∧ (dnG cv).toInt = 0) ∨ ((fI (F m) 10).toInt ≠ 0 ∧ (dnG cv).toInt ≠ 0) := hl.2.1.imp id (fun q => ⟨q.1, q.2.1⟩)
  rcases hM with ⟨y0, y1, ⟨y2, y3⟩, y4⟩ | ⟨y1, F', cc, f, yF, yc, yx, y34, yl⟩
  · rw [a0] at y0
    have eO : mO (F1 m) = mO (F m) := Prod.ext (Prod.ext O1 y3) O2
    rcases hq with ⟨q0, z2, c1, q1, q2, q3⟩ | ⟨q0, q1, q2⟩
    · have w := q3.2.1
      omega
    · exact ⟨cv, q1, LK9_k hl ⟨gT, gG, ⟨eO, g28⟩, g22, y2, y4⟩, Int32.toInt_inj.mp (by rw [y1, q0]; exact z1.symm), fun e => absurd (q0.symm.trans e) (by decide)⟩
  · rw [a0] at yc
    rcases hq with ⟨q0, z2, c1, q1, q2, q3⟩ | ⟨q0, q1, q2⟩
    · obtain ⟨b1, b2, b3, b4⟩ := q3
      obtain ⟨s1, s2, s3, s4, s5, -⟩ := id h
      have st : rStr γ [] F F' := fun b _ y _ => yF b (fun e => by rw [e, s2] at y; omega)
      obtain ⟨Q, hP, hC, hL, hS, hR, h6⟩ : ∃ Q, rnP Q ∧ ((a1.toInt = 0 ∧ cv.2.1.toInt ≠ 0 ∧ cdC cv Q) ∨ (a1.toInt ≠ 0 ∧ (dnG cv).toInt ≠ 0 ∧ cdG cv Q)) ∧ (zlB Q Q.1).length ≤ 16384 ∧ stQ Q ∧ rfX γ el F' cc Q ∧ γ 6 f = Q.1 := by
        rcases yc with ⟨e1, e2, ec, ef⟩ | ⟨e1, e2, ec, ef⟩
        · rcases l with ⟨f0, -⟩ | ⟨f0, p0, Q, l1, l2, l3, l4, B, nn, hB, hP⟩
          · exact absurd f0 e2
          · obtain ⟨c9, cf, -⟩ := md_6 s1 s2
            obtain ⟨e6, -⟩ := rf_6 s1 c9 cf (s4.resolve_left f0).1 l1.1.1
            rw [ec, ef]
            exact ⟨Q, rnP_P hB hP, Or.inl ⟨e1, by rw [p0]; decide, l4⟩, zl_rd hB hP, st_rd (okP_f hB hP).2.2.2.2.2, rfX_rs s1 c9 cf e6 (rfX_W.mpr (rfP_w (okP_f hB hP).2.2.2.2.2 l1.1)) st ⟨List.not_mem_nil, List.not_mem_nil, List.not_mem_nil⟩, e6⟩
        · rcases hl.2.1 with ⟨f0, -⟩ | ⟨f0, d0, Q, g1, g2⟩
          · exact absurd f0 e2
          · obtain ⟨⟨-, c7⟩, -, f7⟩ := md_c9 s1 s2
            obtain ⟨e6, -⟩ := rf_6 s1 c7 f7 (s5.resolve_left f0) g1.1.1
            rw [ec, ef]
            exact ⟨Q, g1.2.1, Or.inr ⟨e1, d0, g2⟩, g1.2.2.1, g1.2.2.2, rfX_rs s1 c7 f7 e6 (rfX_W.mpr g1.1) st ⟨List.not_mem_nil, List.not_mem_nil, List.not_mem_nil⟩, e6⟩
      rw [h6, zrP_B hR hP hS Q.1 (Nat.le_refl _)] at yx yl
      obtain ⟨u1, u2⟩ := b4 Q hP hC hL
      have ez : z2 = z := Int32.toInt_inj.mp (by rw [b3]; omega)
      have gw : rnW c1 = rnW cv := (show rnW c1 = rnW (upL cv c1) from congrArg rnW b1)
      have e25 : fI (F1 m) 25 = fI (F m) 25 := congrArg (fun z => z.2.2.1) O2
      refine ⟨c1, q1, ⟨?_, ?_, ?_, ?_, ⟨?_, ⟨by omega, by omega, by rw [y34]; omega⟩, fun i hi => (u2 i (by omega)).trans (yl i (by omega)).symm⟩⟩, Int32.toInt_inj.mp (by rw [y1, q0]; exact z0.symm), fun _ => by rw [q2, ez]⟩
      · rw [b1]; exact LK_k hl.1 gT
      · rw [b1]; exact GL_k hl.2.1 gG
      · rw [b1]
        obtain ⟨gn, h1, p, h2, h3⟩ := hl.2.2.1
        refine ⟨gn, h1, p, ?_, h3⟩
        rw [show fR (F1 m) 28 = fR (F m) 28 from O1, g28]
        exact h2
      · rw [b1]; exact OL_k hl.2.2.2.1 O2
      · rw [gw, gT.1, e25, g22]; exact hl.2.2.2.2.1
    · have w := lsx_0 q2
      omega
end RQ9
