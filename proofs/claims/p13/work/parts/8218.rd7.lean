/-! a program that is read: what is known of its blocks -/
abbrev blkK : List Nat := [101, 102, 103, 202]
abbrev blkF : List Nat := [3, 4, 5, 6, 7, 8, 9, 101, 102, 103, 202]
theorem blkKF : ∀ j, j ∈ blkK → j ∈ blkF := by decide
/-- a rule is broken iff the machine says so -/
def bkE (rp : Int32) (bk : Bool) : Prop := 0 ≤ rp.toInt ↔ bk = true
/-- the first m rows of a list, the lines of a program -/
def rfR (γ el : Nat → Nat → Nat) (F : Nat → va_E) (l : Nat) (L : Nat → Nat → Int) (m : Nat) : Prop := γ 2 l = m ∧ ∀ k, k < m → rwE (L k) (fI (F (el l k)) 0) (fI (F (el l k)) 1) (fI (F (el l k)) 2) (fI (F (el l k)) 3) (fI (F (el l k)) 5) (fI (F (el l k)) 6)
def rfB (γ el : Nat → Nat → Nat) (F : Nat → va_E) (B n : Nat) (L : Nat → Nat → Int) (g : Nat → Int) : Prop := 0 < n ∧ rfR γ el F (γ 14 B) L (n - 1) ∧ edE (L (n - 1)) g (fI (F (γ 15 B)) 0) (fI (F (γ 15 B)) 2) (fI (F (γ 15 B)) 5) (fI (F B) 2) (fI (F B) 3)
def rfI (γ el : Nat → Nat → Nat) (F : Nat → va_E) (c j : Nat) (Q : gPg) : Prop := Q.1 = j ∧ ∀ b, b < j → rfB γ el F (el (γ 14 c) b) (Q.2.1 b) (Q.2.2.1 b) (Q.2.2.2 b)
def rfL (γ el : Nat → Nat → Nat) (F : Nat → va_E) (c j bb : Nat) (Q : gPg) : Prop := Q.1 = j + 1 ∧ (∀ b, b < j → rfB γ el F (el (γ 14 c) b) (Q.2.1 b) (Q.2.2.1 b) (Q.2.2.2 b)) ∧ rfR γ el F (γ 14 bb) (Q.2.2.1 j) (Q.2.1 j) ∧ Q.2.2.2 j 0 = -1 ∧ Q.2.2.2 j 1 = -1
def mcL (B : Int → Int) (n : Int) (i : Nat) (a k v : Int32) (xt : gTx) (rw : Int) (bk : Bool) (Q : gPg) (gn : Int32) (fg : Nat → Int32) (rp : Int32) : Prop := rdT B n i a k v xt ∧ mLn B n i rw bk Q ∧ gsR gn fg Q ∧ bkE rp bk
def mcI (B : Int → Int) (n : Int) (i : Nat) (a k v : Int32) (xt : gTx) (du rw : Int) (bk : Bool) (Q : gPg) (gn : Int32) (fg : Nat → Int32) (rp : Int32) : Prop := rdT B n i a k v xt ∧ (∃ st lf ln op, mrn B n i = some (du, st, lf, ln, op, rw, bk, Q)) ∧ gsR gn fg Q ∧ bkE rp bk
section RFB
variable {D : va_G} {I : FieldType → ClassId} {P P1 W : List Nat} {F F1 : Nat → va_E} {γ γ1 el el1 : Nat → Nat → Nat} {B n l c j bb m f x : Nat} {L : Nat → Nat → Int} {g : Nat → Int} {Q : gPg} {K KF : List Nat}
theorem rfR_c (hT : RS D I P F γ el) (hl : γ 0 l = 3) (h : rfR γ el F l L m) (hF : ∀ x, γ 0 x = 1 ∨ γ 0 x = 2 → F1 x = F x) (e2 : γ1 2 l = γ 2 l ∧ el1 l = el l) : rfR γ1 el1 F1 l L m := by
  have k3 := (show rk_3 D I γ el F l from RS_o hT hl).2
  obtain ⟨h1, h2⟩ := h
  refine ⟨e2.1.trans h1, fun k hk => ?_⟩
  rw [e2.2, hF _ (Or.inl (k3 k (by omega)).1)]
  exact h2 k hk
theorem rfB_c (hT : RS D I P F γ el) (hB : γ 0 B = 2) (h : rfB γ el F B n L g) (hF : ∀ x, γ 0 x = 1 ∨ γ 0 x = 2 → F1 x = F x) (e14 : γ1 14 B = γ 14 B) (e15 : γ1 15 B = γ 15 B) (e2 : γ1 2 (γ 14 B) = γ 2 (γ 14 B) ∧ el1 (γ 14 B) = el (γ 14 B)) : rfB γ1 el1 F1 B n L g := by
  obtain ⟨l, nn, p, s, v1, ⟨g1, g2, g3⟩, v3, v4, v5, -⟩ := show rk_2 γ B (F B) from RS_o hT hB
  obtain ⟨h0, h1, h3⟩ := h
  refine ⟨h0, ?_, ?_⟩
  · rw [e14]
    exact rfR_c hT (by rw [g1]; exact v3) h1 hF e2
  · rw [e15, hF _ (Or.inl (by rw [g2]; exact v5)), hF B (Or.inr hB)]
    exact h3
theorem hF_ow (hT : RS D I P F γ el) (hfr : rFr W P F F1) (hW : ∀ w, w ∈ W → γ 0 w ≠ 1 ∧ γ 0 w ≠ 2) : ∀ x, γ 0 x = 1 ∨ γ 0 x = 2 → F1 x = F x := fun x hx => hfr x (hT.1 x (by omega)) (fun z => by have := hW x z; omega)
theorem hF_sk (sk : rSk f K KF D I P F γ el P1 F1 γ1 el1) (hK : 1 ∉ KF ∧ 2 ∉ KF) : ∀ x, γ 0 x = 1 ∨ γ 0 x = 2 → F1 x = F x := fun x hx => by
  rcases hx with hx | hx
  · exact rSk_F sk (show rKd γ x 1 from hx) (by decide) hK.1
  · exact rSk_F sk (show rKd γ x 2 from hx) (by decide) hK.2
theorem rfI_ow (hT : RS D I P F γ el) (h : rfI γ el F c j Q) (hB2 : ∀ i, i < j → γ 0 (el (γ 14 c) i) = 2) (hfr : rFr W P F F1) (hW : ∀ w, w ∈ W → γ 0 w ≠ 1 ∧ γ 0 w ≠ 2) : rfI γ el F1 c j Q :=
  ⟨h.1, fun b hb => rfB_c hT (hB2 b hb) (h.2 b hb) (hF_ow hT hfr hW) rfl rfl ⟨rfl, rfl⟩⟩
theorem rfL_ow (hT : RS D I P F γ el) (h : rfL γ el F c j bb Q) (hB2 : ∀ i, i < j → γ 0 (el (γ 14 c) i) = 2) (b0 : γ 0 bb = 202) (hfr : rFr W P F F1) (hW : ∀ w, w ∈ W → γ 0 w ≠ 1 ∧ γ 0 w ≠ 2) : rfL γ el F1 c j bb Q := by
  obtain ⟨l, nn, p, s, v1, ⟨g1, g2, g3⟩, v3, -⟩ := show rk_202 γ bb (F bb) from RS_o hT b0
  exact ⟨h.1, fun b hb => rfB_c hT (hB2 b hb) (h.2.1 b hb) (hF_ow hT hfr hW) rfl rfl ⟨rfl, rfl⟩, rfR_c hT (by rw [g1]; exact v3) h.2.2.1 (hF_ow hT hfr hW) ⟨rfl, rfl⟩, h.2.2.2⟩
theorem rfB_l (hT : RS D I P F γ el) (hB : γ 0 B = 2) : γ 0 (γ 14 B) = 3 ∧ γ 20 (γ 14 B) = B := by
  obtain ⟨l, nn, p, s, v1, ⟨g1, g2, g3⟩, v3, -⟩ := show rk_2 γ B (F B) from RS_o hT hB
  exact ⟨by rw [g1]; exact v3, by rw [g1]; exact g3⟩
theorem rfL_l (hT : RS D I P F γ el) (b0 : γ 0 bb = 202) : γ 0 (γ 14 bb) = 3 ∧ γ 20 (γ 14 bb) = bb := by
  obtain ⟨l, nn, p, s, v1, ⟨g1, g2, g3⟩, v3, -⟩ := show rk_202 γ bb (F bb) from RS_o hT b0
  exact ⟨by rw [g1]; exact v3, by rw [g1]; exact g3⟩
/-- a step that leaves the lists of blocks -/
theorem rfL_st (hT : RS D I P F γ el) (h : rfL γ el F c j bb Q) (c0 : γ 0 c = 9) (hB2 : ∀ i, i < j → γ 0 (el (γ 14 c) i) = 2) (b0 : γ 0 bb = 202) (sk : rSk f K KF D I P F γ el P1 F1 γ1 el1) (hK : 1 ∉ KF ∧ 2 ∉ KF) (hc : el1 (γ 14 c) = el (γ 14 c)) (hl : ∀ a, γ 0 a = 3 → γ1 2 a = γ 2 a ∧ el1 a = el a) : rfL γ1 el1 F1 c j bb Q := by
  have e14 : γ1 14 c = γ 14 c := (rSk_s sk (show rKd γ c 9 from c0) (by decide)).2.1
  refine ⟨h.1, fun b hb => ?_, ?_, h.2.2.2⟩
  · rw [e14, hc]
    have hB := hB2 b hb
    obtain ⟨-, s14, s15, -⟩ := rSk_s sk (show rKd γ _ 2 from hB) (by decide)
    exact rfB_c hT hB (h.2.1 b hb) (hF_sk sk hK) s14 s15 (hl _ (rfB_l hT hB).1)
  · obtain ⟨-, s14, s15, -⟩ := rSk_s sk (show rKd γ bb 202 from b0) (by decide)
    rw [s14]
    exact rfR_c hT (rfL_l hT b0).1 h.2.2.1 (hF_sk sk hK) (hl _ (rfL_l hT b0).1)
/-- a row more -/
theorem rfL_add {ll : Nat → Int} (hT : RS D I P F γ el) (h : rfL γ el F c j bb Q) (c0 : γ 0 c = 9) (hB2 : ∀ i, i < j → γ 0 (el (γ 14 c) i) = 2) (b0 : γ 0 bb = 202) (sk : rSk f K KF D I P F γ el P1 F1 γ1 el1) (hK : 1 ∉ KF ∧ 2 ∉ KF) (hc : el1 (γ 14 c) = el (γ 14 c)) (h2 : γ1 2 (γ 14 bb) = γ 2 (γ 14 bb) + 1) (hel : ∀ i, el1 (γ 14 bb) i = if i < γ 2 (γ 14 bb) then el (γ 14 bb) i else if i = γ 2 (γ 14 bb) then x else el (γ 14 bb) (i - 1)) (hl : ∀ a, γ 0 a ≠ 0 → a ≠ γ 14 bb → γ1 2 a = γ 2 a ∧ el1 a = el a) (hx : F1 x = F x) (hr : rwE ll (fI (F x) 0) (fI (F x) 1) (fI (F x) 2) (fI (F x) 3) (fI (F x) 5) (fI (F x) 6)) : rfL γ1 el1 F1 c j bb (pgL Q ll) := by
  have e14 : γ1 14 c = γ 14 c := (rSk_s sk (show rKd γ c 9 from c0) (by decide)).2.1
  obtain ⟨h1, hb, ⟨r1, r2⟩, g0, g1⟩ := h
  obtain ⟨l3, l20⟩ := rfL_l hT b0
  have k3 := (show rk_3 D I γ el F (γ 14 bb) from RS_o hT l3).2
  obtain ⟨p1, p2, p3, p4⟩ := pgL_l (P := Q) (l := ll) (b := j) h1.symm
  refine ⟨h1, fun b hb' => ?_, ?_, ?_, ?_⟩
  · obtain ⟨o1, o2, o3⟩ := pgL_o (P := Q) (l := ll) (b := b) (by omega)
    have hB := hB2 b hb'
    obtain ⟨-, s14, s15, -⟩ := rSk_s sk (show rKd γ _ 2 from hB) (by decide)
    obtain ⟨q1, q2⟩ := rfB_l hT hB
    rw [e14, hc, o1, o2, o3]
    refine rfB_c hT hB (hb b hb') (hF_sk sk hK) s14 s15 (hl _ (by omega) (fun e => ?_))
    rw [e, l20] at q2
    rw [← q2, b0] at hB
    cases hB
  · obtain ⟨-, s14, s15, -⟩ := rSk_s sk (show rKd γ bb 202 from b0) (by decide)
    rw [s14, p1]
    refine ⟨by omega, fun k hk => ?_⟩
    rw [hel k]
    by_cases q : k < Q.2.1 j
    · rw [if_pos (by omega), p2 k q, hF_sk sk hK _ (Or.inl (k3 k (by omega)).1)]
      exact r2 k q
    · have e : k = Q.2.1 j := by omega
      rw [if_neg (by omega), if_pos (by omega), e, p3, hx]
      exact hr
  · rw [p4]; exact g0
  · rw [p4]; exact g1
/-- a block begun -/
theorem rfL_bl {dc ds : Nat} (hT : RS D I P F γ el) (h : rfI γ el F c j Q) (c0 : γ 0 c = 9) (hmd : (fI (F c) 3).toInt = (j : Int)) (hB2 : ∀ i, i < j → γ 0 (el (γ 14 c) i) = 2) (hq : rBq D I P F γ el f c P1 F1 γ1 el1 bb dc ds) : rfL γ1 el1 F1 c j bb (pgB Q) := by
  obtain ⟨st, b0, b1, ⟨j', m1, m2, m3, m4, m5, m6⟩, n0, g16, g18, hnu, hl, h45, -⟩ := hq
  have ej : j' = j := by omega
  subst ej
  have sk := rSk_of st
  have e14 : γ1 14 c = γ 14 c := (rSk_s sk (show rKd γ c 9 from c0) (by decide)).2.1
  obtain ⟨h1, hb⟩ := h
  refine ⟨by show Q.1 + 1 = j' + 1; omega, fun b hb' => ?_, ⟨?_, fun k hk => ?_⟩, ?_, ?_⟩
  · obtain ⟨o1, o2, o3⟩ := pgB_o (P := Q) (b := b) (by omega)
    have hB := hB2 b hb'
    obtain ⟨-, s14, s15, -⟩ := rSk_s sk (show rKd γ _ 2 from hB) (by decide)
    rw [e14, m6 b hb', o1, o2, o3]
    exact rfB_c hT hB (hb b hb') (hF_sk sk (by decide)) s14 s15 (hl _ (rfB_l hT hB).1)
  · rw [n0]
    show 0 = if j' = Q.1 then 0 else Q.2.1 j'
    rw [if_pos h1.symm]
  · exfalso
    have : (pgB Q).2.1 j' = 0 := if_pos h1.symm
    omega
  · exact if_pos h1.symm
  · exact if_pos h1.symm
/-- a block read to its end -/
theorem rfI_end {nb lb R gg gp : Nat} {ll : Nat → Int} {Q1 : gPg} {fi se : Int32} (hT : RS D I P F γ el) (h : rfL γ el F c j bb Q) (hB2 : ∀ i, i < j → γ 0 (el (γ 14 c) i) = 2) (b0 : γ 0 bb = 202) (bj : el (γ 14 c) j = bb) (nb0 : γ 0 nb = 101) (hR : γ 0 R = 0 ∧ γ 0 gg = 0 ∧ γ 0 gp = 0) (hfr : rFr [bb, nb, R, gg, gp] P F F1) (hT1 : RS D I P1 F1 γ el) (hFb : F1 bb = .inr (17, [.ref lb, .ref nb, .int fi, .int se]))
    (q1 : Q1.1 = Q.1) (q2 : Q1.2.1 = (pgL Q ll).2.1) (q3 : Q1.2.2.1 = (pgL Q ll).2.2.1) (q4 : ∀ b, b + 1 ≠ Q.1 → Q1.2.2.2 b = Q.2.2.2 b) (q5 : ∀ b, b + 1 = Q.1 → edE ll (Q1.2.2.2 b) (fI (F1 nb) 0) (fI (F1 nb) 2) (fI (F1 nb) 5) fi se) : rfI (gSea γ bb nb) el F1 c (j + 1) Q1 := by
  obtain ⟨h1, hb, hr, g0, g1⟩ := h
  have hFF : ∀ x, γ 0 x = 1 ∨ γ 0 x = 2 → F1 x = F x := hF_ow hT hfr (wm_c (by rw [b0]; decide) (wm_c (by rw [nb0]; decide) (wm_c (by rw [hR.1]; decide) (wm_c (by rw [hR.2.1]; decide) (wm_c (by rw [hR.2.2]; decide) wm_n)))))
  obtain ⟨l, nn, p, s, v1, ⟨u1, u2, u3⟩, v3, -⟩ := show rk_202 γ bb (F1 bb) from RS_o hT1 b0
  have enb : γ 15 bb = nb := by
    rw [hFb] at v1
    injection v1 with v1
    injection v1 with v0 v1
    injection v1 with v1 v2
    injection v2 with v2 v4
    injection v2 with v2
    rw [u2, ← v2]
  obtain ⟨p1, p2, p3, p4⟩ := pgL_l (P := Q) (l := ll) (b := j) h1.symm
  refine ⟨q1.trans h1, fun b hb' => ?_⟩
  rw [q2, q3]
  by_cases e : b = j
  · subst e
    show rfB (gSea γ bb nb) el F1 (el (γ 14 c) b) _ _ _
    rw [bj, p1]
    refine ⟨Nat.succ_pos _, ?_, ?_⟩
    · show rfR (gSea γ bb nb) el F1 (γ 14 bb) _ _
      have hr1 := rfR_c (γ1 := gSea γ bb nb) (el1 := el) hT (rfL_l hT b0).1 hr hFF ⟨rfl, rfl⟩
      refine ⟨hr1.1, fun k hk => ?_⟩
      rw [p2 k (by omega)]
      exact hr1.2 k (by omega)
    · show edE _ _ (fI (F1 (γ 15 bb)) 0) (fI (F1 (γ 15 bb)) 2) (fI (F1 (γ 15 bb)) 5) _ _
      have z := q5 b h1.symm
      rw [enb, hFb, show Q.2.1 b + 1 - 1 = Q.2.1 b from rfl, p3]
      exact z
  · obtain ⟨o1, o2, o3⟩ := pgL_o (P := Q) (l := ll) (b := b) (by omega)
    have hB := hB2 b (by omega)
    show rfB (gSea γ bb nb) el F1 (el (γ 14 c) b) _ _ _
    rw [o1, o2, q4 b (by omega)]
    exact rfB_c (γ1 := gSea γ bb nb) (el1 := el) hT hB (hb b (by omega)) hFF rfl rfl ⟨rfl, rfl⟩
end RFB
section MCL
variable {ft : Nat → Int32} {n a k v gn rp rp1 a1 k1 pl1 v1 : Int32} {i : Nat} {xt xt1 : gTx} {du rw : Int} {bk : Bool} {Q : gPg} {fg : Nat → Int32}
theorem mc_x3 (h : mcI (bA ft n.toInt) n.toInt i a k v xt du rw bk Q gn fg rp) (hdu : du ≤ 1) (hdE : (tk (bA ft n.toInt) n.toInt i).1 = 1 → du ≠ 1) (hx : tx_RReader_want2 3 k) : rjt (bA ft n.toInt) n.toInt := by
  obtain ⟨h1, ⟨st, lf, ln, op, h2⟩, -⟩ := h
  have hk := w2_0 hx
  rw [show Int32.toInt 3 = 3 from by decide] at hk
  have k3 := h1.1.2.2.1
  refine ⟨i, _, h2, ?_, hdE⟩
  rw [mrn_e h2]
  unfold mst
  simp only []
  rw [if_pos hdu, if_neg (fun z => hk (k3.mpr z))]
theorem mc_w3 (hF : ∀ k, gB (ft k) (-128) 127) (hn : 0 ≤ n.toInt) (hn2 : n.toInt ≤ 8192) (h : mcI (bA ft n.toInt) n.toInt i a k v xt du rw bk Q gn fg rp) (hdu : du ≤ 1) (hx : tr_RReader_want2 3 n a k v ft a1 k1 pl1 v1 xt1) : rdT (bA ft n.toInt) n.toInt (i + 1) a1 k1 v1 xt1 ∧ ∃ st lf ln op, mrn (bA ft n.toInt) n.toInt (i + 1) = some (2, st, lf, ln, op, rw, bk || decide (v.toInt ≠ (Q.1 : Int)), pgB Q) := by
  obtain ⟨h1, ⟨st, lf, ln, op, h2⟩, -⟩ := h
  obtain ⟨q1, q2, q3, -⟩ := w2_1 hF hn hn2 h1 (by decide) (by decide) hx
  rw [show Int32.toInt 3 = 3 from by decide] at q1
  refine ⟨q3, st, lf, ln, op, ?_⟩
  rw [mrn_e h2, ← q2]
  unfold mst
  simp only []
  rw [if_pos hdu, if_pos q1]
theorem mc_x6 {st lf ln op : Int} (h1 : rdT (bA ft n.toInt) n.toInt i a k v xt) (h2 : mrn (bA ft n.toInt) n.toInt i = some (2, st, lf, ln, op, rw, bk, Q)) (hx : tx_RReader_want sb_38 k xt) : rjt (bA ft n.toInt) n.toInt := by
  have hk := w1_0 hx
  have k6 := h1.1.2.2.2.2.2.2.2.1
  refine ⟨i, _, h2, ?_, fun _ z => by simp at z⟩
  rw [mrn_e h2]
  unfold mst
  simp only []
  rw [if_neg (by decide), if_pos trivial, if_neg (fun z => hk (k6.mpr z))]
theorem mc_w6 {st lf ln op : Int} (hF : ∀ k, gB (ft k) (-128) 127) (hn : 0 ≤ n.toInt) (hn2 : n.toInt ≤ 8192) (h1 : rdT (bA ft n.toInt) n.toInt i a k v xt) (h2 : mrn (bA ft n.toInt) n.toInt i = some (2, st, lf, ln, op, rw, bk, Q)) (hx : tr_RReader_want sb_38 n a k v ft xt a1 k1 pl1 v1 xt1) : rdT (bA ft n.toInt) n.toInt (i + 1) a1 k1 v1 xt1 ∧ mLn (bA ft n.toInt) n.toInt (i + 1) rw bk Q := by
  have k6 := h1.1.2.2.2.2.2.2.2.1
  obtain ⟨q1, q2, -⟩ := w1_1 hF hn hn2 h1 k6 (fun z => by omega) hx
  refine ⟨q2, Or.inl ⟨st, lf, ln, op, ?_⟩⟩
  rw [mrn_e h2]
  unfold mst
  simp only []
  rw [if_neg (by decide), if_pos trivial, if_pos q1]
theorem bkE_t (h : 0 ≤ rp1.toInt) (hb : bk = true) : bkE rp1 bk := ⟨fun _ => hb, fun _ => h⟩
/-- no rule is broken by this row -/
theorem bkE_rw (h : bkE rp bk) (hr : rw ≠ 160) (hb : 0 ≤ rp.toInt ∨ rw ≤ 160) : bkE rp (bk || decide (160 < rw + 1)) := by
  cases bk with
  | true => exact ⟨fun _ => rfl, fun _ => h.mpr rfl⟩
  | false =>
    have hn : ¬ 0 ≤ rp.toInt := fun z => by have := h.mp z; cases this
    have h1 := hb.resolve_left hn
    rw [decide_eq_false (by omega)]
    exact h
end MCL
def prI (γ el : Nat → Nat → Nat) (F : Nat → va_E) (f c j : Nat) (fg : Nat → Int32) (gn rp rw : Int32) : Prop :=
  (γ 0 c = 9 ∧ γ 1 c = f ∧ γ 6 f = 0 ∧ γ 19 f = 40) ∧ rw.toInt = (γ 16 f : Int) ∧ (fI (F c) 3).toInt = (j : Int) ∧ (∀ i, i < j → γ 0 (el (γ 14 c) i) = 2) ∧ (∀ x, γ 0 x = 2 → γ 1 x = f → glI fg gn (fI (F x) 2) ∧ glI fg gn (fI (F x) 3)) ∧ (0 ≤ rp.toInt ∨ ((j : Int) ≤ 40 ∧ rw.toInt ≤ 160))
def prL (γ el : Nat → Nat → Nat) (F : Nat → va_E) (f c j bb : Nat) (fg : Nat → Int32) (gn rp rw : Int32) : Prop :=
  (γ 0 c = 9 ∧ γ 1 c = f ∧ γ 6 f = 0 ∧ γ 19 f = 40) ∧ rw.toInt = (γ 16 f : Int) ∧ (fI (F c) 3).toInt = (j : Int) + 1 ∧ (∀ i, i < j → γ 0 (el (γ 14 c) i) = 2) ∧ (∀ x, γ 0 x = 2 → γ 1 x = f → glI fg gn (fI (F x) 2) ∧ glI fg gn (fI (F x) 3)) ∧ (0 ≤ rp.toInt ∨ ((j : Int) + 1 ≤ 40 ∧ rw.toInt ≤ 160)) ∧ (γ 0 bb = 202 ∧ γ 1 bb = f ∧ el (γ 14 c) j = bb ∧ j < γ 2 (γ 14 c))
def blP (D : va_G) (I : FieldType → ClassId) (P : List Nat) (F : Nat → va_E) (γ el : Nat → Nat → Nat) (f c R tp : Nat) (n a rw : Int32) (N j : Nat) (ft : Nat → Int32) : Option Value → va_W → Nat → Nat → Prop := fun r w dc ds => ∃ (P1 : List Nat) (F1 : Nat → va_E) (γ1 el1 : Nat → Nat → Nat) (g1 gp1 : Nat) (tx1 : gTz) (a1 k1 pl1 v1 b1 rp1 ru1 rw1 gn1 : Int32) (N1 : Nat) (fg1 fp1 : Nat → Int32) (i1 : Nat) (bk1 : Bool) (Q1 : gPg),
  r = none ∧ w = va_pl P1 F1 ∧ rSk f blkK blkF D I P F γ el P1 F1 γ1 el1 ∧ rNu f γ γ1 ∧ rdI I P1 F1 γ1 R tp g1 gp1 tx1 n a1 k1 pl1 v1 b1 rp1 ru1 rw1 gn1 N1 fg1 fp1 ∧ prI γ1 el1 F1 f c (j + 1) fg1 gn1 rp1 rw1 ∧ (2 * (rw1.toInt - rw.toInt) + 2 ≤ a1.toInt - a.toInt ∧ (k1.toInt = 0 ∨ 2 * (rw1.toInt - rw.toInt) + 3 ≤ a1.toInt - a.toInt) ∧ rw.toInt ≤ rw1.toInt ∧ N ≤ N1) ∧
  18 * (dc : Int) + (rPh γ el f : Int) ≤ (rPh γ1 el1 f : Int) + 18 * (16 * (a1.toInt - a.toInt) + 8 * (rw1.toInt - rw.toInt) + 4) ∧ (ds : Int) + (rPh γ el f : Int) ≤ (rPh γ1 el1 f : Int) + 160 * (a1.toInt - a.toInt) + 64 * (rw1.toInt - rw.toInt) + 4 * ((N1 : Int) - N) ∧ (rM γ1 el1 f : Int) ≤ (rM γ el f : Int) + 123 + 36 * (rw1.toInt - rw.toInt) ∧ mcI (bA ft n.toInt) n.toInt i1 a1 k1 v1 tx1.2 1 rw1.toInt bk1 Q1 gn1 fg1 rp1 ∧ rfI γ1 el1 F1 c (j + 1) Q1
def blX (D : va_G) (I : FieldType → ClassId) (P : List Nat) (F : Nat → va_E) (γ el : Nat → Nat → Nat) (f : Nat) (n a : Int32) (N : Nat) (ft : Nat → Int32) : String → Nat → va_W → Nat → Nat → Prop := fun E q w dc ds => ∃ (P1 : List Nat) (F1 : Nat → va_E) (γ1 el1 : Nat → Nat → Nat),
  E = "SpillForgeModel$Wrong" ∧ w = va_pl P1 F1 ∧ rSk f blkK blkF D I P F γ el P1 F1 γ1 el1 ∧ rNu f γ γ1 ∧ q ∈ P1 ∧ wrF F1 q ∧ 18 * (dc : Int) + (rPh γ el f : Int) ≤ (rPh γ1 el1 f : Int) + 360 * (n.toInt - a.toInt) + 720 ∧ (ds : Int) + (rPh γ el f : Int) ≤ (rPh γ1 el1 f : Int) + 192 * (n.toInt - a.toInt) + 16 * (N : Int) + 400 ∧ (rM γ1 el1 f : Int) ≤ (rM γ el f : Int) + 18 * (n.toInt - a.toInt) + 200 ∧ rjt (bA ft n.toInt) n.toInt
section PRL
variable {D : va_G} {I : FieldType → ClassId} {P P0 P1 W : List Nat} {F F0 F1 : Nat → va_E} {γ γ0 γ1 γ2 el el0 el1 : Nat → Nat → Nat} {R tp g gp f c j bb : Nat} {tx : gTz} {n a k pl v b rp ru rw gn rp1 rw1 gn1 : Int32} {N : Nat} {fg fp fg1 : Nat → Int32} {K2 KF2 : List Nat}
theorem rNu_t (h : rNu f γ γ1) (g : rNu f γ1 γ2) : rNu f γ γ2 := ⟨g.1.trans h.1, g.2.1.trans h.2.1, g.2.2.1.trans h.2.2.1, g.2.2.2.trans h.2.2.2⟩
theorem rNu_r : rNu f γ γ := ⟨rfl, rfl, rfl, rfl⟩
theorem prL_ow (hT : RS D I P F γ el) (h : prL γ el F f c j bb fg gn rp rw) (hfr : rFr W P F F1) (hW : ∀ w, w ∈ W → γ 0 w ≠ 9 ∧ γ 0 w ≠ 2) (hr : 0 ≤ rp1.toInt ∨ ((j : Int) + 1 ≤ 40 ∧ rw.toInt ≤ 160)) : prL γ el F1 f c j bb fg gn rp1 rw := by
  obtain ⟨⟨c0, c1, c6, c19⟩, h16, hmd, hB2, hGI, hrp, hb⟩ := h
  refine ⟨⟨c0, c1, c6, c19⟩, h16, ?_, hB2, fun x hx hf => ?_, hr, hb⟩
  · rw [hfr c (hT.1 c (by omega)) (fun z => (hW c z).1 c0)]; exact hmd
  · rw [hfr x (hT.1 x (by omega)) (fun z => (hW x z).2 hx)]; exact hGI x hx hf
theorem prI_ow (hT : RS D I P F γ el) (h : prI γ el F f c j fg gn rp rw) (hfr : rFr W P F F1) (hW : ∀ w, w ∈ W → γ 0 w ≠ 9 ∧ γ 0 w ≠ 2) (hr : 0 ≤ rp1.toInt ∨ ((j : Int) ≤ 40 ∧ rw.toInt ≤ 160)) : prI γ el F1 f c j fg gn rp1 rw := by
  obtain ⟨⟨c0, c1, c6, c19⟩, h16, hmd, hB2, hGI, hrp⟩ := h
  refine ⟨⟨c0, c1, c6, c19⟩, h16, ?_, hB2, fun x hx hf => ?_, hr⟩
  · rw [hfr c (hT.1 c (by omega)) (fun z => (hW c z).1 c0)]; exact hmd
  · rw [hfr x (hT.1 x (by omega)) (fun z => (hW x z).2 hx)]; exact hGI x hx hf
theorem prL_st (h : prL γ el F f c j bb fg gn rp rw) (st : rSt f K2 KF2 D I P F γ el P1 F1 γ1 el1) (hK : 9 ∉ K2 ∧ 2 ∉ K2 ∧ 202 ∉ K2) (hKF : 2 ∉ KF2) (h2 : ∀ a, γ1 0 a = 2 → γ 0 a = 2) (hnu : rNu f γ γ1) (hl : γ1 2 (γ 14 c) = γ 2 (γ 14 c) ∧ el1 (γ 14 c) = el (γ 14 c)) (hm : (fI (F1 c) 3).toInt = (fI (F c) 3).toInt) (hr : rw1.toInt = (γ1 16 f : Int)) (hrp1 : 0 ≤ rp.toInt ∨ ((j : Int) + 1 ≤ 40 ∧ rw1.toInt ≤ 160)) : prL γ1 el1 F1 f c j bb fg gn rp rw1 := by
  obtain ⟨⟨c0, c1, c6, c19⟩, h16, hmd, hB2, hGI, hrp, ⟨b0, b1, bj, bj2⟩⟩ := h
  have sk := rSk_of st
  have e14 : γ1 14 c = γ 14 c := (rSk_s sk (show rKd γ c 9 from c0) (by decide)).2.1
  refine ⟨⟨rSk_k sk (show rKd γ c 9 from c0) (by decide) hK.1, rSk_1 sk (show rKd γ c 9 from c0) (by decide) c1, hnu.1.trans c6, hnu.2.2.1.trans c19⟩, hr, hm.trans hmd, fun i hi => ?_, fun x hx hf => ?_, hrp1, ⟨rSk_k sk (show rKd γ bb 202 from b0) (by decide) hK.2.2, rSk_1 sk (show rKd γ bb 202 from b0) (by decide) b1, ?_, ?_⟩⟩
  · rw [e14, hl.2]
    exact rSk_k sk (show rKd γ _ 2 from hB2 i hi) (by decide) hK.2.1
  · have hx0 := h2 x hx
    have hs := (rSk_s sk (show rKd γ x 2 from hx0) (by decide)).1
    rw [rSk_F sk (show rKd γ x 2 from hx0) (by decide) hKF]
    exact hGI x hx0 (hs ▸ hf)
  · rw [e14, hl.2]; exact bj
  · rw [e14, hl.1]; exact bj2
theorem prL_bl {dc ds : Nat} (hT : RS D I P F γ el) (h : prI γ el F f c j fg gn rp rw) (hq : rBq D I P F γ el f c P1 F1 γ1 el1 bb dc ds) (h2 : ∀ a, γ1 0 a = 2 → γ 0 a = 2) (hr : 0 ≤ rp.toInt ∨ ((j : Int) + 1 ≤ 40 ∧ rw.toInt ≤ 160)) : prL γ1 el1 F1 f c j bb fg gn rp rw := by
  obtain ⟨⟨c0, c1, c6, c19⟩, h16, hmd, hB2, hGI, hrp⟩ := h
  obtain ⟨st, b0, b1, ⟨j', m1, m2, m3, m4, m5, m6⟩, n0, g16, g18, hnu, hl, h45, -⟩ := hq
  have ej : j' = j := by omega
  subst ej
  have sk := rSk_of st
  have e14 : γ1 14 c = γ 14 c := (rSk_s sk (show rKd γ c 9 from c0) (by decide)).2.1
  refine ⟨⟨rSk_k sk (show rKd γ c 9 from c0) (by decide) (by decide), rSk_1 sk (show rKd γ c 9 from c0) (by decide) c1, hnu.1.trans c6, hnu.2.2.1.trans c19⟩, by omega, m1, fun i hi => ?_, fun x hx hf => ?_, hr, ⟨b0, b1, by rw [e14]; exact m4, by rw [e14]; exact m3⟩⟩
  · rw [e14, m6 i hi]
    exact rSk_k sk (show rKd γ _ 2 from hB2 i hi) (by decide) (by decide)
  · have hx0 := h2 x hx
    have hs := (rSk_s sk (show rKd γ x 2 from hx0) (by decide)).1
    rw [rSk_F sk (show rKd γ x 2 from hx0) (by decide) (by decide)]
    exact hGI x hx0 (hs ▸ hf)
theorem glI_e {x y : Int32} (h : glE fg fg1 gn gn1 x y) (hg : gn.toInt ≤ gn1.toInt) {z : Int32} (q : glI fg gn z) : glI fg1 gn1 z := by
  rcases q with q | ⟨j, q1, q2⟩
  · exact Or.inl q
  · exact Or.inr ⟨j, by omega, (h.1 j q1).trans q2⟩
theorem rsz (hT : RS D I P F γ el) (hc : γ 0 c = 9) (hcf : γ 1 c = f) : rPh γ el f + 100 ≤ rM γ el f ∧ 18 * γ 2 (γ 15 c) ≤ rPh γ el f ∧ 54 * γ 2 (γ 14 c) ≤ rPh γ el f ∧ rPh γ el f + 2 * γ 13 (γ 15 c) + 100 ≤ rM γ el f ∧ rPh γ el f + 2 * γ 13 (γ 14 c) + 100 ≤ rM γ el f := by
  obtain ⟨h1, h2, -⟩ := rM_ge hT hc hcf
  have e := (rc_at hT hc hcf).1
  have h3 : rPh γ el f = rPhc γ el (γ 14 c) (γ 15 c) := by unfold rPh; rw [e]
  unfold rPhc at h3
  omega
theorem rsl {lb i : Nat} (hT : RS D I P F γ el) (hc : γ 0 c = 9) (hcf : γ 1 c = f) (hl : γ 0 lb = 3) (hi : i < γ 2 (γ 14 c)) (hli : γ 14 (el (γ 14 c) i) = lb) : rPh γ el f + 2 * γ 13 lb + 100 ≤ rM γ el f ∧ 4 * γ 13 lb ≤ rPh γ el f ∧ γ 2 lb ≤ γ 13 lb := by
  obtain ⟨-, -, h1⟩ := rM_ge hT hc hcf
  have h1 := h1 i hi
  have e := (rc_at hT hc hcf).1
  have h3 : rPh γ el f = rPhc γ el (γ 14 c) (γ 15 c) := by unfold rPh; rw [e]
  unfold rPhc at h3
  have h4 := rsum_t (f := fun i => 4 * γ 13 (γ 14 (el (γ 14 c) i))) hi
  have h4 : 4 * γ 13 (γ 14 (el (γ 14 c) i)) ≤ rsum (fun i => 4 * γ 13 (γ 14 (el (γ 14 c) i))) (γ 2 (γ 14 c)) := h4
  rw [hli] at h1 h4
  refine ⟨h1, by omega, ?_⟩
  obtain ⟨⟨m, z, e, v1, v2, v3, v4, v5⟩, v6⟩ := show rk_3 D I γ el F lb from RS_o hT hl
  rcases v4 with ⟨e0, s0, c0⟩ | ⟨x1, x2, n, g, y1, y2, y3, y4, y5, y6⟩
  · omega
  · omega
/-- a block is read to its end -/
theorem blP_of {a0 a1 k1 pl1 v1 b1 ru1 rw0 fi se : Int32} {g1 gp1 lb nb N1 dc ds cs sl : Nat} {tx1 : gTz} {fp1 : Nat → Int32} {ft : Nat → Int32} {i1 : Nat} {bk1 : Bool} {Q Q1 : gPg} {ll : Nat → Int} (hk : rSk f blkK blkF D I P0 F0 γ0 el0 P F γ el) (hnu : rNu f γ0 γ) (hL : prL γ el F f c j bb fg gn rp rw) (hLr : rfL γ el F c j bb Q) (hR : γ 0 R = 0 ∧ γ 0 g = 0 ∧ γ 0 gp = 0)
    (hs : rSub P P1) (hfr : rFr [bb, nb, R, g, gp] P F F1) (nb0 : γ 0 nb = 101) (nb1 : γ 1 nb = γ 1 bb) (hT1 : RS D I P1 F1 γ el) (hd1 : rdI I P1 F1 γ R tp g1 gp1 tx1 n a1 k1 pl1 v1 b1 rp ru1 rw gn1 N1 fg1 fp1) (hFb : F1 bb = .inr (17, [.ref lb, .ref nb, .int fi, .int se])) (bfi : gB fi 0 39) (bse : gB se 0 39) (hRn : rkR (F1 nb)) (h1n : rk_1 γ nb (F1 nb)) (hgl : glE fg fg1 gn gn1 fi se) (hgn : gn.toInt ≤ gn1.toInt)
    (hm1 : mcI (bA ft n.toInt) n.toInt i1 a1 k1 v1 tx1.2 1 rw.toInt bk1 Q1 gn1 fg1 rp) (q1 : Q1.1 = Q.1) (q2 : Q1.2.1 = (pgL Q ll).2.1) (q3 : Q1.2.2.1 = (pgL Q ll).2.2.1) (q4 : ∀ b, b + 1 ≠ Q.1 → Q1.2.2.2 b = Q.2.2.2 b) (q5 : ∀ b, b + 1 = Q.1 → edE ll (Q1.2.2.2 b) (fI (F1 nb) 0) (fI (F1 nb) 2) (fI (F1 nb) 5) fi se)
    (h1 : 2 * (rw.toInt - rw0.toInt) + 2 ≤ a1.toInt - a0.toInt) (h2 : k1.toInt = 0 ∨ 2 * (rw.toInt - rw0.toInt) + 3 ≤ a1.toInt - a0.toInt) (h3 : rw0.toInt ≤ rw.toInt) (h4 : N ≤ N1)
    (h5 : 18 * ((cs + dc : Nat) : Int) + (rPh γ0 el0 f : Int) ≤ (rPh γ el f : Int) + 18 * (16 * (a1.toInt - a0.toInt) + 8 * (rw.toInt - rw0.toInt) + 4)) (h6 : ((sl + ds : Nat) : Int) + (rPh γ0 el0 f : Int) ≤ (rPh γ el f : Int) + 160 * (a1.toInt - a0.toInt) + 64 * (rw.toInt - rw0.toInt) + 4 * ((N1 : Int) - N)) (h7 : (rM γ el f : Int) ≤ (rM γ0 el0 f : Int) + 123 + 36 * (rw.toInt - rw0.toInt)) :
    blP D I P0 F0 γ0 el0 f c R tp n a0 rw0 N j ft none (va_pl P1 F1) (cs + dc) (sl + ds) := by
  obtain ⟨⟨c0, c1, c6, c19⟩, h16, hmd, hB2, hGI, hrp, ⟨b0, b1', bj, bj2⟩⟩ := hL
  have hT := hk.1
  have h202 : rk_202 γ bb (F1 bb) := RS_o hT1 b0
  have sk1 : rSk f blkK blkF D I P0 F0 γ0 el0 P1 F1 γ el := rSk_ow hk hs hfr (wm_c (Or.inr (fit_202 b0 h202)) (wm_c (Or.inr (fit_101 nb0 hRn)) (wm_c (Or.inl hR.1) (wm_c (Or.inl hR.2.1) (wm_c (Or.inl hR.2.2) wm_n))))) (wm_c (Or.inr ⟨by rw [b0]; decide, Or.inl b1'⟩) (wm_c (Or.inr ⟨by rw [nb0]; decide, Or.inl (nb1.trans b1')⟩) (wm_c (Or.inl hR.1) (wm_c (Or.inl hR.2.1) (wm_c (Or.inl hR.2.2) wm_n))))) blkKF
  have st := St_seal hT1 b0 b1' hFb c0 c1 (by have := bfi.2; omega) (by have := bse.2; omega) c6 h1n
  have kn : ∀ x, x ≠ bb → x ≠ nb → gSea γ bb nb 0 x = γ 0 x := fun x q1 q2 => (if_neg q1).trans (if_neg q2)
  have kd : ∀ x k, γ 0 x = k → k ≠ 202 → k ≠ 101 → gSea γ bb nb 0 x = k := fun x k q q1 q2 => (kn x (fun e => q1 (by rw [← q, e]; exact b0)) (fun e => q2 (by rw [← q, e]; exact nb0))).trans q
  obtain ⟨⟨r1, r2, r3⟩, ⟨g1m, g2, g3⟩, ⟨p1, p2, p3⟩, ⟨t1, t2⟩, hb, hc, hdd⟩ := id hd1
  refine ⟨P1, F1, gSea γ bb nb, el, g1, gp1, tx1, a1, k1, pl1, v1, b1, rp, ru1, rw, gn1, N1, fg1, fp1, i1, bk1, Q1, rfl, rfl, rSk_tr sk1 (rSk_of st) (by decide) (by decide) blkKF, hnu, rdI_z hd1 rSub_rf (fun _ _ _ => rfl) (fun x _ q => kd x 0 q (by decide) (by decide)) (kd tp 99 t1 (by decide) (by decide)), ⟨⟨kd c 9 c0 (by decide) (by decide), c1, c6, c19⟩, h16, ?_, fun i hi => ?_, fun x hx hf => ?_, by omega⟩, ⟨h1, h2, h3, h4⟩, h5, h6, h7, hm1, rfI_end hT hLr hB2 b0 bj nb0 hR hfr hT1 hFb q1 q2 q3 q4 q5⟩
  · rw [hfr c (hT.1 c (by omega)) (nm_c (fun e => by rw [e, b0] at c0; cases c0) (nm_c (fun e => by rw [e, nb0] at c0; cases c0) (nm_c (fun e => by rw [e, hR.1] at c0; cases c0) (nm_c (fun e => by rw [e, hR.2.1] at c0; cases c0) (nm_c (fun e => by rw [e, hR.2.2] at c0; cases c0) nm_n)))))]
    omega
  · by_cases q : i < j
    · exact kd _ 2 (hB2 i q) (by decide) (by decide)
    · have : i = j := by omega
      rw [this]
      show gSea γ bb nb 0 (el (γ 14 c) j) = 2
      rw [bj]
      exact if_pos rfl
  · by_cases q : x = bb
    · rw [q, hFb]
      exact ⟨hgl.2 fi (Or.inl rfl), hgl.2 se (Or.inr rfl)⟩
    · have hx' : (if x = bb then 2 else if x = nb then 1 else γ 0 x) = 2 := hx
      rw [if_neg q] at hx'
      have q2 : x ≠ nb := fun e => by rw [if_pos e] at hx'; cases hx'
      rw [if_neg q2] at hx'
      rw [hfr x (hT.1 x (by omega)) (nm_c q (nm_c q2 (nm_c (fun e => by rw [e, hR.1] at hx'; cases hx') (nm_c (fun e => by rw [e, hR.2.1] at hx'; cases hx') (nm_c (fun e => by rw [e, hR.2.2] at hx'; cases hx') nm_n)))))]
      have := hGI x hx' hf
      exact ⟨glI_e hgl hgn this.1, glI_e hgl hgn this.2⟩
end PRL
