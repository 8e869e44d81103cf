/-! stub: definitions and lemmas of later parts, for trials -/
def opdE (r nu : Int) (a rA : Int32) : Prop := (rA.toInt = 1 ∧ a.toInt = r ∧ 0 ≤ r) ∨ (rA.toInt = 0 ∧ r = -1 ∧ a.toInt = nu)
def rwE (l : Nat → Int) (op t a b rA rB : Int32) : Prop := (l 0 ≤ 13 → op.toInt = l 0 + 1 ∧ t.toInt = l 1 ∧ opdE (l 2) (l 3) a rA ∧ opdE (l 4) (l 5) b rB) ∧ (l 0 = 14 → op.toInt = 0 ∧ t.toInt = l 1 ∧ opdE (l 2) (l 3) a rA) ∧ (l 0 = 15 → op.toInt = 20 ∧ t.toInt = l 1) ∧ (l 0 = 16 → op.toInt = 22 ∧ opdE (l 2) (l 3) a rA)
def edE (l : Nat → Int) (g : Nat → Int) (op a rA f s : Int32) : Prop := (l 0 = 19 → op.toInt = 30 ∧ f.toInt = g 0 ∧ s.toInt = g 0) ∧ (l 0 = 20 → op.toInt = 31 ∧ opdE (l 2) (l 3) a rA ∧ f.toInt = g 0 ∧ s.toInt = g 1) ∧ (l 0 = 21 → op.toInt = 32 ∧ opdE (l 2) (l 3) a rA)
abbrev gTz := Nat × gTx
section RDI
variable {D : va_G} {I : FieldType → ClassId} {P P0 P1 W : List Nat} {F F0 F1 : Nat → va_E} {γ γ0 γ1 el el0 : Nat → Nat → Nat} {R tp g gp f : Nat} {tx tx1 : gTz} {n a k pl v b rp ru rw gn a1 k1 pl1 v1 b1 rp1 ru1 rw1 : Int32} {N : Nat} {fg fp : Nat → Int32} {K KF : List Nat}
theorem RS_ow (hT : RS D I P F γ el) (hs : rSub P P1) (n : rFr W P F F1) (hW : ∀ w, w ∈ W → γ 0 w = 0 ∨ ((γ 0 w ≠ 6 ∧ γ 0 w ≠ 7 ∧ γ 0 w ≠ 8) ∧ rFit D I γ el F1 w (γ 0 w))) : RS D I P1 F1 γ el := by
  refine ⟨fun a h => hs a (hT.1 a h), fun x => ?_⟩
  by_cases h0 : γ 0 x = 0
  · rw [h0]; exact trivial
  · by_cases hx : x ∈ W
    · rcases hW x hx with q | q
      · exact absurd q h0
      · exact q.2
    · refine rFit_c _ (n x (hT.1 x h0) hx) (fun e he => n e (hT.1 e (by omega)) (fun hw => ?_)) (hT.2 x)
      rcases hW e hw with q | q
      · omega
      · omega
theorem rSk_ow (h : rSk f K KF D I P0 F0 γ0 el0 P F γ el) (hs : rSub P P1) (n : rFr W P F F1) (hW : ∀ w, w ∈ W → γ 0 w = 0 ∨ ((γ 0 w ≠ 6 ∧ γ 0 w ≠ 7 ∧ γ 0 w ≠ 8) ∧ rFit D I γ el F1 w (γ 0 w))) (hF : ∀ w, w ∈ W → γ 0 w = 0 ∨ γ 0 w ∈ KF) (hK : ∀ j, j ∈ K → j ∈ KF) : rSk f K KF D I P0 F0 γ0 el0 P1 F1 γ el :=
  rSk_tr h (K2 := []) (KF2 := KF) ⟨RS_ow h.1 hs n hW, hs, rEx_rf, fun x h0 hx => n x (h.1.1 x h0) (fun hw => (hF x hw).elim h0 hx)⟩ (fun _ z => nomatch z) (fun _ z => z) hK
theorem wm_n {p : Nat → Prop} : ∀ w, w ∈ ([] : List Nat) → p w := fun _ h => nomatch h
theorem wm_c {p : Nat → Prop} {x : Nat} (h : p x) (t : ∀ w, w ∈ W → p w) : ∀ w, w ∈ x :: W → p w := fun w hw => by
  rcases List.mem_cons.mp hw with e | e
  · rw [e]; exact h
  · exact t w e
theorem rFr_n (n : ∀ x, x ≠ R → F1 x = F x) : rFr [R] P F F1 := fun x _ hx => n x (fun e => hx (e ▸ List.mem_cons_self))
theorem fit_101 {x : Nat} (h : γ 0 x = 101) (hf : rkR (F1 x)) : (γ 0 x ≠ 6 ∧ γ 0 x ≠ 7 ∧ γ 0 x ≠ 8) ∧ rFit D I γ el F1 x (γ 0 x) := by rw [h]; exact ⟨by decide, hf⟩
theorem fit_202 {x : Nat} (h : γ 0 x = 202) (hf : rk_202 γ x (F1 x)) : (γ 0 x ≠ 6 ∧ γ 0 x ≠ 7 ∧ γ 0 x ≠ 8) ∧ rFit D I γ el F1 x (γ 0 x) := by rw [h]; exact ⟨by decide, hf⟩
end RDI
/-- the first m rows of a list, the lines of a program -/
def rfR (γ el : Nat → Nat → Nat) (F : Nat → va_E) (l : Nat) (L : Nat → Nat → Int) (m : Nat) : Prop := γ 2 l = m ∧ ∀ k, k < m → rwE (L k) (fI (F (el l k)) 0) (fI (F (el l k)) 1) (fI (F (el l k)) 2) (fI (F (el l k)) 3) (fI (F (el l k)) 5) (fI (F (el l k)) 6)
def rfB (γ el : Nat → Nat → Nat) (F : Nat → va_E) (B n : Nat) (L : Nat → Nat → Int) (g : Nat → Int) : Prop := 0 < n ∧ rfR γ el F (γ 14 B) L (n - 1) ∧ edE (L (n - 1)) g (fI (F (γ 15 B)) 0) (fI (F (γ 15 B)) 2) (fI (F (γ 15 B)) 5) (fI (F B) 2) (fI (F B) 3)
def rfI (γ el : Nat → Nat → Nat) (F : Nat → va_E) (c j : Nat) (Q : gPg) : Prop := Q.1 = j ∧ ∀ b, b < j → rfB γ el F (el (γ 14 c) b) (Q.2.1 b) (Q.2.2.1 b) (Q.2.2.2 b)
def rfL (γ el : Nat → Nat → Nat) (F : Nat → va_E) (c j bb : Nat) (Q : gPg) : Prop := Q.1 = j + 1 ∧ (∀ b, b < j → rfB γ el F (el (γ 14 c) b) (Q.2.1 b) (Q.2.2.1 b) (Q.2.2.2 b)) ∧ rfR γ el F (γ 14 bb) (Q.2.2.1 j) (Q.2.1 j) ∧ Q.2.2.2 j 0 = -1 ∧ Q.2.2.2 j 1 = -1
section RFB
variable {D : va_G} {I : FieldType → ClassId} {P P1 W : List Nat} {F F1 : Nat → va_E} {γ γ1 el el1 : Nat → Nat → Nat} {B n l c j bb m f x : Nat} {L : Nat → Nat → Int} {g : Nat → Int} {Q : gPg} {K KF : List Nat}
theorem rfR_c (hT : RS D I P F γ el) (hl : γ 0 l = 3) (h : rfR γ el F l L m) (hF : ∀ x, γ 0 x = 1 ∨ γ 0 x = 2 → F1 x = F x) (e2 : γ1 2 l = γ 2 l ∧ el1 l = el l) : rfR γ1 el1 F1 l L m := by
  have k3 := (show rk_3 D I γ el F l from RS_o hT hl).2
  obtain ⟨h1, h2⟩ := h
  refine ⟨e2.1.trans h1, fun k hk => ?_⟩
  rw [e2.2, hF _ (Or.inl (k3 k (by omega)).1)]
  exact h2 k hk
theorem rfB_c (hT : RS D I P F γ el) (hB : γ 0 B = 2) (h : rfB γ el F B n L g) (hF : ∀ x, γ 0 x = 1 ∨ γ 0 x = 2 → F1 x = F x) (e14 : γ1 14 B = γ 14 B) (e15 : γ1 15 B = γ 15 B) (e2 : γ1 2 (γ 14 B) = γ 2 (γ 14 B) ∧ el1 (γ 14 B) = el (γ 14 B)) : rfB γ1 el1 F1 B n L g := by
  obtain ⟨l, nn, p, s, v1, ⟨g1, g2, g3⟩, v3, v4, v5, -⟩ := show rk_2 γ B (F B) from RS_o hT hB
  obtain ⟨h0, h1, h3⟩ := h
  refine ⟨h0, ?_, ?_⟩
  · rw [e14]
    exact rfR_c hT (by rw [g1]; exact v3) h1 hF e2
  · rw [e15, hF _ (Or.inl (by rw [g2]; exact v5)), hF B (Or.inr hB)]
    exact h3
theorem hF_ow (hT : RS D I P F γ el) (hfr : rFr W P F F1) (hW : ∀ w, w ∈ W → γ 0 w ≠ 1 ∧ γ 0 w ≠ 2) : ∀ x, γ 0 x = 1 ∨ γ 0 x = 2 → F1 x = F x := fun x hx => hfr x (hT.1 x (by omega)) (fun z => by have := hW x z; omega)
theorem hF_sk (sk : rSk f K KF D I P F γ el P1 F1 γ1 el1) (hK : 1 ∉ KF ∧ 2 ∉ KF) : ∀ x, γ 0 x = 1 ∨ γ 0 x = 2 → F1 x = F x := fun x hx => by
  rcases hx with hx | hx
  · exact rSk_F sk (show rKd γ x 1 from hx) (by decide) hK.1
  · exact rSk_F sk (show rKd γ x 2 from hx) (by decide) hK.2
theorem rfI_ow (hT : RS D I P F γ el) (h : rfI γ el F c j Q) (hB2 : ∀ i, i < j → γ 0 (el (γ 14 c) i) = 2) (hfr : rFr W P F F1) (hW : ∀ w, w ∈ W → γ 0 w ≠ 1 ∧ γ 0 w ≠ 2) : rfI γ el F1 c j Q :=
  ⟨h.1, fun b hb => rfB_c hT (hB2 b hb) (h.2 b hb) (hF_ow hT hfr hW) rfl rfl ⟨rfl, rfl⟩⟩
theorem rfL_ow (hT : RS D I P F γ el) (h : rfL γ el F c j bb Q) (hB2 : ∀ i, i < j → γ 0 (el (γ 14 c) i) = 2) (b0 : γ 0 bb = 202) (hfr : rFr W P F F1) (hW : ∀ w, w ∈ W → γ 0 w ≠ 1 ∧ γ 0 w ≠ 2) : rfL γ el F1 c j bb Q := by
  obtain ⟨l, nn, p, s, v1, ⟨g1, g2, g3⟩, v3, -⟩ := show rk_202 γ bb (F bb) from RS_o hT b0
  exact ⟨h.1, fun b hb => rfB_c hT (hB2 b hb) (h.2.1 b hb) (hF_ow hT hfr hW) rfl rfl ⟨rfl, rfl⟩, rfR_c hT (by rw [g1]; exact v3) h.2.2.1 (hF_ow hT hfr hW) ⟨rfl, rfl⟩, h.2.2.2⟩
theorem rfB_l (hT : RS D I P F γ el) (hB : γ 0 B = 2) : γ 0 (γ 14 B) = 3 ∧ γ 20 (γ 14 B) = B := by
  obtain ⟨l, nn, p, s, v1, ⟨g1, g2, g3⟩, v3, -⟩ := show rk_2 γ B (F B) from RS_o hT hB
  exact ⟨by rw [g1]; exact v3, by rw [g1]; exact g3⟩
theorem rfL_l (hT : RS D I P F γ el) (b0 : γ 0 bb = 202) : γ 0 (γ 14 bb) = 3 ∧ γ 20 (γ 14 bb) = bb := by
  obtain ⟨l, nn, p, s, v1, ⟨g1, g2, g3⟩, v3, -⟩ := show rk_202 γ bb (F bb) from RS_o hT b0
  exact ⟨by rw [g1]; exact v3, by rw [g1]; exact g3⟩
/-- a step that leaves the lists of blocks -/
theorem rfL_st (hT : RS D I P F γ el) (h : rfL γ el F c j bb Q) (c0 : γ 0 c = 9) (hB2 : ∀ i, i < j → γ 0 (el (γ 14 c) i) = 2) (b0 : γ 0 bb = 202) (sk : rSk f K KF D I P F γ el P1 F1 γ1 el1) (hK : 1 ∉ KF ∧ 2 ∉ KF) (hc : el1 (γ 14 c) = el (γ 14 c)) (hl : ∀ a, γ 0 a = 3 → γ1 2 a = γ 2 a ∧ el1 a = el a) : rfL γ1 el1 F1 c j bb Q := by
  have e14 : γ1 14 c = γ 14 c := (rSk_s sk (show rKd γ c 9 from c0) (by decide)).2.1
  refine ⟨h.1, fun b hb => ?_, ?_, h.2.2.2⟩
  · rw [e14, hc]
    have hB := hB2 b hb
    obtain ⟨-, s14, s15, -⟩ := rSk_s sk (show rKd γ _ 2 from hB) (by decide)
    exact rfB_c hT hB (h.2.1 b hb) (hF_sk sk hK) s14 s15 (hl _ (rfB_l hT hB).1)
  · obtain ⟨-, s14, s15, -⟩ := rSk_s sk (show rKd γ bb 202 from b0) (by decide)
    rw [s14]
    exact rfR_c hT (rfL_l hT b0).1 h.2.2.1 (hF_sk sk hK) (hl _ (rfL_l hT b0).1)
/-- a row more -/
theorem rfL_add {ll : Nat → Int} (hT : RS D I P F γ el) (h : rfL γ el F c j bb Q) (c0 : γ 0 c = 9) (hB2 : ∀ i, i < j → γ 0 (el (γ 14 c) i) = 2) (b0 : γ 0 bb = 202) (sk : rSk f K KF D I P F γ el P1 F1 γ1 el1) (hK : 1 ∉ KF ∧ 2 ∉ KF) (hc : el1 (γ 14 c) = el (γ 14 c)) (h2 : γ1 2 (γ 14 bb) = γ 2 (γ 14 bb) + 1) (hel : ∀ i, el1 (γ 14 bb) i = if i < γ 2 (γ 14 bb) then el (γ 14 bb) i else if i = γ 2 (γ 14 bb) then x else el (γ 14 bb) (i - 1)) (hl : ∀ a, γ 0 a ≠ 0 → a ≠ γ 14 bb → γ1 2 a = γ 2 a ∧ el1 a = el a) (hx : F1 x = F x) (hr : rwE ll (fI (F x) 0) (fI (F x) 1) (fI (F x) 2) (fI (F x) 3) (fI (F x) 5) (fI (F x) 6)) : rfL γ1 el1 F1 c j bb (pgL Q ll) := by
  have e14 : γ1 14 c = γ 14 c := (rSk_s sk (show rKd γ c 9 from c0) (by decide)).2.1
  obtain ⟨h1, hb, ⟨r1, r2⟩, g0, g1⟩ := h
  obtain ⟨l3, l20⟩ := rfL_l hT b0
  have k3 := (show rk_3 D I γ el F (γ 14 bb) from RS_o hT l3).2
  obtain ⟨p1, p2, p3, p4⟩ := pgL_l (P := Q) (l := ll) (b := j) h1.symm
  refine ⟨h1, fun b hb' => ?_, ?_, ?_, ?_⟩
  · obtain ⟨o1, o2, o3⟩ := pgL_o (P := Q) (l := ll) (b := b) (by omega)
    have hB := hB2 b hb'
    obtain ⟨-, s14, s15, -⟩ := rSk_s sk (show rKd γ _ 2 from hB) (by decide)
    obtain ⟨q1, q2⟩ := rfB_l hT hB
    rw [e14, hc, o1, o2, o3]
    refine rfB_c hT hB (hb b hb') (hF_sk sk hK) s14 s15 (hl _ (by omega) (fun e => ?_))
    rw [e, l20] at q2
    rw [← q2, b0] at hB
    cases hB
  · obtain ⟨-, s14, s15, -⟩ := rSk_s sk (show rKd γ bb 202 from b0) (by decide)
    rw [s14, p1]
    refine ⟨by omega, fun k hk => ?_⟩
    rw [hel k]
    by_cases q : k < Q.2.1 j
    · rw [if_pos (by omega), p2 k q, hF_sk sk hK _ (Or.inl (k3 k (by omega)).1)]
      exact r2 k q
    · have e : k = Q.2.1 j := by omega
      rw [if_neg (by omega), if_pos (by omega), e, p3, hx]
      exact hr
  · rw [p4]; exact g0
  · rw [p4]; exact g1
/-- a block begun -/
theorem rfL_bl {dc ds : Nat} (hT : RS D I P F γ el) (h : rfI γ el F c j Q) (c0 : γ 0 c = 9) (hmd : (fI (F c) 3).toInt = (j : Int)) (hB2 : ∀ i, i < j → γ 0 (el (γ 14 c) i) = 2) (hq : rBq D I P F γ el f c P1 F1 γ1 el1 bb dc ds) : rfL γ1 el1 F1 c j bb (pgB Q) := by
  obtain ⟨st, b0, b1, ⟨j', m1, m2, m3, m4, m5, m6⟩, n0, g16, g18, hnu, hl, h45, -⟩ := hq
  have ej : j' = j := by omega
  subst ej
  have sk := rSk_of st
  have e14 : γ1 14 c = γ 14 c := (rSk_s sk (show rKd γ c 9 from c0) (by decide)).2.1
  obtain ⟨h1, hb⟩ := h
  refine ⟨by show Q.1 + 1 = j' + 1; omega, fun b hb' => ?_, ⟨?_, fun k hk => ?_⟩, ?_, ?_⟩
  · obtain ⟨o1, o2, o3⟩ := pgB_o (P := Q) (b := b) (by omega)
    have hB := hB2 b hb'
    obtain ⟨-, s14, s15, -⟩ := rSk_s sk (show rKd γ _ 2 from hB) (by decide)
    rw [e14, m6 b hb', o1, o2, o3]
    exact rfB_c hT hB (hb b hb') (hF_sk sk (by decide)) s14 s15 (hl _ (rfB_l hT hB).1)
  · rw [n0]
    show 0 = if j' = Q.1 then 0 else Q.2.1 j'
    rw [if_pos h1.symm]
  · exfalso
    have : (pgB Q).2.1 j' = 0 := if_pos h1.symm
    omega
  · exact if_pos h1.symm
  · exact if_pos h1.symm
/-- a block read to its end -/
theorem rfI_end {nb lb R gg gp : Nat} {ll : Nat → Int} {Q1 : gPg} {fi se : Int32} (hT : RS D I P F γ el) (h : rfL γ el F c j bb Q) (hB2 : ∀ i, i < j → γ 0 (el (γ 14 c) i) = 2) (b0 : γ 0 bb = 202) (bj : el (γ 14 c) j = bb) (nb0 : γ 0 nb = 101) (hR : γ 0 R = 0 ∧ γ 0 gg = 0 ∧ γ 0 gp = 0) (hfr : rFr [bb, nb, R, gg, gp] P F F1) (hT1 : RS D I P1 F1 γ el) (hFb : F1 bb = .inr (17, [.ref lb, .ref nb, .int fi, .int se]))
    (q1 : Q1.1 = Q.1) (q2 : Q1.2.1 = (pgL Q ll).2.1) (q3 : Q1.2.2.1 = (pgL Q ll).2.2.1) (q4 : ∀ b, b + 1 ≠ Q.1 → Q1.2.2.2 b = Q.2.2.2 b) (q5 : ∀ b, b + 1 = Q.1 → edE ll (Q1.2.2.2 b) (fI (F1 nb) 0) (fI (F1 nb) 2) (fI (F1 nb) 5) fi se) : rfI (gSea γ bb nb) el F1 c (j + 1) Q1 := by
  obtain ⟨h1, hb, hr, g0, g1⟩ := h
  have hFF : ∀ x, γ 0 x = 1 ∨ γ 0 x = 2 → F1 x = F x := hF_ow hT hfr (wm_c (by rw [b0]; decide) (wm_c (by rw [nb0]; decide) (wm_c (by rw [hR.1]; decide) (wm_c (by rw [hR.2.1]; decide) (wm_c (by rw [hR.2.2]; decide) wm_n)))))
  obtain ⟨l, nn, p, s, v1, ⟨u1, u2, u3⟩, v3, -⟩ := show rk_202 γ bb (F1 bb) from RS_o hT1 b0
  have enb : γ 15 bb = nb := by
    rw [hFb] at v1
    injection v1 with v1
    injection v1 with v0 v1
    injection v1 with v1 v2
    injection v2 with v2 v4
    injection v2 with v2
    rw [u2, ← v2]
  obtain ⟨p1, p2, p3, p4⟩ := pgL_l (P := Q) (l := ll) (b := j) h1.symm
  refine ⟨q1.trans h1, fun b hb' => ?_⟩
  rw [q2, q3]
  by_cases e : b = j
  · subst e
    show rfB (gSea γ bb nb) el F1 (el (γ 14 c) b) _ _ _
    rw [bj, p1]
    refine ⟨Nat.succ_pos _, ?_, ?_⟩
    · show rfR (gSea γ bb nb) el F1 (γ 14 bb) _ _
      have hr1 := rfR_c (γ1 := gSea γ bb nb) (el1 := el) hT (rfL_l hT b0).1 hr hFF ⟨rfl, rfl⟩
      refine ⟨hr1.1, fun k hk => ?_⟩
      rw [p2 k (by omega)]
      exact hr1.2 k (by omega)
    · show edE _ _ (fI (F1 (γ 15 bb)) 0) (fI (F1 (γ 15 bb)) 2) (fI (F1 (γ 15 bb)) 5) _ _
      have z := q5 b h1.symm
      rw [enb, hFb, show Q.2.1 b + 1 - 1 = Q.2.1 b from rfl, p3]
      exact z
  · obtain ⟨o1, o2, o3⟩ := pgL_o (P := Q) (l := ll) (b := b) (by omega)
    have hB := hB2 b (by omega)
    show rfB (gSea γ bb nb) el F1 (el (γ 14 c) b) _ _ _
    rw [o1, o2, q4 b (by omega)]
    exact rfB_c (γ1 := gSea γ bb nb) (el1 := el) hT hB (hb b (by omega)) hFF rfl rfl ⟨rfl, rfl⟩
end RFB
def rfP (γ el : Nat → Nat → Nat) (F : Nat → va_E) (c : Nat) (Q : gPg) : Prop := (fI (F c) 3).toInt = (Q.1 : Int) ∧ rfI γ el F c Q.1 Q
section OKG
variable {γ γ1 el : Nat → Nat → Nat} {F : Nat → va_E} {c j : Nat} {Q : gPg}
theorem rfI_g (h : rfI γ el F c j Q) (e2 : γ1 2 = γ 2) (e14 : γ1 14 = γ 14) (e15 : γ1 15 = γ 15) : rfI γ1 el F c j Q := by
  unfold rfI rfB rfR at h ⊢
  rw [e2, e14, e15]
  exact h
end OKG
/-- the model's cell -/
abbrev mdE (γ : Nat → Nat → Nat) (r28 r35 : Nat) (v9 v10 v11 v12 v13 v14 v23 v24 v25 v26 v27 v30 v32 v33 v34 : Int32) : va_E := .inr (22, [.ref (γ 9 0), .ref (γ 9 1), .ref (γ 9 2), .ref (γ 9 3), .ref (γ 9 4), .ref (γ 9 5), .ref (γ 9 6), .ref (γ 9 7), .ref (γ 9 8), .int v9, .int v10, .int v11, .int v12, .int v13, .int v14, .ref (γ 9 15), .ref (γ 9 16), .ref (γ 9 17), .ref (γ 9 18), .ref (γ 9 19), .ref (γ 9 20), .ref (γ 9 21), .ref (γ 9 22), .int v23, .int v24, .int v25, .int v26, .int v27, .ref r28, .ref (γ 9 29), .int v30, .ref (γ 9 31), .int v32, .int v33, .int v34, .ref r35])
def mdK (γ : Nat → Nat → Nat) (r28 r35 : Nat) : Prop := rKd γ r28 26 ∧ rKd γ r35 27 ∧ rKd γ (γ 9 0) 12 ∧ rKd γ (γ 9 1) 13 ∧ rKd γ (γ 9 2) 35 ∧ rKd γ (γ 9 3) 14 ∧ rKd γ (γ 9 4) 16 ∧ rKd γ (γ 9 5) 17 ∧ rKd γ (γ 9 6) 9 ∧ rKd γ (γ 9 7) 9 ∧ rKd γ (γ 9 8) 9 ∧ rKd γ (γ 9 15) 18 ∧ rKd γ (γ 9 16) 19 ∧ rKd γ (γ 9 17) 20 ∧ rKd γ (γ 9 18) 15 ∧ rKd γ (γ 9 19) 21 ∧ rKd γ (γ 9 20) 22 ∧ rKd γ (γ 9 21) 23 ∧ rKd γ (γ 9 22) 24 ∧ rKd γ (γ 9 29) 28 ∧ rKd γ (γ 9 31) 25 ∧ rF1 γ (γ 9 6) 0 ∧ rF1 γ (γ 9 7) 1 ∧ rF1 γ (γ 9 8) 2
section MDE
variable {D : va_G} {I : FieldType → ClassId} {P P1 : List Nat} {F F1 : Nat → va_E} {γ el : Nat → Nat → Nat} {m r28 r35 : Nat} {v9 v10 v11 v12 v13 v14 v23 v24 v25 v26 v27 v30 v32 v33 v34 : Int32}
theorem rk10_m {e : va_E} (h : rk_10 γ e) : ∃ (r28 r35 : Nat) (v9 v10 v11 v12 v13 v14 v23 v24 v25 v26 v27 v30 v32 v33 v34 : Int32), e = mdE γ r28 r35 v9 v10 v11 v12 v13 v14 v23 v24 v25 v26 v27 v30 v32 v33 v34 ∧ rM1 v9 v10 v11 v14 v25 v26 v27 v32 v34 ∧ mdK γ r28 r35 ∧ rM2 γ v9 v10 v34 r35 := by
  obtain ⟨r28, r35, v9, v10, v11, v12, v13, v14, v23, v24, v25, v26, v27, v30, v32, v33, v34, h0, h1, h2, h3, h4, h5, h6, h7, h8, h9, h10, h11, h12, h13, h14, h15, h16, h17, h18, h19, h20, h21, h22, h23, h24, h25, h26⟩ := h
  exact ⟨r28, r35, v9, v10, v11, v12, v13, v14, v23, v24, v25, v26, v27, v30, v32, v33, v34, h0, h1, ⟨h2, h3, h4, h5, h6, h7, h8, h9, h10, h11, h12, h13, h14, h15, h16, h17, h18, h19, h20, h21, h22, h23, h24, h25⟩, h26⟩
theorem rk10_b {e : va_E} (h0 : e = mdE γ r28 r35 v9 v10 v11 v12 v13 v14 v23 v24 v25 v26 v27 v30 v32 v33 v34) (h1 : rM1 v9 v10 v11 v14 v25 v26 v27 v32 v34) (hk : mdK γ r28 r35) (h26 : rM2 γ v9 v10 v34 r35) : rk_10 γ e := by
  obtain ⟨h2, h3, h4, h5, h6, h7, h8, h9, h10, h11, h12, h13, h14, h15, h16, h17, h18, h19, h20, h21, h22, h23, h24, h25⟩ := hk
  exact ⟨r28, r35, v9, v10, v11, v12, v13, v14, v23, v24, v25, v26, v27, v30, v32, v33, v34, h0, h1, h2, h3, h4, h5, h6, h7, h8, h9, h10, h11, h12, h13, h14, h15, h16, h17, h18, h19, h20, h21, h22, h23, h24, h25, h26⟩
/-- the model's cell was written -/
theorem RS_md (hT : RS D I P F γ el) (hm : γ 0 m = 10) (n : ∀ b, b ≠ m → F1 b = F b) (h0 : F1 m = mdE γ r28 r35 v9 v10 v11 v12 v13 v14 v23 v24 v25 v26 v27 v30 v32 v33 v34) (h1 : rM1 v9 v10 v11 v14 v25 v26 v27 v32 v34) (hk : mdK γ r28 r35) (h2 : rM2 γ v9 v10 v34 r35) : RS D I P F1 γ el :=
  RS_set hT n hm (by decide) (rk10_b h0 h1 hk h2)
end MDE
