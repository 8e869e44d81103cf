/-! a program that is read: what is known of its blocks -/
abbrev blkK : List Nat := [101, 102, 103, 202]
abbrev blkF : List Nat := [3, 4, 5, 6, 7, 8, 9, 101, 102, 103, 202]
theorem blkKF : ∀ j, j ∈ blkK → j ∈ blkF := by decide
def prI (γ el : Nat → Nat → Nat) (F : Nat → va_E) (f c j : Nat) (fg : Nat → Int32) (gn rp rw : Int32) : Prop :=
  (γ 0 c = 9 ∧ γ 1 c = f ∧ γ 6 f = 0 ∧ γ 19 f = 40) ∧ rw.toInt = (γ 16 f : Int) ∧ (fI (F c) 3).toInt = (j : Int) ∧ (∀ i, i < j → γ 0 (el (γ 14 c) i) = 2) ∧ (∀ x, γ 0 x = 2 → γ 1 x = f → glI fg gn (fI (F x) 2) ∧ glI fg gn (fI (F x) 3)) ∧ (0 ≤ rp.toInt ∨ ((j : Int) ≤ 40 ∧ rw.toInt ≤ 160))
def prL (γ el : Nat → Nat → Nat) (F : Nat → va_E) (f c j bb : Nat) (fg : Nat → Int32) (gn rp rw : Int32) : Prop :=
  (γ 0 c = 9 ∧ γ 1 c = f ∧ γ 6 f = 0 ∧ γ 19 f = 40) ∧ rw.toInt = (γ 16 f : Int) ∧ (fI (F c) 3).toInt = (j : Int) + 1 ∧ (∀ i, i < j → γ 0 (el (γ 14 c) i) = 2) ∧ (∀ x, γ 0 x = 2 → γ 1 x = f → glI fg gn (fI (F x) 2) ∧ glI fg gn (fI (F x) 3)) ∧ (0 ≤ rp.toInt ∨ ((j : Int) + 1 ≤ 40 ∧ rw.toInt ≤ 160)) ∧ (γ 0 bb = 202 ∧ γ 1 bb = f ∧ el (γ 14 c) j = bb ∧ j < γ 2 (γ 14 c))
def blP (D : va_G) (I : FieldType → ClassId) (P : List Nat) (F : Nat → va_E) (γ el : Nat → Nat → Nat) (f c R tp : Nat) (n a rw : Int32) (N j : Nat) : Option Value → va_W → Nat → Nat → Prop := fun r w dc ds => ∃ (P1 : List Nat) (F1 : Nat → va_E) (γ1 el1 : Nat → Nat → Nat) (g1 gp1 tx1 : Nat) (a1 k1 pl1 v1 b1 rp1 ru1 rw1 gn1 : Int32) (N1 : Nat) (fg1 fp1 : Nat → Int32),
  r = none ∧ w = va_pl P1 F1 ∧ rSk f blkK blkF D I P F γ el P1 F1 γ1 el1 ∧ rNu f γ γ1 ∧ rdI I P1 F1 γ1 R tp g1 gp1 tx1 n a1 k1 pl1 v1 b1 rp1 ru1 rw1 gn1 N1 fg1 fp1 ∧ prI γ1 el1 F1 f c (j + 1) fg1 gn1 rp1 rw1 ∧ (2 * (rw1.toInt - rw.toInt) + 2 ≤ a1.toInt - a.toInt ∧ (k1.toInt = 0 ∨ 2 * (rw1.toInt - rw.toInt) + 3 ≤ a1.toInt - a.toInt) ∧ rw.toInt ≤ rw1.toInt ∧ N ≤ N1) ∧
  18 * (dc : Int) + (rPh γ el f : Int) ≤ (rPh γ1 el1 f : Int) + 18 * (16 * (a1.toInt - a.toInt) + 8 * (rw1.toInt - rw.toInt) + 4) ∧ (ds : Int) + (rPh γ el f : Int) ≤ (rPh γ1 el1 f : Int) + 160 * (a1.toInt - a.toInt) + 64 * (rw1.toInt - rw.toInt) + 4 * ((N1 : Int) - N) ∧ (rM γ1 el1 f : Int) ≤ (rM γ el f : Int) + 123 + 36 * (rw1.toInt - rw.toInt)
def blX (D : va_G) (I : FieldType → ClassId) (P : List Nat) (F : Nat → va_E) (γ el : Nat → Nat → Nat) (f : Nat) (n a : Int32) (N : Nat) : String → Nat → va_W → Nat → Nat → Prop := fun E q w dc ds => ∃ (P1 : List Nat) (F1 : Nat → va_E) (γ1 el1 : Nat → Nat → Nat),
  E = "SpillForgeModel$Wrong" ∧ w = va_pl P1 F1 ∧ rSk f blkK blkF D I P F γ el P1 F1 γ1 el1 ∧ rNu f γ γ1 ∧ q ∈ P1 ∧ wrF F1 q ∧ 18 * (dc : Int) + (rPh γ el f : Int) ≤ (rPh γ1 el1 f : Int) + 360 * (n.toInt - a.toInt) + 720 ∧ (ds : Int) + (rPh γ el f : Int) ≤ (rPh γ1 el1 f : Int) + 192 * (n.toInt - a.toInt) + 16 * (N : Int) + 400 ∧ (rM γ1 el1 f : Int) ≤ (rM γ el f : Int) + 18 * (n.toInt - a.toInt) + 200
section PRL
variable {D : va_G} {I : FieldType → ClassId} {P P0 P1 W : List Nat} {F F0 F1 : Nat → va_E} {γ γ0 γ1 γ2 el el0 el1 : Nat → Nat → Nat} {R tp g gp tx f c j bb : Nat} {n a k pl v b rp ru rw gn rp1 rw1 gn1 : Int32} {N : Nat} {fg fp fg1 : Nat → Int32} {K2 KF2 : List Nat}
theorem rNu_t (h : rNu f γ γ1) (g : rNu f γ1 γ2) : rNu f γ γ2 := ⟨g.1.trans h.1, g.2.1.trans h.2.1, g.2.2.1.trans h.2.2.1, g.2.2.2.trans h.2.2.2⟩
theorem rNu_r : rNu f γ γ := ⟨rfl, rfl, rfl, rfl⟩
theorem prL_ow (hT : RS D I P F γ el) (h : prL γ el F f c j bb fg gn rp rw) (hfr : rFr W P F F1) (hW : ∀ w, w ∈ W → γ 0 w ≠ 9 ∧ γ 0 w ≠ 2) (hr : 0 ≤ rp1.toInt ∨ ((j : Int) + 1 ≤ 40 ∧ rw.toInt ≤ 160)) : prL γ el F1 f c j bb fg gn rp1 rw := by
  obtain ⟨⟨c0, c1, c6, c19⟩, h16, hmd, hB2, hGI, hrp, hb⟩ := h
  refine ⟨⟨c0, c1, c6, c19⟩, h16, ?_, hB2, fun x hx hf => ?_, hr, hb⟩
  · rw [hfr c (hT.1 c (by omega)) (fun z => (hW c z).1 c0)]; exact hmd
  · rw [hfr x (hT.1 x (by omega)) (fun z => (hW x z).2 hx)]; exact hGI x hx hf
theorem prI_ow (hT : RS D I P F γ el) (h : prI γ el F f c j fg gn rp rw) (hfr : rFr W P F F1) (hW : ∀ w, w ∈ W → γ 0 w ≠ 9 ∧ γ 0 w ≠ 2) (hr : 0 ≤ rp1.toInt ∨ ((j : Int) ≤ 40 ∧ rw.toInt ≤ 160)) : prI γ el F1 f c j fg gn rp1 rw := by
  obtain ⟨⟨c0, c1, c6, c19⟩, h16, hmd, hB2, hGI, hrp⟩ := h
  refine ⟨⟨c0, c1, c6, c19⟩, h16, ?_, hB2, fun x hx hf => ?_, hr⟩
  · rw [hfr c (hT.1 c (by omega)) (fun z => (hW c z).1 c0)]; exact hmd
  · rw [hfr x (hT.1 x (by omega)) (fun z => (hW x z).2 hx)]; exact hGI x hx hf
theorem prL_st (h : prL γ el F f c j bb fg gn rp rw) (st : rSt f K2 KF2 D I P F γ el P1 F1 γ1 el1) (hK : 9 ∉ K2 ∧ 2 ∉ K2 ∧ 202 ∉ K2) (hKF : 2 ∉ KF2) (h2 : ∀ a, γ1 0 a = 2 → γ 0 a = 2) (hnu : rNu f γ γ1) (hl : γ1 2 (γ 14 c) = γ 2 (γ 14 c) ∧ el1 (γ 14 c) = el (γ 14 c)) (hm : (fI (F1 c) 3).toInt = (fI (F c) 3).toInt) (hr : rw1.toInt = (γ1 16 f : Int)) (hrp1 : 0 ≤ rp.toInt ∨ ((j : Int) + 1 ≤ 40 ∧ rw1.toInt ≤ 160)) : prL γ1 el1 F1 f c j bb fg gn rp rw1 := by
  obtain ⟨⟨c0, c1, c6, c19⟩, h16, hmd, hB2, hGI, hrp, ⟨b0, b1, bj, bj2⟩⟩ := h
  have sk := rSk_of st
  have e14 : γ1 14 c = γ 14 c := (rSk_s sk (show rKd γ c 9 from c0) (by decide)).2.1
  refine ⟨⟨rSk_k sk (show rKd γ c 9 from c0) (by decide) hK.1, rSk_1 sk (show rKd γ c 9 from c0) (by decide) c1, hnu.1.trans c6, hnu.2.2.1.trans c19⟩, hr, hm.trans hmd, fun i hi => ?_, fun x hx hf => ?_, hrp1, ⟨rSk_k sk (show rKd γ bb 202 from b0) (by decide) hK.2.2, rSk_1 sk (show rKd γ bb 202 from b0) (by decide) b1, ?_, ?_⟩⟩
  · rw [e14, hl.2]
    exact rSk_k sk (show rKd γ _ 2 from hB2 i hi) (by decide) hK.2.1
  · have hx0 := h2 x hx
    have hs := (rSk_s sk (show rKd γ x 2 from hx0) (by decide)).1
    rw [rSk_F sk (show rKd γ x 2 from hx0) (by decide) hKF]
    exact hGI x hx0 (hs ▸ hf)
  · rw [e14, hl.2]; exact bj
  · rw [e14, hl.1]; exact bj2
theorem prL_bl {dc ds : Nat} (hT : RS D I P F γ el) (h : prI γ el F f c j fg gn rp rw) (hq : rBq D I P F γ el f c P1 F1 γ1 el1 bb dc ds) (h2 : ∀ a, γ1 0 a = 2 → γ 0 a = 2) (hr : 0 ≤ rp.toInt ∨ ((j : Int) + 1 ≤ 40 ∧ rw.toInt ≤ 160)) : prL γ1 el1 F1 f c j bb fg gn rp rw := by
  obtain ⟨⟨c0, c1, c6, c19⟩, h16, hmd, hB2, hGI, hrp⟩ := h
  obtain ⟨st, b0, b1, ⟨j', m1, m2, m3, m4, m5, m6⟩, n0, g16, g18, hnu, hl, h45, -⟩ := hq
  have ej : j' = j := by omega
  subst ej
  have sk := rSk_of st
  have e14 : γ1 14 c = γ 14 c := (rSk_s sk (show rKd γ c 9 from c0) (by decide)).2.1
  refine ⟨⟨rSk_k sk (show rKd γ c 9 from c0) (by decide) (by decide), rSk_1 sk (show rKd γ c 9 from c0) (by decide) c1, hnu.1.trans c6, hnu.2.2.1.trans c19⟩, by omega, m1, fun i hi => ?_, fun x hx hf => ?_, hr, ⟨b0, b1, by rw [e14]; exact m4, by rw [e14]; exact m3⟩⟩
  · rw [e14, m6 i hi]
    exact rSk_k sk (show rKd γ _ 2 from hB2 i hi) (by decide) (by decide)
  · have hx0 := h2 x hx
    have hs := (rSk_s sk (show rKd γ x 2 from hx0) (by decide)).1
    rw [rSk_F sk (show rKd γ x 2 from hx0) (by decide) (by decide)]
    exact hGI x hx0 (hs ▸ hf)
theorem glI_e {x y : Int32} (h : glE fg fg1 gn gn1 x y) (hg : gn.toInt ≤ gn1.toInt) {z : Int32} (q : glI fg gn z) : glI fg1 gn1 z := by
  rcases q with q | ⟨j, q1, q2⟩
  · exact Or.inl q
  · exact Or.inr ⟨j, by omega, (h.1 j q1).trans q2⟩
theorem rsz (hT : RS D I P F γ el) (hc : γ 0 c = 9) (hcf : γ 1 c = f) : rPh γ el f + 100 ≤ rM γ el f ∧ 18 * γ 2 (γ 15 c) ≤ rPh γ el f ∧ 54 * γ 2 (γ 14 c) ≤ rPh γ el f ∧ rPh γ el f + 2 * γ 13 (γ 15 c) + 100 ≤ rM γ el f ∧ rPh γ el f + 2 * γ 13 (γ 14 c) + 100 ≤ rM γ el f := by
  obtain ⟨h1, h2, -⟩ := rM_ge hT hc hcf
  have e := (rc_at hT hc hcf).1
  have h3 : rPh γ el f = rPhc γ el (γ 14 c) (γ 15 c) := by unfold rPh; rw [e]
  unfold rPhc at h3
  omega
theorem rsl {lb i : Nat} (hT : RS D I P F γ el) (hc : γ 0 c = 9) (hcf : γ 1 c = f) (hl : γ 0 lb = 3) (hi : i < γ 2 (γ 14 c)) (hli : γ 14 (el (γ 14 c) i) = lb) : rPh γ el f + 2 * γ 13 lb + 100 ≤ rM γ el f ∧ 4 * γ 13 lb ≤ rPh γ el f ∧ γ 2 lb ≤ γ 13 lb := by
  obtain ⟨-, -, h1⟩ := rM_ge hT hc hcf
  have h1 := h1 i hi
  have e := (rc_at hT hc hcf).1
  have h3 : rPh γ el f = rPhc γ el (γ 14 c) (γ 15 c) := by unfold rPh; rw [e]
  unfold rPhc at h3
  have h4 := rsum_t (f := fun i => 4 * γ 13 (γ 14 (el (γ 14 c) i))) hi
  have h4 : 4 * γ 13 (γ 14 (el (γ 14 c) i)) ≤ rsum (fun i => 4 * γ 13 (γ 14 (el (γ 14 c) i))) (γ 2 (γ 14 c)) := h4
  rw [hli] at h1 h4
  refine ⟨h1, by omega, ?_⟩
  obtain ⟨⟨m, z, e, v1, v2, v3, v4, v5⟩, v6⟩ := show rk_3 D I γ el F lb from RS_o hT hl
  rcases v4 with ⟨e0, s0, c0⟩ | ⟨x1, x2, n, g, y1, y2, y3, y4, y5, y6⟩
  · omega
  · omega
/-- a block is read to its end -/
theorem blP_of {a0 a1 k1 pl1 v1 b1 ru1 rw0 fi se : Int32} {g1 gp1 tx1 lb nb N1 dc ds cs sl : Nat} {fp1 : Nat → Int32} (hk : rSk f blkK blkF D I P0 F0 γ0 el0 P F γ el) (hnu : rNu f γ0 γ) (hL : prL γ el F f c j bb fg gn rp rw) (hR : γ 0 R = 0 ∧ γ 0 g = 0 ∧ γ 0 gp = 0)
    (hs : rSub P P1) (hfr : rFr [bb, nb, R, g, gp] P F F1) (nb0 : γ 0 nb = 101) (hT1 : RS D I P1 F1 γ el) (hd1 : rdI I P1 F1 γ R tp g1 gp1 tx1 n a1 k1 pl1 v1 b1 rp ru1 rw gn1 N1 fg1 fp1) (hFb : F1 bb = .inr (17, [.ref lb, .ref nb, .int fi, .int se])) (bfi : gB fi 0 39) (bse : gB se 0 39) (hRn : rkR (F1 nb)) (h1n : rk_1 γ nb (F1 nb)) (hgl : glE fg fg1 gn gn1 fi se) (hgn : gn.toInt ≤ gn1.toInt)
    (h1 : 2 * (rw.toInt - rw0.toInt) + 2 ≤ a1.toInt - a0.toInt) (h2 : k1.toInt = 0 ∨ 2 * (rw.toInt - rw0.toInt) + 3 ≤ a1.toInt - a0.toInt) (h3 : rw0.toInt ≤ rw.toInt) (h4 : N ≤ N1)
    (h5 : 18 * ((cs + dc : Nat) : Int) + (rPh γ0 el0 f : Int) ≤ (rPh γ el f : Int) + 18 * (16 * (a1.toInt - a0.toInt) + 8 * (rw.toInt - rw0.toInt) + 4)) (h6 : ((sl + ds : Nat) : Int) + (rPh γ0 el0 f : Int) ≤ (rPh γ el f : Int) + 160 * (a1.toInt - a0.toInt) + 64 * (rw.toInt - rw0.toInt) + 4 * ((N1 : Int) - N)) (h7 : (rM γ el f : Int) ≤ (rM γ0 el0 f : Int) + 123 + 36 * (rw.toInt - rw0.toInt)) :
    blP D I P0 F0 γ0 el0 f c R tp n a0 rw0 N j none (va_pl P1 F1) (cs + dc) (sl + ds) := by
  obtain ⟨⟨c0, c1, c6, c19⟩, h16, hmd, hB2, hGI, hrp, ⟨b0, b1', bj, bj2⟩⟩ := hL
  have hT := hk.1
  have h202 : rk_202 γ bb (F1 bb) := RS_o hT1 b0
  have sk1 : rSk f blkK blkF D I P0 F0 γ0 el0 P1 F1 γ el := rSk_ow hk hs hfr (wm_c (Or.inr (fit_202 b0 h202)) (wm_c (Or.inr (fit_101 nb0 hRn)) (wm_c (Or.inl hR.1) (wm_c (Or.inl hR.2.1) (wm_c (Or.inl hR.2.2) wm_n))))) (wm_c (Or.inr (by rw [b0]; decide)) (wm_c (Or.inr (by rw [nb0]; decide)) (wm_c (Or.inl hR.1) (wm_c (Or.inl hR.2.1) (wm_c (Or.inl hR.2.2) wm_n))))) blkKF
  have st := St_seal hT1 b0 b1' hFb c0 c1 (by have := bfi.2; omega) (by have := bse.2; omega) c6 h1n
  have kn : ∀ x, x ≠ bb → x ≠ nb → gSea γ bb nb 0 x = γ 0 x := fun x q1 q2 => (if_neg q1).trans (if_neg q2)
  have kd : ∀ x k, γ 0 x = k → k ≠ 202 → k ≠ 101 → gSea γ bb nb 0 x = k := fun x k q q1 q2 => (kn x (fun e => q1 (by rw [← q, e]; exact b0)) (fun e => q2 (by rw [← q, e]; exact nb0))).trans q
  obtain ⟨⟨r1, r2, r3⟩, ⟨g1m, g2, g3⟩, ⟨p1, p2, p3⟩, ⟨t1, t2⟩, hb, hc, hdd⟩ := id hd1
  refine ⟨P1, F1, gSea γ bb nb, el, g1, gp1, tx1, a1, k1, pl1, v1, b1, rp, ru1, rw, gn1, N1, fg1, fp1, rfl, rfl, rSk_tr sk1 (rSk_of st) (by decide) (by decide) blkKF, hnu, rdI_z hd1 rSub_rf (fun _ _ _ => rfl) (fun x _ q => kd x 0 q (by decide) (by decide)) (kd tp 25 t1 (by decide) (by decide)), ⟨⟨kd c 9 c0 (by decide) (by decide), c1, c6, c19⟩, h16, ?_, fun i hi => ?_, fun x hx hf => ?_, by omega⟩, ⟨h1, h2, h3, h4⟩, h5, h6, h7⟩
  · rw [hfr c (hT.1 c (by omega)) (nm_c (fun e => by rw [e, b0] at c0; cases c0) (nm_c (fun e => by rw [e, nb0] at c0; cases c0) (nm_c (fun e => by rw [e, hR.1] at c0; cases c0) (nm_c (fun e => by rw [e, hR.2.1] at c0; cases c0) (nm_c (fun e => by rw [e, hR.2.2] at c0; cases c0) nm_n)))))]
    omega
  · by_cases q : i < j
    · exact kd _ 2 (hB2 i q) (by decide) (by decide)
    · have : i = j := by omega
      rw [this]
      show gSea γ bb nb 0 (el (γ 14 c) j) = 2
      rw [bj]
      exact if_pos rfl
  · by_cases q : x = bb
    · rw [q, hFb]
      exact ⟨hgl.2 fi (Or.inl rfl), hgl.2 se (Or.inr rfl)⟩
    · have hx' : (if x = bb then 2 else if x = nb then 1 else γ 0 x) = 2 := hx
      rw [if_neg q] at hx'
      have q2 : x ≠ nb := fun e => by rw [if_pos e] at hx'; cases hx'
      rw [if_neg q2] at hx'
      rw [hfr x (hT.1 x (by omega)) (nm_c q (nm_c q2 (nm_c (fun e => by rw [e, hR.1] at hx'; cases hx') (nm_c (fun e => by rw [e, hR.2.1] at hx'; cases hx') (nm_c (fun e => by rw [e, hR.2.2] at hx'; cases hx') nm_n)))))]
      have := hGI x hx' hf
      exact ⟨glI_e hgl hgn this.1, glI_e hgl hgn this.2⟩
end PRL
