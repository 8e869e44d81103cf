/-! a reader beside the state: its cells have no kind -/
def glI (fg : Nat → Int32) (gn v : Int32) : Prop := v.toInt = 0 ∨ ∃ j : Nat, (j : Int) < gn.toInt ∧ fg j = v
abbrev gTz := Nat × gTx
def rdI (I : FieldType → ClassId) (P : List Nat) (F : Nat → va_E) (γ : Nat → Nat → Nat) (R tp g gp : Nat) (tx : gTz) (n a k pl v b rp ru rw gn : Int32) (N : Nat) (fg fp : Nat → Int32) : Prop :=
  (R ∈ P ∧ F R = .inr (19, [.ref tp, .int n, .int a, .int k, .int pl, .int v, .int b, .ref tx.1, .int rp, .int ru, .int rw, .ref gp, .ref g, .int gn]) ∧ γ 0 R = 0) ∧
  (g ∈ P ∧ F g = .inl (I .int, N, .inl fg) ∧ γ 0 g = 0) ∧ (gp ∈ P ∧ F gp = .inl (I .int, N, .inl fp) ∧ γ 0 gp = 0) ∧ (γ 0 tp = 99 ∧ g ≠ gp) ∧
  (gB n 0 8192 ∧ gB a 0 8192 ∧ gB k 0 6 ∧ gB pl 0 8192 ∧ gB b 0 6 ∧ gB rp (-1) 8192 ∧ gB ru 0 4 ∧ gB rw 0 1000000 ∧ gB gn 0 1000000) ∧
  (a.toInt ≤ n.toInt ∧ tP I P F k tx.1 g gp tx.2 ∧ vP k v ∧ glP fp) ∧ ((N : Int) ≤ 2 * gn.toInt + 16 ∧ gn.toInt ≤ (N : Int) ∧ 16 ≤ (N : Int) ∧ gn.toInt ≤ a.toInt ∧ rw.toInt ≤ a.toInt)
section RDI
variable {D : va_G} {I : FieldType → ClassId} {P P0 P1 W : List Nat} {F F0 F1 : Nat → va_E} {γ γ0 γ1 el el0 : Nat → Nat → Nat} {R tp g gp f : Nat} {tx tx1 : gTz} {n a k pl v b rp ru rw gn a1 k1 pl1 v1 b1 rp1 ru1 rw1 : Int32} {N : Nat} {fg fp : Nat → Int32} {K KF : List Nat}
theorem tP_of {g1 g2 : Nat} (h : tP I P F k tx.1 g1 g2 tx.2) (hs : rSub P P1) (ho : ∀ q xs, q ∈ P → F q = .inr (0, xs) → F1 q = F q) (hb : ∀ q m (z : Nat → Int32), q ∈ P → q ≠ g1 → q ≠ g2 → F q = .inl (I .byte, m, .inl z) → F1 q = F q) : tP I P1 F1 k tx.1 g1 g2 tx.2 := by
  have w : ∀ m, sP I P F tx.1 m g1 g2 tx.2 → sP I P1 F1 tx.1 m g1 g2 tx.2 := fun m hm => by
    obtain ⟨u, hh, y, c1, c2, c3, c4, c5, c6, c7, c8, c9⟩ := hm
    exact ⟨u, hh, y, hs _ c1, (ho _ _ c1 c2).trans c2, hs _ c3, (hb _ _ _ c3 c8 c9 c4).trans c4, c5, c6, c7, c8, c9⟩
  exact ⟨fun e => w _ (h.1 e), fun e => w _ (h.2 e)⟩
theorem tP_fz {g1 g2 : Nat} (h : tP I P F k tx.1 g1 g2 tx.2) (hs : rSub P P1) (hz : rFz P F F1) : tP I P1 F1 k tx.1 g1 g2 tx.2 :=
  tP_of h hs (fun q xs hq e => hz q hq (Or.inl ⟨_, _, e, by decide, by decide, by decide, by decide⟩)) (fun q m z hq _ _ e => hz q hq (Or.inr ⟨_, _, _, e⟩))
theorem rdI_z (hd : rdI I P F γ R tp g gp tx n a k pl v b rp ru rw gn N fg fp) (hs : rSub P P1) (hz : rFz P F F1) (h0 : ∀ x, x ∈ P → γ 0 x = 0 → γ1 0 x = 0) (ht : γ1 0 tp = 99) : rdI I P1 F1 γ1 R tp g gp tx n a k pl v b rp ru rw gn N fg fp := by
  obtain ⟨⟨r1, r2, r3⟩, ⟨g1, g2, g3⟩, ⟨p1, p2, p3⟩, ⟨t1, t2⟩, hb, ⟨c1, c2, c3, c4⟩, hc⟩ := hd
  exact ⟨⟨hs _ r1, (hz _ r1 (Or.inl ⟨_, _, r2, by decide, by decide, by decide, by decide⟩)).trans r2, h0 _ r1 r3⟩, ⟨hs _ g1, (hz _ g1 (Or.inr ⟨_, _, _, g2⟩)).trans g2, h0 _ g1 g3⟩, ⟨hs _ p1, (hz _ p1 (Or.inr ⟨_, _, _, p2⟩)).trans p2, h0 _ p1 p3⟩, ⟨ht, t2⟩, hb, ⟨c1, tP_fz c2 hs hz, c3, c4⟩, hc⟩
theorem rdI_n (hd : rdI I P F γ R tp g gp tx n a k pl v b rp ru rw gn N fg fp) (hs : rSub P P1) (hg : F1 g = F g) (hgp : F1 gp = F gp)
    (he : F1 R = .inr (19, [.ref tp, .int n, .int a1, .int k1, .int pl1, .int v1, .int b1, .ref tx1.1, .int rp1, .int ru1, .int rw1, .ref gp, .ref g, .int gn])) (ba : gB a1 0 8192) (bk : gB k1 0 6) (bpl : gB pl1 0 8192) (bb : gB b1 0 6) (brp : gB rp1 (-1) 8192) (bru : gB ru1 0 4) (brw : gB rw1 0 1000000)
    (ha : a.toInt ≤ a1.toInt) (hn : a1.toInt ≤ n.toInt) (hr : rw1.toInt ≤ a1.toInt) (ht : tP I P1 F1 k1 tx1.1 g gp tx1.2) (hv : vP k1 v1) : rdI I P1 F1 γ R tp g gp tx1 n a1 k1 pl1 v1 b1 rp1 ru1 rw1 gn N fg fp := by
  obtain ⟨⟨r1, r2, r3⟩, ⟨g1, g2, g3⟩, ⟨p1, p2, p3⟩, ht0, ⟨bn, -, -, -, -, -, -, -, bgn⟩, ⟨c1, c2, c3, c4⟩, ⟨d1, d2, d3, d4, d5⟩⟩ := hd
  exact ⟨⟨hs _ r1, he, r3⟩, ⟨hs _ g1, hg.trans g2, g3⟩, ⟨hs _ p1, hgp.trans p2, p3⟩, ht0, ⟨bn, ba, bk, bpl, bb, brp, bru, brw, bgn⟩, ⟨hn, ht, hv, c4⟩, ⟨d1, d2, d3, by omega, hr⟩⟩
/-- the state behind a call that wrote cells without a kind, or cells that fit again -/
theorem RS_ow (hT : RS D I P F γ el) (hs : rSub P P1) (n : rFr W P F F1) (hW : ∀ w, w ∈ W → γ 0 w = 0 ∨ ((γ 0 w ≠ 6 ∧ γ 0 w ≠ 7 ∧ γ 0 w ≠ 8) ∧ rFit D I γ el F1 w (γ 0 w))) : RS D I P1 F1 γ el := by
  refine ⟨fun a h => hs a (hT.1 a h), fun x => ?_⟩
  by_cases h0 : γ 0 x = 0
  · rw [h0]; exact trivial
  · by_cases hx : x ∈ W
    · rcases hW x hx with q | q
      · exact absurd q h0
      · exact q.2
    · refine rFit_c _ (n x (hT.1 x h0) hx) (fun e he => n e (hT.1 e (by omega)) (fun hw => ?_)) (hT.2 x)
      rcases hW e hw with q | q
      · omega
      · omega
theorem rSk_ow (h : rSk f K KF D I P0 F0 γ0 el0 P F γ el) (hs : rSub P P1) (n : rFr W P F F1) (hW : ∀ w, w ∈ W → γ 0 w = 0 ∨ ((γ 0 w ≠ 6 ∧ γ 0 w ≠ 7 ∧ γ 0 w ≠ 8) ∧ rFit D I γ el F1 w (γ 0 w))) (hF : ∀ w, w ∈ W → γ 0 w = 0 ∨ (γ 0 w ∈ KF ∧ (γ 1 w = f ∨ (10 ≤ γ 0 w ∧ γ 0 w < 100)))) (hK : ∀ j, j ∈ K → j ∈ KF) : rSk f K KF D I P0 F0 γ0 el0 P1 F1 γ el :=
  rSk_tr h (K2 := []) (KF2 := KF) ⟨RS_ow h.1 hs n hW, hs, rEx_rf, fun x h0 hx => n x (h.1.1 x h0) (fun hw => (hF x hw).elim h0 (fun q => hx.elim (fun z => z q.1) (fun z => q.2.elim (fun y => z.2.1 y) (fun y => by have z2 := z.2.2; omega))))⟩ (fun _ z => nomatch z) (fun _ z => z) hK
theorem wm_n {p : Nat → Prop} : ∀ w, w ∈ ([] : List Nat) → p w := fun _ h => nomatch h
theorem wm_c {p : Nat → Prop} {x : Nat} (h : p x) (t : ∀ w, w ∈ W → p w) : ∀ w, w ∈ x :: W → p w := fun w hw => by
  rcases List.mem_cons.mp hw with e | e
  · rw [e]; exact h
  · exact t w e
theorem rFr_n (n : ∀ x, x ≠ R → F1 x = F x) : rFr [R] P F F1 := fun x _ hx => n x (fun e => hx (e ▸ List.mem_cons_self))
theorem fit_101 {x : Nat} (h : γ 0 x = 101) (hf : rkR (F1 x)) : (γ 0 x ≠ 6 ∧ γ 0 x ≠ 7 ∧ γ 0 x ≠ 8) ∧ rFit D I γ el F1 x (γ 0 x) := by rw [h]; exact ⟨by decide, hf⟩
theorem fit_202 {x : Nat} (h : γ 0 x = 202) (hf : rk_202 γ x (F1 x)) : (γ 0 x ≠ 6 ∧ γ 0 x ≠ 7 ∧ γ 0 x ≠ 8) ∧ rFit D I γ el F1 x (γ 0 x) := by rw [h]; exact ⟨by decide, hf⟩
end RDI
section GR
variable {l : Launch} {Rm : Room} {Qf : gFin} {ky : gKey} {pc cs sl i : Nat} {L : List (Nat × Value)} {st : List Value} {D : va_G} {I : FieldType → ClassId} {P : List Nat} {F : Nat → va_E} {γ el : Nat → Nat → Nat} {R tp g gp x : Nat} {tx : gTz} {ft : Nat → Int32} {n a k pl v b rp ru rw gn : Int32} {N : Nat} {fg fp : Nat → Int32}
theorem Gr_is {qs qb : Nat} {bs : List Int32} (hl0 : l.stackTraces = false) (d : decode ky.1 pc = .ok (.invokevirtual i, 3)) (hw : gCw (gV D I) Rm ky.2.2.1 i yX14_is cX14_is 2 (some FieldType.boolean) 2 44 1) (w2 : Cond.instanceMethod yX14_is ∈ (gV D I).2.2.2.2) (w3 : Cond.selects yX14_is.cls yX14_is yX14_is ∈ (gV D I).2.2.2.2)
    (hT : RS D I P F γ el) (hd : rdI I P F γ R tp g gp tx n a k pl v b rp ru rw gn N fg fp) (f1 : F tp = .inl (I .byte, 8192, .inl ft)) (f2 : gF ft (-128) 127) (hbs : ∀ A s H, (gV D I).2.2.2.1 A s H → gSC qs qb bs A s H) (nbs : (bs.length : Int) ≤ 65535) (lbs : gLB bs) (hcs : cs ≤ Rm.cells) (hsl : sl ≤ Rm.slots) (hcat : (st.map fun u => u.category).sum ≤ 8)
    (kk : ∀ o : Int32, gB o 0 1 → isK k o → tr_RReader_is bs k tx.2 o → G (gV D I) l Rm Qf ky (pc + 3) L (.int o :: st) (va_pl P F) cs sl) :
    G (gV D I) l Rm Qf ky pc L (.ref qs :: .ref R :: st) (va_pl P F) cs sl := by
  obtain ⟨⟨r1, r2, r3⟩, ⟨g1, g2, g3⟩, ⟨p1, p2, p3⟩, ⟨t1, t2⟩, ⟨bn, ba, bk, bpl, bb, brp, bru, brw, bgn⟩, ⟨c1, c2, c3, c4⟩, hc⟩ := hd
  refine Gw_callV (As := [.ref qs]) (gV_ok D I) (cp_674517_Reader_is l hl0 D I P F R tp qs qb bs n a k pl v b tx.1 rp ru rw gp g gn ft tx.2 r1 (hT.1 tp (by omega)) r2 f1 hbs nbs lbs bn ba bk bpl bb brp bru brw bgn f2 c2) d hw w2 w3 r1 r2 rfl hcs hsl hcat (fun r w dc ds hp => ?_) (fun _ _ _ _ _ z => z.elim)
  obtain ⟨o, rfl, rfl, hdc, hds, bo, ho, ht⟩ := hp
  exact G_widen (by omega) (by omega) (kk o bo ho ht)
theorem Gr_wI (hl0 : l.stackTraces = false) (d : decode ky.1 pc = .ok (.invokevirtual i, 3)) (hw : gCw (gV D I) Rm ky.2.2.1 i yX14_want_ cX14_want_ 3 (some FieldType.int) 8 177 1) (w2 : Cond.instanceMethod yX14_want_ ∈ (gV D I).2.2.2.2) (w3 : Cond.selects yX14_want_.cls yX14_want_ yX14_want_ ∈ (gV D I).2.2.2.2)
    (hT : RS D I P F γ el) (hd : rdI I P F γ R tp g gp tx n a k pl v b rp ru rw gn N fg fp) (f1 : F tp = .inl (I .byte, 8192, .inl ft)) (f2 : gF ft (-128) 127) (hcs : cs + ((16 * (n.toInt - a.toInt)).toNat + 1) ≤ Rm.cells) (hsl : sl + ((160 * (n.toInt - a.toInt)).toNat + 7) ≤ Rm.slots) (hcat : (st.map fun u => u.category).sum ≤ 8)
    (kk : ∀ P1 F1 a1 k1 pl1 v1 tx1 dc ds, rSub P P1 → rFr [R] P F F1 → RS D I P1 F1 γ el → rdI I P1 F1 γ R tp g gp tx1 n a1 k1 pl1 v1 k rp ru rw gn N fg fp → a.toInt ≤ a1.toInt → prP k1 a a1 → vP 3 v → k.toInt = 3 → dc ≤ (16 * (a1.toInt - a.toInt)).toNat → ds ≤ (160 * (a1.toInt - a.toInt)).toNat → tr_RReader_want2 3 n a k v ft a1 k1 pl1 v1 tx1.2 → G (gV D I) l Rm Qf ky (pc + 3) L (.int v :: st) (va_pl P1 F1) (cs + dc) (sl + ds))
    (kx : ∀ q P1 F1 dc ds, rSub P P1 → rFr [] P F F1 → RS D I P1 F1 γ el → q ∈ P1 → wrF F1 q → dc ≤ (16 * (n.toInt - a.toInt)).toNat + 1 → ds ≤ (160 * (n.toInt - a.toInt)).toNat + 7 → tx_RReader_want2 3 k → GT (gV D I) l Rm Qf ky pc L st "SpillForgeModel$Wrong" q (va_pl P1 F1) (cs + dc) (sl + ds)) :
    G (gV D I) l Rm Qf ky pc L (.int 3 :: .ref R :: st) (va_pl P F) cs sl := by
  have hd0 := hd
  obtain ⟨⟨r1, r2, r3⟩, ⟨g1, g2, g3⟩, ⟨p1, p2, p3⟩, ⟨t1, t2⟩, ⟨bn, ba, bk, bpl, bb, brp, bru, brw, bgn⟩, ⟨c1, c2, c3, c4⟩, ⟨e1, e2, e3, e4, e5⟩⟩ := hd
  refine Gw_callV (As := [.int 3]) (gV_ok D I) (cp_674694_Reader_want l hl0 D I P F R tp 3 n a k pl v b tx.1 rp ru rw gp g gn ft tx.2 r1 (hT.1 tp (by omega)) r2 f1 ⟨by decide, by decide⟩ bn ba bk bpl bb brp bru brw bgn f2 c1 g1 p1 c2 c3) d hw w2 w3 r1 r2 rfl hcs hsl hcat (fun r w dc ds hp => ?_) (fun E q w dc ds hx => ?_)
  · obtain ⟨P1, F1, a1, k1, pl1, v1, tx1, xt1, rfl, rfl, hs, hfr, q1, q2, hdc, hds, ba1, bk1, bpl1, y1, y2, y3, y4, y5, y6, y7, ht⟩ := hp
    exact kk P1 F1 a1 k1 pl1 v1 (tx1, xt1) dc ds hs hfr (RS_ow hT hs hfr (wm_c (Or.inl r3) wm_n)) (rdI_n hd0 hs (hfr g g1 (nm_c (Ne.symm (rn_oa r2 g2)) nm_n)) (hfr gp p1 (nm_c (Ne.symm (rn_oa r2 p2)) nm_n)) q1 ba1 bk1 bpl1 bk brp bru brw y1 y3 (by omega) y4 y5) y1 y2 y6 y7 hdc hds ht
  · obtain ⟨P1, F1, rfl, rfl, hs, hfr, hq, hqn, hwr, hdc, hds, ht⟩ := hx
    exact kx q P1 F1 dc ds hs hfr (RS_ow hT hs hfr wm_n) hq hwr hdc hds ht
theorem Gr_wS {qs qb : Nat} {bs : List Int32} (hl0 : l.stackTraces = false) (d : decode ky.1 pc = .ok (.invokevirtual i, 3)) (hw : gCw (gV D I) Rm ky.2.2.1 i yX14_want cX14_want 2 none 8 177 1) (w2 : Cond.instanceMethod yX14_want ∈ (gV D I).2.2.2.2) (w3 : Cond.selects yX14_want.cls yX14_want yX14_want ∈ (gV D I).2.2.2.2)
    (hT : RS D I P F γ el) (hd : rdI I P F γ R tp g gp tx n a k pl v b rp ru rw gn N fg fp) (f1 : F tp = .inl (I .byte, 8192, .inl ft)) (f2 : gF ft (-128) 127) (hbs : ∀ A s H, (gV D I).2.2.2.1 A s H → gSC qs qb bs A s H) (nbs : (bs.length : Int) ≤ 65535) (lbs : gLB bs) (hcs : cs + ((16 * (n.toInt - a.toInt)).toNat + 1) ≤ Rm.cells) (hsl : sl + ((160 * (n.toInt - a.toInt)).toNat + 7) ≤ Rm.slots) (hcat : (st.map fun u => u.category).sum ≤ 8)
    (kk : ∀ P1 F1 a1 k1 pl1 v1 tx1 dc ds, rSub P P1 → rFr [R] P F F1 → RS D I P1 F1 γ el → rdI I P1 F1 γ R tp g gp tx1 n a1 k1 pl1 v1 k rp ru rw gn N fg fp → a.toInt ≤ a1.toInt → prP k1 a a1 → nzK k → dc ≤ (16 * (a1.toInt - a.toInt)).toNat → ds ≤ (160 * (a1.toInt - a.toInt)).toNat → tr_RReader_want bs n a k v ft tx.2 a1 k1 pl1 v1 tx1.2 → G (gV D I) l Rm Qf ky (pc + 3) L st (va_pl P1 F1) (cs + dc) (sl + ds))
    (kx : ∀ q P1 F1 dc ds, rSub P P1 → rFr [] P F F1 → RS D I P1 F1 γ el → q ∈ P1 → wrF F1 q → dc ≤ (16 * (n.toInt - a.toInt)).toNat + 1 → ds ≤ (160 * (n.toInt - a.toInt)).toNat + 7 → tx_RReader_want bs k tx.2 → GT (gV D I) l Rm Qf ky pc L st "SpillForgeModel$Wrong" q (va_pl P1 F1) (cs + dc) (sl + ds)) :
    G (gV D I) l Rm Qf ky pc L (.ref qs :: .ref R :: st) (va_pl P F) cs sl := by
  have hd0 := hd
  obtain ⟨⟨r1, r2, r3⟩, ⟨g1, g2, g3⟩, ⟨p1, p2, p3⟩, ⟨t1, t2⟩, ⟨bn, ba, bk, bpl, bb, brp, bru, brw, bgn⟩, ⟨c1, c2, c3, c4⟩, ⟨e1, e2, e3, e4, e5⟩⟩ := hd
  refine Gw_callV (As := [.ref qs]) (gV_ok D I) (cp_674599_Reader_want l hl0 D I P F R tp qs qb bs n a k pl v b tx.1 rp ru rw gp g gn ft tx.2 r1 (hT.1 tp (by omega)) r2 f1 hbs nbs lbs bn ba bk bpl bb brp bru brw bgn f2 c1 g1 p1 c2) d hw w2 w3 r1 r2 rfl hcs hsl hcat (fun r w dc ds hp => ?_) (fun E q w dc ds hx => ?_)
  · obtain ⟨P1, F1, a1, k1, pl1, v1, tx1, xt1, rfl, rfl, hs, hfr, q1, q2, hdc, hds, ba1, bk1, bpl1, y1, y2, y3, y4, y5, y6, ht⟩ := hp
    exact kk P1 F1 a1 k1 pl1 v1 (tx1, xt1) dc ds hs hfr (RS_ow hT hs hfr (wm_c (Or.inl r3) wm_n)) (rdI_n hd0 hs (hfr g g1 (nm_c (Ne.symm (rn_oa r2 g2)) nm_n)) (hfr gp p1 (nm_c (Ne.symm (rn_oa r2 p2)) nm_n)) q1 ba1 bk1 bpl1 bk brp bru brw y1 y3 (by omega) y4 y5) y1 y2 y6 hdc hds ht
  · obtain ⟨P1, F1, rfl, rfl, hs, hfr, hq, hqn, hwr, hdc, hds, ht⟩ := hx
    exact kx q P1 F1 dc ds hs hfr (RS_ow hT hs hfr wm_n) hq hwr hdc hds ht
theorem Gr_brk {wt wh : Int32} (hl0 : l.stackTraces = false) (d : decode ky.1 pc = .ok (.invokevirtual i, 3)) (hw : gCw (gV D I) Rm ky.2.2.1 i yX14_breaks cX14_breaks 3 none 0 0 2) (w2 : Cond.instanceMethod yX14_breaks ∈ (gV D I).2.2.2.2) (w3 : Cond.selects yX14_breaks.cls yX14_breaks yX14_breaks ∈ (gV D I).2.2.2.2)
    (hT : RS D I P F γ el) (hd : rdI I P F γ R tp g gp tx n a k pl v b rp ru rw gn N fg fp) (f1 : F tp = .inl (I .byte, 8192, .inl ft)) (f2 : gF ft (-128) 127) (bwt : gB wt 0 4) (bwh : gB wh 0 8192) (hcs : cs ≤ Rm.cells) (hsl : sl ≤ Rm.slots) (hcat : (st.map fun u => u.category).sum ≤ 8)
    (kk : ∀ F1 rp1 ru1, rFr [R] P F F1 → RS D I P F1 γ el → rdI I P F1 γ R tp g gp tx n a k pl v b rp1 ru1 rw gn N fg fp → 0 ≤ rp1.toInt → G (gV D I) l Rm Qf ky (pc + 3) L st (va_pl P F1) cs sl) :
    G (gV D I) l Rm Qf ky pc L (.int wh :: .int wt :: .ref R :: st) (va_pl P F) cs sl := by
  have hd0 := hd
  obtain ⟨⟨r1, r2, r3⟩, ⟨g1, g2, g3⟩, ⟨p1, p2, p3⟩, ⟨t1, t2⟩, ⟨bn, ba, bk, bpl, bb, brp, bru, brw, bgn⟩, ⟨c1, c2, c3, c4⟩, ⟨e1, e2, e3, e4, e5⟩⟩ := hd
  refine Gw_callV (As := [.int wt, .int wh]) (gV_ok D I) (cp_674776_Reader_breaks l hl0 D I P F R tp wt wh n a k pl v b tx.1 rp ru rw gp g gn ft r1 (hT.1 tp (by omega)) r2 f1 bwt bwh bn ba bk bpl bb brp bru brw bgn f2) d hw w2 w3 r1 r2 rfl hcs hsl hcat (fun r w dc ds hp => ?_) (fun _ _ _ _ _ z => z.elim)
  obtain ⟨F1, rp1, ru1, rfl, rfl, hfr, q1, q2, hdc, hds, b1, b2, -⟩ := hp
  refine G_widen (cs' := cs) (sl' := sl) (by omega) (by omega) ?_
  exact kk F1 rp1 ru1 hfr (RS_ow hT rSub_rf hfr (wm_c (Or.inl r3) wm_n)) (rdI_n hd0 rSub_rf (hfr g g1 (nm_c (Ne.symm (rn_oa r2 g2)) nm_n)) (hfr gp p1 (nm_c (Ne.symm (rn_oa r2 p2)) nm_n)) q1 ba bk bpl bb (gB_w b1 (by decide) (by decide)) b2 brw (Int.le_refl _) c1 e5 (tP_of c2 rSub_rf (fun q xs hq e => hfr q hq (nm_c (rn_oo e r2 (by decide)) nm_n)) (fun q m z hq _ _ e => hfr q hq (nm_c (Ne.symm (rn_oa r2 e)) nm_n))) c3) b1.1
theorem Gr_row (hl0 : l.stackTraces = false) (d : decode ky.1 pc = .ok (.invokevirtual i, 3)) (hw : gCw (gV D I) Rm ky.2.2.1 i yX14_row cX14_row 2 none 9 200 1) (w2 : Cond.instanceMethod yX14_row ∈ (gV D I).2.2.2.2) (w3 : Cond.selects yX14_row.cls yX14_row yX14_row ∈ (gV D I).2.2.2.2)
    (hT : RS D I P F γ el) (hd : rdI I P F γ R tp g gp tx n a k pl v b rp ru rw gn N fg fp) (f1 : F tp = .inl (I .byte, 8192, .inl ft)) (f2 : gF ft (-128) 127) (hx : γ 0 x = 101) (hx22 : γ 22 x = 0) (hcs : cs + ((16 * (n.toInt - a.toInt)).toNat + 9) ≤ Rm.cells) (hsl : sl + ((160 * (n.toInt - a.toInt)).toNat + 71) ≤ Rm.slots) (hcat : (st.map fun u => u.category).sum ≤ 8)
    (kk : ∀ P1 F1 a1 k1 pl1 v1 b1 tx1 dc ds, rSub P P1 → rFr [x, R] P F F1 → RS D I P1 F1 γ el → rdI I P1 F1 γ R tp g gp tx1 n a1 k1 pl1 v1 b1 rp ru rw gn N fg fp → rkR (F1 x) → rk_1 γ x (F1 x) → nzK k → rwQ a a1 k1 → dc ≤ (16 * (a1.toInt - a.toInt)).toNat + 8 → ds ≤ (160 * (a1.toInt - a.toInt)).toNat + 64 → tr_RReader_row n a k v (fI (F x) 1) (fI (F x) 2) (fI (F x) 3) (fI (F x) 5) (fI (F x) 6) ft tx.2 a1 k1 pl1 v1 b1 (fI (F1 x) 0) (fI (F1 x) 1) (fI (F1 x) 2) (fI (F1 x) 3) (fI (F1 x) 5) (fI (F1 x) 6) tx1.2 → G (gV D I) l Rm Qf ky (pc + 3) L st (va_pl P1 F1) (cs + dc) (sl + ds))
    (kx : ∀ q P1 F1 dc ds, rSub P P1 → rFr [x, R] P F F1 → RS D I P1 F1 γ el → rkR (F1 x) → q ∈ P1 → wrF F1 q → dc ≤ (16 * (n.toInt - a.toInt)).toNat + 9 → ds ≤ (160 * (n.toInt - a.toInt)).toNat + 71 → tx_RReader_row n a k v (fI (F x) 2) (fI (F x) 3) (fI (F x) 5) (fI (F x) 6) ft tx.2 → GT (gV D I) l Rm Qf ky pc L st "SpillForgeModel$Wrong" q (va_pl P1 F1) (cs + dc) (sl + ds)) :
    G (gV D I) l Rm Qf ky pc L (.ref x :: .ref R :: st) (va_pl P F) cs sl := by
  have hd0 := hd
  obtain ⟨⟨r1, r2, r3⟩, ⟨g1, g2, g3⟩, ⟨p1, p2, p3⟩, ⟨t1, t2⟩, ⟨bn, ba, bk, bpl, bb, brp, bru, brw, bgn⟩, ⟨c1, c2, c3, c4⟩, ⟨e1, e2, e3, e4, e5⟩⟩ := hd
  obtain ⟨op, t, xa, xb, s, ra, rb, x1, x2, x3, x4, x5, x6, x7, x8, x9⟩ := show rkR (F x) from RS_o hT hx
  refine Gw_callV (As := [.ref x]) (gV_ok D I) (cp_675869_Reader_row l hl0 D I P F R x tp n a k pl v b tx.1 rp ru rw gp g gn op t xa xb s ra rb ft tx.2 r1 (hT.1 x (by omega)) (hT.1 tp (by omega)) r2 x1 f1 bn ba bk bpl bb brp bru brw bgn x2 x3 x4 x5 x6 f2 c1 g1 p1 c2 c3 x8 x9 x7) d hw w2 w3 r1 r2 rfl hcs hsl hcat (fun r w dc ds hp => ?_) (fun E q w dc ds hx => ?_)
  · obtain ⟨P1, F1, a1, k1, pl1, v1, b1, tx1, op1, t1', xa1, xb1, ra1, rb1, xt1, rfl, rfl, hs, hfr, q0, q1, q2, hdc, hds, ba1, bk1, bpl1, bb1, bop, bt, bra, brb, y1, y2, y3, y4, y5, y6, y7, y8, y9, y10, y11, ht⟩ := hp
    have bop' : gB op1 0 32 := gB_w bop (by decide) (by decide)
    have hR : rkR (F1 x) := ⟨op1, t1', xa1, xb1, s, ra1, rb1, q0, bop', bt, x4, bra, brb, y8, y6, y7⟩
    have h1 : rk_1 γ x (F1 x) := ⟨op1, t1', xa1, xb1, s, ra1, rb1, q0, bop', bt, x4, bra, brb, y8, y6, y7, Or.inl (by unfold opQ at y9; omega), Or.inl hx22⟩
    exact kk P1 F1 a1 k1 pl1 v1 b1 (tx1, xt1) dc ds hs hfr (RS_ow hT hs hfr (wm_c (Or.inr (fit_101 hx hR)) (wm_c (Or.inl r3) wm_n))) (rdI_n hd0 hs (hfr g g1 (nm_c (Ne.symm (rn_oa x1 g2)) (nm_c (Ne.symm (rn_oa r2 g2)) nm_n))) (hfr gp p1 (nm_c (Ne.symm (rn_oa x1 p2)) (nm_c (Ne.symm (rn_oa r2 p2)) nm_n))) q1 ba1 bk1 bpl1 bb1 brp bru brw y1 y3 (by omega) y4 y5) hR h1 y10 y11 hdc hds (by rw [q0, x1]; exact ht)
  · rename_i hx0
    obtain ⟨P1, F1, rfl, rfl, hs, hfr, hq, hqn, hwr, hdc, hds, hR, ht⟩ := hx
    exact kx q P1 F1 dc ds hs hfr (RS_ow hT hs hfr (wm_c (Or.inr (fit_101 hx0 hR)) (wm_c (Or.inl r3) wm_n))) hR hq hwr hdc hds (by rw [x1]; exact ht)
theorem rk202_n {γ : Nat → Nat → Nat} {bk lb nb : Nat} {p s p' s' : Int32} {e e' : va_E} (hF : e = .inr (17, [.ref lb, .ref nb, .int p, .int s])) (h : rk_202 γ bk e) (hF' : e' = .inr (17, [.ref lb, .ref nb, .int p', .int s'])) (b1 : gB p' 0 39) (b2 : gB s' 0 39) : rk_202 γ bk e' := by
  obtain ⟨u1, u2, u3, u4, u5, u6, u7, u8⟩ := rk202_at hF h
  exact ⟨lb, nb, p', s', hF', u1, u2, u3, u4, u5, u6, b1, b2⟩
theorem Gr_end {bk : Nat} (hl0 : l.stackTraces = false) (d : decode ky.1 pc = .ok (.invokevirtual i, 3)) (hw : gCw (gV D I) Rm ky.2.2.1 i yX14_end cX14_end 3 none 10 220 1) (w2 : Cond.instanceMethod yX14_end ∈ (gV D I).2.2.2.2) (w3 : Cond.selects yX14_end.cls yX14_end yX14_end ∈ (gV D I).2.2.2.2)
    (hT : RS D I P F γ el) (hd : rdI I P F γ R tp g gp tx n a k pl v b rp ru rw gn N fg fp) (f1 : F tp = .inl (I .byte, 8192, .inl ft)) (f2 : gF ft (-128) 127) (hx : γ 0 bk = 202) (hcs : cs + ((16 * (n.toInt - a.toInt)).toNat + 6) ≤ Rm.cells) (hsl : sl + ((160 * (n.toInt - a.toInt)).toNat + 16 * N + 80) ≤ Rm.slots) (hcat : (st.map fun u => u.category).sum ≤ 8)
    (kk : ∀ P1 F1 g1 gp1 tx1 a1 k1 pl1 v1 b1 gn1 N1 fg1 fp1 lb nb fi se dc ds, rSub P P1 → rFr [bk, nb, R, g, gp] P F F1 → (γ 0 nb = 101 ∧ γ 1 nb = γ 1 bk) → RS D I P1 F1 γ el → rdI I P1 F1 γ R tp g1 gp1 tx1 n a1 k1 pl1 v1 b1 rp ru rw gn1 N1 fg1 fp1 → F1 bk = .inr (17, [.ref lb, .ref nb, .int fi, .int se]) → gB fi 0 39 → gB se 0 39 → rkR (F1 nb) → rk_1 γ nb (F1 nb) → glE fg fg1 gn gn1 fi se → nzK k → a.toInt ≤ a1.toInt → prP k1 a a1 → N ≤ N1 → gn.toInt ≤ gn1.toInt → gn1.toInt ≤ gn.toInt + 2 → dc ≤ (16 * (a1.toInt - a.toInt)).toNat + 4 → ds ≤ (160 * (a1.toInt - a.toInt)).toNat + 4 * (N1 - N) → tr_RReader_end n a k v gn ft fp N fg N (fI (F nb) 3) (fI (F nb) 6) tx.2 a1 k1 pl1 v1 b1 gn1 fi se N1 fp1 N1 fg1 (fI (F1 nb) 0) (fI (F1 nb) 2) (fI (F1 nb) 3) (fI (F1 nb) 5) (fI (F1 nb) 6) tx1.2 → G (gV D I) l Rm Qf ky (pc + 3) L st (va_pl P1 F1) (cs + dc) (sl + ds))
    (kx : ∀ q P1 F1 nb dc ds, rSub P P1 → rFr [bk, nb, R, gp, g] P F F1 → (γ 0 nb = 101 ∧ γ 1 nb = γ 1 bk) → rkR (F1 nb) → rk_202 γ bk (F1 bk) → RS D I P1 F1 γ el → q ∈ P1 → wrF F1 q → dc ≤ (16 * (n.toInt - a.toInt)).toNat + 6 → ds ≤ (160 * (n.toInt - a.toInt)).toNat + 16 * N + 80 → tx_RReader_end n a k v gn ft fp N fg N (fI (F nb) 3) (fI (F nb) 6) tx.2 → GT (gV D I) l Rm Qf ky pc L st "SpillForgeModel$Wrong" q (va_pl P1 F1) (cs + dc) (sl + ds)) :
    G (gV D I) l Rm Qf ky pc L (.ref bk :: .ref R :: st) (va_pl P F) cs sl := by
  obtain ⟨⟨r1, r2, r3⟩, ⟨g1, g2, g3⟩, ⟨p1, p2, p3⟩, ⟨t1, t2⟩, ⟨bn, ba, bk', bpl, bb, brp, bru, brw, bgn⟩, ⟨c1, c2, c3, c4⟩, ⟨e1, e2, e3, e4, e5⟩⟩ := hd
  have h202 : rk_202 γ bk (F bk) := RS_o hT hx
  obtain ⟨lb, nb, p0, s0, w1, -⟩ := id h202
  obtain ⟨u1, u2, u3, u4, u5, u6, u7, u8⟩ := rk202_at w1 h202
  obtain ⟨op, t, xa, xb, s, ra, rb, x1, x2, x3, x4, x5, x6, x7, x8, x9⟩ := show rkR (F nb) from RS_o hT u4
  refine Gw_callV (As := [.ref bk]) (gV_ok D I) (cp_676403_Reader_end l hl0 D I P F R bk tp gp g nb n a k pl v b tx.1 rp ru rw gn lb p0 s0 ft fp N fg N op t xa xb s ra rb tx.2 r1 (hT.1 bk (by omega)) (hT.1 tp (by omega)) p1 g1 (hT.1 nb (by omega)) r2 w1 f1 p2 g2 x1 (fun e => by rw [e] at t1; omega) (fun e => by rw [e] at t1; omega) (Ne.symm t2) bn ba bk' bpl bb brp bru brw bgn u7 u8 f2 x2 x3 x4 x5 x6 c1 c2 c3 rfl e2 e3 e1 (by have := bn.2; omega) c4 x9 x7 (by have := bgn.2; omega) (by have := bgn.2; omega)) d hw w2 w3 r1 r2 rfl hcs hsl hcat (fun r w dc ds hp => ?_) (fun E q w dc ds hx => ?_)
  · obtain ⟨P1, F1, a1, k1, pl1, v1, b1, tx1, gn1, fi, se, gp1, Np, fp1, g1', N1, fg1, op1, xa1, xb1, ra1, rb1, xt1, rfl, rfl, hs, hfr, q0, q1, q2, q3, q4, q5, m1, o1, m2, o2, hdc, hds, ba1, bk1, bpl1, bb1, bgn1, bfi, bse, bop, bra, brb, y1, y2, y3, y4, y5, y6, y7, y8, y9, y10, y11, y12, y13, y14, y15, y16, y17, y18, y19, y20, ht⟩ := hp
    have bop' : gB op1 0 32 := gB_w bop (by decide) (by decide)
    have hR : rkR (F1 nb) := ⟨op1, t, xa1, xb1, s, ra1, rb1, q3, bop', x3, x4, bra, brb, Or.inr (by omega), y18, y19⟩
    have h1 : rk_1 γ nb (F1 nb) := ⟨op1, t, xa1, xb1, s, ra1, rb1, q3, bop', x3, x4, bra, brb, Or.inr (by omega), y18, y19, Or.inl (by omega), Or.inr y17⟩
    have hN : Np = N1 := by omega
    subst hN
    have hT1 : RS D I P1 F1 γ el := RS_ow hT hs hfr (wm_c (Or.inr (fit_202 hx (rk202_n w1 h202 q0 bfi bse))) (wm_c (Or.inr (fit_101 u4 hR)) (wm_c (Or.inl r3) (wm_c (Or.inl g3) (wm_c (Or.inl p3) wm_n)))))
    exact kk P1 F1 g1' gp1 (tx1, xt1) a1 k1 pl1 v1 b1 gn1 Np fg1 fp1 lb nb fi se dc ds hs hfr ⟨u4, u5⟩ hT1 ⟨⟨hs _ r1, q4, r3⟩, ⟨m2, q2, by rcases o2 with e | e; rw [e]; exact g3; exact RS_new hT e⟩, ⟨m1, q1, by rcases o1 with e | e; rw [e]; exact p3; exact RS_new hT e⟩, ⟨t1, y6⟩, ⟨bn, ba1, bk1, bpl1, bb1, brp, bru, brw, bgn1⟩, ⟨y3, y4, y5, y8⟩, ⟨y14, y12, y13, by omega, by omega⟩⟩ q0 bfi bse hR h1 y7 y20 y1 y2 (by omega) y10 y11 hdc hds (by rw [q3, x1]; exact ht)
  · rename_i hx0
    obtain ⟨P1, F1, rfl, rfl, hs, hfr, hq, hqn, hwr, hdc, hds, hR, ⟨fi, se, z1, z2, z3⟩, ht⟩ := hx
    have h2 := rk202_n w1 h202 z1 z2 z3
    exact kx q P1 F1 nb dc ds hs hfr ⟨u4, u5⟩ hR h2 (RS_ow hT hs hfr (wm_c (Or.inr (fit_202 hx0 h2)) (wm_c (Or.inr (fit_101 u4 hR)) (wm_c (Or.inl r3) (wm_c (Or.inl p3) (wm_c (Or.inl g3) wm_n)))))) hq hwr hdc hds (by rw [x1]; exact ht)
end GR
