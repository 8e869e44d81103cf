/-- the labels are b0 .. below m; the goals' places are places -/
def lbP (lab : Int64) (m : Nat) : Prop := ∀ g : Nat, g < 64 → lab.toBitVec.getLsbD g = decide (g < m)
def gpC (gp : Nat → Int32) (bl : Int32) (fg sg : Nat → Int32) : Prop := ∀ b : Nat, (b : Int) < bl.toInt → ((fg b).toInt ≠ -1 → 0 ≤ (gp (2 * b)).toInt) ∧ ((sg b).toInt ≠ -1 → 0 ≤ (gp (2 * b + 1)).toInt)
def rdK (rp : Int32) (lab : Int64) (gp : Nat → Int32) (bl li : Int32) (fi fg sg op st lf ln rt rn : Nat → Int32) (bk : Bool) (P : gPg) : Prop :=
  (bk = true → 0 ≤ rp.toInt) ∧ gpC gp bl fg sg ∧ (bk = false → rp.toInt = -1 ∧ cdP bl li fi fg sg op st lf ln rt rn P ∧ lbP lab P.1)
def rdC (due cset clf cln cop rws rp : Int32) (lab : Int64) (gp : Nat → Int32) (bl li : Int32) (fi fg sg op st lf ln rt rn : Nat → Int32) : gMs → Prop
  | (du, mS, mL, mN, mO, mR, bk, P) => due.toInt = du ∧ (4 ≤ du → cset.toInt = mS ∧ clf.toInt = mL ∧ cln.toInt = mN) ∧ (du = 7 → cop.toInt = mO) ∧ rws.toInt = mR ∧ rdK rp lab gp bl li fi fg sg op st lf ln rt rn bk P
def rdA (r : Int32) (m : Option gMs) (Q : gMs → Prop) : Prop := (r.toInt = 1 ∧ ∃ s, m = some s ∧ Q s) ∨ (r.toInt = 0 ∧ m = none)
theorem rdC_mk {due cset clf cln cop rws rp : Int32} {lab : Int64} {gp : Nat → Int32} {bl li : Int32} {fi fg sg op st lf ln rt rn : Nat → Int32} {du mS mL mN mO mR : Int} {bk : Bool} {P : gPg} (h1 : due.toInt = du) (h2 : 4 ≤ du → cset.toInt = mS ∧ clf.toInt = mL ∧ cln.toInt = mN) (h3 : du = 7 → cop.toInt = mO) (h4 : rws.toInt = mR) (h5 : rdK rp lab gp bl li fi fg sg op st lf ln rt rn bk P) : rdC due cset clf cln cop rws rp lab gp bl li fi fg sg op st lf ln rt rn (du, mS, mL, mN, mO, mR, bk, P) := ⟨h1, h2, h3, h4, h5⟩
theorem rdA_y {r : Int32} {m : Option gMs} {Q : gMs → Prop} {s : gMs} (hr : r.toInt = 1) (hm : m = some s) (hq : Q s) : rdA r m Q := Or.inl ⟨hr, s, hm, hq⟩
/-- a sign of the program and what it is -/
def sgK (sk sv : Int32) (K V : Int) : Prop := sk.toInt = K ∧ (2 ≤ K → K ≤ 5 → sv.toInt = V)
theorem lb_tab2 : ∀ j : Fin 64, ∀ n : Fin 64, ((1 : Int64) <<< (Int64.ofNat j.val)).toBitVec.getLsbD n.val = decide (n.val = j.val) := by decide +kernel
theorem lb_shl {i : Int32} {z : Int64} {m : Nat} (hz : z = 1 <<< (i.toInt64 &&& 63)) (hi : i.toInt = (m : Int)) (hm : m < 64) (n : Nat) (hn : n < 64) : z.toBitVec.getLsbD n = decide (n = m) := by
  have e : i.toInt.toNat % 64 = m := by omega
  rw [hz, lb_Qcnt i (by omega), e]
  exact lb_tab2 ⟨m, hm⟩ ⟨n, hn⟩
theorem lbP_or {lab x1 x2 : Int64} {sv : Int32} {m : Nat} (h : lbP lab m) (hs : sv.toInt = (m : Int)) (hm : m < 64) (h1 : x1 = 1 <<< (sv.toInt64 &&& 63)) (h2 : x2 = lab ||| x1) : lbP x2 (m + 1) := fun g hg => by
  rw [h2, Int64.toBitVec_or, BitVec.getLsbD_or, h g hg, lb_shl h1 hs hm g hg, ← Bool.decide_or]
  exact decide_eq_decide.mpr (by omega)
theorem isB_0 {rp : Int32} (h : tr_Reader_isBroken rp 0) : rp.toInt = -1 := by
  have q : (0 : Int32).toInt = 0 → rp.toInt = -1 := by
    refine h (fun r => r.toInt = 0 → rp.toInt = -1) ?_ ?_
    · intro h1
      exact fun _ => h1
    · intro h1
      exact fun z => absurd z (by decide)
  exact q (by decide)
theorem isB_1 {rp : Int32} (h : tr_Reader_isBroken rp 1) : rp.toInt ≠ -1 := by
  have q : (1 : Int32).toInt = 1 → rp.toInt ≠ -1 := by
    refine h (fun r => r.toInt = 1 → rp.toInt ≠ -1) ?_ ?_
    · intro h1
      exact fun z => absurd z (by decide)
    · intro h1
      exact fun _ => h1
  exact q (by decide)
section RDC
variable {K V mS mL mN mO mR : Int} {bk : Bool} {P : gPg} {a1 a2 a3 a4 a5 a6 r due cset clf cln cop rws rp rr bl li fl sk sv sp : Int32} {lab : Int64} {gp fi fg sg op st lf ln rt rn : Nat → Int32}
theorem brk_tr {x y : Int32} (h : tr_Reader_breakRule a1 sp x y) : x = sp := by
  refine h (fun x _ => x = sp) ?_
  · skip
    rfl
theorem add_tr {x1 x8 : Int32} {x2 x3 x4 x5 x6 x7 : Nat → Int32} (h : tr_Code_add a1 a2 a3 a4 a5 a6 li fl op st lf ln rt rn x1 x2 x3 x4 x5 x6 x7 x8) (hc : cdP bl li fi fg sg op st lf ln rt rn P) (hl : li.toInt < 200) (hP : 0 < P.1) : cdP bl x1 fi fg sg x2 x3 x4 x5 x6 x7 (pgL P (mkL a1.toInt a2.toInt a3.toInt a4.toInt a5.toInt a6.toInt)) := by
  refine h (fun x1 x2 x3 x4 x5 x6 x7 _ => cdP bl x1 fi fg sg x2 x3 x4 x5 x6 x7 (pgL P (mkL a1.toInt a2.toInt a3.toInt a4.toInt a5.toInt a6.toInt))) ?_ ?_
  · intro x1 x2 x3 x4 x5 x6 x7 h1 h2 h3 h4 h5 h6 h7 h8
    exact cdP_L hc hP h8 h2 h3 h4 h5 h6 h7
  · intro h1
    omega
theorem kp_tr {x1 x2 : Int32} {x3 x4 x5 x6 x7 x8 : Nat → Int32} (h : tr_Reader_keep a2 a3 a4 rp cset clf cln li fl op st lf ln rt rn x1 x2 x3 x4 x5 x6 x7 x8) (hk : rdK rp lab gp bl li fi fg sg op st lf ln rt rn bk P) (hl : bk = false → li.toInt < 200) (hP : 0 < P.1) : rdK rp lab gp bl x1 fi fg sg x3 x4 x5 x6 x7 x8 bk (pgL P (mkL a2.toInt cset.toInt clf.toInt cln.toInt a3.toInt a4.toInt)) := by
  refine h (fun x1 _ x3 x4 x5 x6 x7 x8 => rdK rp lab gp bl x1 fi fg sg x3 x4 x5 x6 x7 x8 bk (pgL P (mkL a2.toInt cset.toInt clf.toInt cln.toInt a3.toInt a4.toInt))) ?_ ?_
  · intro x1 x2 x3 x4 x5 x6 x7 x8 h1 h2 h3 h4
    refine ⟨hk.1, hk.2.1, fun z => ?_⟩
    obtain ⟨k1, k2, k3⟩ := hk.2.2 z
    exact ⟨k1, add_tr h4 k2 (hl z) hP, k3⟩
  · intro h1
    have q := isB_1 h1
    exact ⟨hk.1, hk.2.1, fun z => absurd (hk.2.2 z).1 q⟩
theorem rgN_tr (h : tr_Reader_registerOrNone sk sv r) (hs : sgK sk sv K V) : r.toInt = rgV K V := by
  obtain ⟨hk, hv⟩ := hs
  unfold rgV
  refine h (fun r => r.toInt = if K = 2 then V else -1) ?_ ?_
  · intro h1
    rw [if_neg (by omega)]; exact px_m1
  · intro h1
    rw [if_pos (by omega)]; exact hv (by omega) (by omega)
theorem nmZ_tr (h : tr_Reader_numberOrZero sk sv r) (hs : sgK sk sv K V) : r.toInt = nmW K V := by
  obtain ⟨hk, hv⟩ := hs
  unfold nmW
  refine h (fun r => r.toInt = if K = 4 then V else 0) ?_ ?_
  · intro h1
    rw [if_neg (by omega)]; exact px_0
  · intro h1
    rw [if_pos (by omega)]; exact hv (by omega) (by omega)
theorem tkL_tr {x y : Int32} (h : tr_Reader_takeLeft sk sv x y) (hs : sgK sk sv K V) : x.toInt = rgV K V ∧ y.toInt = nmW K V := by
  refine h (fun x y => x.toInt = rgV K V ∧ y.toInt = nmW K V) ?_ ?_ ?_
  · intro h1 h2
    exact ⟨rgN_tr h1 hs, nmZ_tr h2 hs⟩
  · intro h1 h2
    exact ⟨rgN_tr h1 hs, nmZ_tr h2 hs⟩
  · intro h1 h2
    exact ⟨rgN_tr h1 hs, nmZ_tr h2 hs⟩
theorem opd_tr (h : tr_Reader_isOperand sk r) (hs : sgK sk sv K V) : (r.toInt = 1 ∧ (K = 2 ∨ K = 4)) ∨ (r.toInt = 0 ∧ ¬ (K = 2 ∨ K = 4)) := by
  obtain ⟨hk, -⟩ := hs
  refine h (fun r => (r.toInt = 1 ∧ (K = 2 ∨ K = 4)) ∨ (r.toInt = 0 ∧ ¬ (K = 2 ∨ K = 4))) ?_ ?_ ?_
  · intro h1
    exact Or.inl ⟨px_1, by omega⟩
  · intro h1 h2
    exact Or.inr ⟨px_0, by omega⟩
  · intro h1 h2
    exact Or.inl ⟨px_1, by omega⟩
theorem opd_1 (h : tr_Reader_isOperand sk 1) (hs : sgK sk sv K V) : K = 2 ∨ K = 4 := by
  rcases opd_tr h hs with ⟨-, q⟩ | ⟨q, -⟩
  · exact q
  · exact absurd q (by decide)
theorem opd_0 (h : tr_Reader_isOperand sk 0) (hs : sgK sk sv K V) : ¬ (K = 2 ∨ K = 4) := by
  rcases opd_tr h hs with ⟨q, -⟩ | ⟨-, q⟩
  · exact absurd q (by decide)
  · exact q
theorem bRw_tr {x y z : Int32} (h : tr_Reader_beginRow rp rr rws sp x y z) (hr : rws.toInt = mR) (hb : mR ≤ 8192) (h0 : 0 ≤ mR) (hp : 0 ≤ sp.toInt) (hk : rdK rp lab gp bl li fi fg sg op st lf ln rt rn bk P) : x.toInt = mR + 1 ∧ rdK y lab gp bl li fi fg sg op st lf ln rt rn (bk || decide (160 < mR + 1)) P := by
  refine h (fun x y _ => x.toInt = mR + 1 ∧ rdK y lab gp bl li fi fg sg op st lf ln rt rn (bk || decide (160 < mR + 1)) P) ?_ ?_ ?_
  · intro x1 h1 h2 h3
    have e1 : x1.toInt = mR + 1 := by have q := px_add h1 (by rw [px_1]; omega) (by rw [px_1]; omega); rw [px_1] at q; omega
    rw [decide_eq_false (by omega), Bool.or_false]
    exact ⟨e1, hk⟩
  · intro x1 x2 x3 h1 h2 h3 h4
    have e1 : x1.toInt = mR + 1 := by have q := px_add h1 (by rw [px_1]; omega) (by rw [px_1]; omega); rw [px_1] at q; omega
    rw [decide_eq_true (by omega), Bool.or_true]
    have q := brk_tr h4
    exact ⟨e1, fun _ => by rw [q]; exact hp, hk.2.1, fun z => absurd z (by decide)⟩
  · intro x1 h1 h2
    have e1 : x1.toInt = mR + 1 := by have q := px_add h1 (by rw [px_1]; omega) (by rw [px_1]; omega); rw [px_1] at q; omega
    have q := isB_1 h2
    have eb : bk = true := by
      cases hbk : bk with
      | true => rfl
      | false => exact absurd (hk.2.2 hbk).1 q
    rw [eb, Bool.true_or]
    rw [eb] at hk
    exact ⟨e1, hk⟩
theorem bLn_tr {x1 x2 x3 x4 : Int32} (h : tr_Reader_beginLine a1 a2 x1 x2 x3 x4) : x1 = a2 ∧ x2 = a1 ∧ x3.toInt = -1 ∧ x4.toInt = 0 := by
  refine h (fun x1 x2 x3 x4 => x1 = a2 ∧ x2 = a1 ∧ x3.toInt = -1 ∧ x4.toInt = 0) ?_
  · skip
    exact ⟨rfl, rfl, px_m1, px_0⟩
theorem aLn_tr {x1 x2 x3 x4 x5 x6 x7 x8 x9 x10 : Int32} {y1 y2 y3 y4 y5 y6 : Nat → Int32} (h : tr_Reader_acceptLine rp rr rws due cset clf cln li fl sk sv sp op st lf ln rt rn x1 x2 x3 x4 x5 x6 x7 x8 x9 x10 y1 y2 y3 y4 y5 y6) (hs : sgK sk sv K V) (hr : rws.toInt = mR) (hb : mR ≤ 8192) (h0 : 0 ≤ mR) (hp : 0 ≤ sp.toInt) (hk : rdK rp lab gp bl li fi fg sg op st lf ln rt rn bk P) (hl : bk = false → li.toInt < 200) (hP : 0 < P.1) : rdA x1 (mLine K V mO mR bk P) (fun s => rdC x5 x6 x7 x8 cop x4 x2 lab gp bl x9 fi fg sg y1 y2 y3 y4 y5 y6 s) := by
  obtain ⟨hk1, hv⟩ := hs
  refine h (fun x1 x2 x3 x4 x5 x6 x7 x8 x9 _ y1 y2 y3 y4 y5 y6 => rdA x1 (mLine K V mO mR bk P) (fun s => rdC x5 x6 x7 x8 cop x4 x2 lab gp bl x9 fi fg sg y1 y2 y3 y4 y5 y6 s)) ?_ ?_ ?_ ?_ ?_ ?_ ?_ ?_ ?_ ?_ ?_ ?_
  · intro x1 x2 x3 x4 x5 x6 x7 h1 h2 h3 h4 h5
    obtain ⟨b1, b2, b3, b4⟩ := bLn_tr h5
    obtain ⟨w1, w2⟩ := bRw_tr h2 hr hb h0 hp hk
    have em : mLine K V mO mR bk P = some (4, V, -1, 0, mO, mR + 1, bk || decide (160 < mR + 1), P) := by
      unfold mLine
      rw [if_pos (by omega)]
    exact rdA_y px_1 em (rdC_mk (by rw [b1]; decide) (fun _ => ⟨by rw [b2]; exact hv (by omega) (by omega), b3, b4⟩) (fun z => absurd z (by decide)) w1 w2)
  · intro h1
    refine Or.inr ⟨px_0, ?_⟩
    unfold mLine
    rw [if_neg (by omega), if_neg (by omega), if_neg (by omega), if_neg (by omega), if_neg (by omega)]
  · intro h1
    refine Or.inr ⟨px_0, ?_⟩
    unfold mLine
    rw [if_neg (by omega), if_neg (by omega), if_neg (by omega), if_neg (by omega), if_neg (by omega)]
  · intro h1
    refine Or.inr ⟨px_0, ?_⟩
    unfold mLine
    rw [if_neg (by omega), if_neg (by omega), if_neg (by omega), if_neg (by omega), if_neg (by omega)]
  · intro h1
    refine Or.inr ⟨px_0, ?_⟩
    unfold mLine
    rw [if_neg (by omega), if_neg (by omega), if_neg (by omega), if_neg (by omega), if_neg (by omega)]
  · intro h1
    refine Or.inr ⟨px_0, ?_⟩
    unfold mLine
    rw [if_neg (by omega), if_neg (by omega), if_neg (by omega), if_neg (by omega), if_neg (by omega)]
  · intro h1
    refine Or.inr ⟨px_0, ?_⟩
    unfold mLine
    rw [if_neg (by omega), if_neg (by omega), if_neg (by omega), if_neg (by omega), if_neg (by omega)]
  · intro x1 x2 x3 x4 x5 x6 x7 h1 h2 h3 h4 h5
    obtain ⟨b1, b2, b3, b4⟩ := bLn_tr h5
    obtain ⟨w1, w2⟩ := bRw_tr h2 hr hb h0 hp hk
    have em : mLine K V mO mR bk P = some (8, -1, -1, 0, mO, mR + 1, bk || decide (160 < mR + 1), P) := by
      unfold mLine
      rw [if_neg (by omega), if_pos (by omega)]
    exact rdA_y px_1 em (rdC_mk (by rw [b1]; decide) (fun _ => ⟨by rw [b2]; decide, b3, b4⟩) (fun z => absurd z (by decide)) w1 w2)
  · intro x1 x2 x3 x4 h1 h2 h3 h4
    obtain ⟨b1, b2, b3, b4⟩ := bLn_tr h4
    have em : mLine K V mO mR bk P = some (9, -1, -1, 0, mO, mR, bk, P) := by
      unfold mLine
      rw [if_neg (by omega), if_neg (by omega), if_pos (by omega)]
    exact rdA_y px_1 em (rdC_mk (by rw [b1]; decide) (fun _ => ⟨by rw [b2]; decide, b3, b4⟩) (fun z => absurd z (by decide)) hr hk)
  · intro x1 x2 x3 x4 x5 x6 x7 x8 x9 x10 x11 x12 h1 h2 h3 h4 h5 h6 h7
    obtain ⟨b1, b2, b3, b4⟩ := bLn_tr h4
    have w2 := kp_tr h7 hk hl hP
    rw [b2, b3, b4] at w2
    have em : mLine K V mO mR bk P = some (12, -1, -1, 0, mO, mR, bk, pgL P (mkL 19 (-1) (-1) 0 (-1) 0)) := by
      unfold mLine
      rw [if_neg (by omega), if_neg (by omega), if_neg (by omega), if_neg (by omega), if_pos (by omega)]
    exact rdA_y px_1 em (rdC_mk (by rw [b1]; decide) (fun _ => ⟨by rw [b2]; decide, b3, b4⟩) (fun z => absurd z (by decide)) hr w2)
  · intro x1 x2 x3 x4 h1 h2 h3 h4
    obtain ⟨b1, b2, b3, b4⟩ := bLn_tr h4
    have em : mLine K V mO mR bk P = some (10, -1, -1, 0, mO, mR, bk, P) := by
      unfold mLine
      rw [if_neg (by omega), if_neg (by omega), if_neg (by omega), if_pos (by omega)]
    exact rdA_y px_1 em (rdC_mk (by rw [b1]; decide) (fun _ => ⟨by rw [b2]; decide, b3, b4⟩) (fun z => absurd z (by decide)) hr hk)
  · intro h1 h2 h3 h4 h5 h6 h7 h8 h9 h10 h11
    refine Or.inr ⟨px_0, ?_⟩
    unfold mLine
    rw [if_neg (by omega), if_neg (by omega), if_neg (by omega), if_neg (by omega), if_neg (by omega)]
theorem gpC_B {x : Int32} {fg2 sg2 : Nat → Int32} {m : Nat} (h : gpC gp bl fg sg) (hb : bl.toInt = (m : Int)) (hx : x.toInt = bl.toInt + 1) (h2 : fg2 = upd fg bl.toNatClampNeg (-1)) (h3 : sg2 = upd sg bl.toNatClampNeg (-1)) : gpC gp x fg2 sg2 := fun b hb2 => by
  have e := nnE hb
  rw [h2, h3, e]
  by_cases q : b = m
  · rw [q, updE, updE]; exact ⟨fun z => absurd px_m1 z, fun z => absurd px_m1 z⟩
  · rw [updN q, updN q]; exact h b (by omega)
theorem gpC_G {gp2 fg2 sg2 : Nat → Int32} {i j : Nat} {z : Int32} (h : gpC gp bl fg sg) (hf : (j = 0 ∧ fg2 = upd fg i z ∧ sg2 = sg) ∨ (j = 1 ∧ fg2 = fg ∧ sg2 = upd sg i z)) (hg : gp2 = upd gp (2 * i + j) sp) (hp : 0 ≤ sp.toInt) : gpC gp2 bl fg2 sg2 := fun b hb => by
  have hj : j < 2 := by omega
  obtain ⟨a1, a2⟩ := h b hb
  rcases hf with ⟨f1, f2, f3⟩ | ⟨f1, f2, f3⟩
  · rw [hg, f1, f2, f3, Nat.add_zero]
    by_cases q : b = i
    · rw [q, updE, updE, updN (show 2 * i + 1 ≠ 2 * i by omega)]
      rw [q] at a2
      exact ⟨fun _ => hp, a2⟩
    · rw [updN q, updN (show 2 * b ≠ 2 * i by omega), updN (show 2 * b + 1 ≠ 2 * i by omega)]
      exact ⟨a1, a2⟩
  · rw [hg, f1, f2, f3]
    by_cases q : b = i
    · rw [q, updE, updE, updN (show 2 * i ≠ 2 * i + 1 by omega)]
      rw [q] at a1
      exact ⟨a1, fun _ => hp⟩
    · rw [updN q, updN (show 2 * b ≠ 2 * i + 1 by omega), updN (show 2 * b + 1 ≠ 2 * i + 1 by omega)]
      exact ⟨a1, a2⟩
theorem opB_tr {x1 x2 : Int32} {y1 y2 y3 : Nat → Int32} (h : tr_Code_openBlock bl li fi fg sg x1 x2 y1 y2 y3) (hc : cdP bl li fi fg sg op st lf ln rt rn P) (hg : gpC gp bl fg sg) (hb : bl.toInt < 40) : x1.toInt = 1 ∧ cdP x2 li y1 y2 y3 op st lf ln rt rn (pgB P) ∧ gpC gp x2 y2 y3 := by
  refine h (fun x1 x2 y1 y2 y3 => x1.toInt = 1 ∧ cdP x2 li y1 y2 y3 op st lf ln rt rn (pgB P) ∧ gpC gp x2 y2 y3) ?_ ?_
  · intro x1 x2 x3 x4 h1 h2 h3 h4 h5
    exact ⟨px_1, cdP_B hc h5 h2 h3 h4, gpC_B hg hc.1 h5 h3 h4⟩
  · intro h1
    omega
theorem aLb_tr {x1 x2 x3 x5 x6 : Int32} {x4 : Int64} {y1 y2 y3 : Nat → Int32} (h : tr_Reader_acceptLabel rp rr lab due bl li sk sv sp fi fg sg x1 x2 x3 x4 x5 x6 y1 y2 y3) (hs : sgK sk sv K V) (ht : tkO K V) (hr : rws.toInt = mR) (hp : 0 ≤ sp.toInt) (hk : rdK rp lab gp bl li fi fg sg op st lf ln rt rn bk P) : rdA x1 (if K = 3 then some (2, mS, mL, mN, mO, mR, bk || decide (V ≠ (P.1 : Int)), pgB P) else none) (fun s => rdC x5 cset clf cln cop rws x2 x4 gp x6 li y1 y2 y3 op st lf ln rt rn s) := by
  obtain ⟨hk1, hv⟩ := hs
  refine h (fun x1 x2 x3 x4 x5 x6 y1 y2 y3 => rdA x1 (if K = 3 then some (2, mS, mL, mN, mO, mR, bk || decide (V ≠ (P.1 : Int)), pgB P) else none) (fun s => rdC x5 cset clf cln cop rws x2 x4 gp x6 li y1 y2 y3 op st lf ln rt rn s)) ?_ ?_ ?_ ?_ ?_
  · intro x1 x2 x3 x4 h1 h2 h3 h4 h5 h6
    rw [if_pos (by omega)]
    have hv2 := hv (by omega) (by omega)
    have hv3 := ht.2.1 (by omega)
    refine rdA_y px_1 rfl (rdC_mk (by decide) (fun z => absurd z (by decide)) (fun z => absurd z (by decide)) hr ?_)
    have q := brk_tr h6
    have q0 := isB_0 h4
    refine ⟨fun _ => by rw [q]; exact hp, hk.2.1, fun z => ?_⟩
    rw [Bool.or_eq_false_iff, decide_eq_false_iff_not, Decidable.not_not] at z
    have c := (hk.2.2 z.1).2.1.1
    omega
  · intro x1 x2 x3 x4 x5 x6 x7 h1 h2 h3 h4 h5 h6 h7 h8 h9
    rw [if_pos (by omega)]
    have hv2 := hv (by omega) (by omega)
    have hv3 := ht.2.1 (by omega)
    refine rdA_y px_1 rfl (rdC_mk (by decide) (fun z => absurd z (by decide)) (fun z => absurd z (by decide)) hr ?_)
    have q0 := isB_0 h4
    have hbk : bk = false := by
      cases e : bk with
      | true => exact absurd (hk.1 e) (by omega)
      | false => rfl
    obtain ⟨k1, k2, k3⟩ := hk.2.2 hbk
    have k21 := k2.1
    obtain ⟨c1, c2, c3⟩ := opB_tr h8 k2 hk.2.1 (by omega)
    refine ⟨fun z => ?_, c3, fun _ => ⟨k1, c2, lbP_or (m := P.1) k3 (by omega) (by omega) h2 h3⟩⟩
    rw [hbk, Bool.false_or, decide_eq_true_iff] at z
    exact absurd (show V = (P.1 : Int) by omega) z
  · intro x1 x2 x3 x4 x5 x6 x7 x8 x9 h1 h2 h3 h4 h5 h6 h7 h8 h9 h10
    rw [if_pos (by omega)]
    have hv2 := hv (by omega) (by omega)
    have hv3 := ht.2.1 (by omega)
    refine rdA_y px_1 rfl (rdC_mk (by decide) (fun z => absurd z (by decide)) (fun z => absurd z (by decide)) hr ?_)
    have q0 := isB_0 h4
    have hbk : bk = false := by
      cases e : bk with
      | true => exact absurd (hk.1 e) (by omega)
      | false => rfl
    obtain ⟨k1, k2, k3⟩ := hk.2.2 hbk
    have k21 := k2.1
    obtain ⟨c1, c2, c3⟩ := opB_tr h8 k2 hk.2.1 (by omega)
    omega
  · intro x1 x2 h1 h2 h3 h4
    rw [if_pos (by omega)]
    have hv2 := hv (by omega) (by omega)
    have hv3 := ht.2.1 (by omega)
    refine rdA_y px_1 rfl (rdC_mk (by decide) (fun z => absurd z (by decide)) (fun z => absurd z (by decide)) hr ?_)
    have q := isB_1 h4
    refine ⟨fun _ => ?_, hk.2.1, fun z => ?_⟩
    · cases hbk : bk with
      | true => exact hk.1 hbk
      | false => exact absurd (hk.2.2 hbk).1 q
    · rw [Bool.or_eq_false_iff] at z; exact absurd (hk.2.2 z.1).1 q
  · intro h1
    exact Or.inr ⟨px_0, if_neg (by omega)⟩
theorem aMk_tr {x1 x2 : Int32} (h : tr_Reader_acceptMark a1 a2 sk x1 x2) (hs : sgK sk sv K V) : x2 = a2 ∧ ((x1.toInt = 1 ∧ K = a1.toInt) ∨ (x1.toInt = 0 ∧ K ≠ a1.toInt)) := by
  obtain ⟨hk1, -⟩ := hs
  refine h (fun x1 x2 => x2 = a2 ∧ ((x1.toInt = 1 ∧ K = a1.toInt) ∨ (x1.toInt = 0 ∧ K ≠ a1.toInt))) ?_ ?_
  · intro h1
    exact ⟨rfl, Or.inr ⟨px_0, by omega⟩⟩
  · intro h1
    exact ⟨rfl, Or.inl ⟨px_1, by omega⟩⟩
theorem aSr_tr {x1 x2 x3 x4 x5 x6 : Int32} {y1 y2 y3 y4 y5 y6 : Nat → Int32} (h : tr_Reader_acceptSource rp cset clf cln li fl sk sv op st lf ln rt rn x1 x2 x3 x4 x5 x6 y1 y2 y3 y4 y5 y6) (hs : sgK sk sv K V) (hr : rws.toInt = mR) (hk : rdK rp lab gp bl li fi fg sg op st lf ln rt rn bk P) (hl : bk = false → li.toInt < 200) (hP : 0 < P.1) (hm : cset.toInt = mS ∧ clf.toInt = mL ∧ cln.toInt = mN) : rdA x1 (if K = 8 then some (3, mS, mL, mN, mO, mR, bk, pgL P (mkL 15 mS mL mN (-1) 0)) else if K = 2 ∨ K = 4 then some (6, mS, rgV K V, nmW K V, mO, mR, bk, P) else none) (fun s => rdC x2 cset x3 x4 cop rws rp lab gp bl x5 fi fg sg y1 y2 y3 y4 y5 y6 s) := by
  have hs0 := hs
  obtain ⟨hk1, hv⟩ := hs
  refine h (fun x1 x2 x3 x4 x5 _ y1 y2 y3 y4 y5 y6 => rdA x1 (if K = 8 then some (3, mS, mL, mN, mO, mR, bk, pgL P (mkL 15 mS mL mN (-1) 0)) else if K = 2 ∨ K = 4 then some (6, mS, rgV K V, nmW K V, mO, mR, bk, P) else none) (fun s => rdC x2 cset x3 x4 cop rws rp lab gp bl x5 fi fg sg y1 y2 y3 y4 y5 y6 s)) ?_ ?_ ?_
  · intro x1 x2 h1 h2 h3
    have c := opd_1 h3 hs0
    obtain ⟨t1, t2⟩ := tkL_tr h2 hs0
    exact rdA_y px_1 ((if_neg (by omega)).trans (if_pos c)) (rdC_mk (by decide) (fun _ => ⟨hm.1, t1, t2⟩) (fun z => absurd z (by decide)) hr hk)
  · intro x1 x2 h1 h2 h3
    have c := opd_0 h3 hs0
    exact Or.inr ⟨px_0, by rw [if_neg (by omega), if_neg c]⟩
  · intro x1 x2 x3 x4 x5 x6 x7 x8 h1 h2 h3 h4
    have w := kp_tr h4 hk hl hP
    rw [hm.1, hm.2.1, hm.2.2] at w
    exact rdA_y px_1 (if_pos (by omega)) (rdC_mk (by decide) (fun z => absurd z (by decide)) (fun z => absurd z (by decide)) hr w)
theorem aOn_tr {x1 x2 x3 x4 x5 x6 : Int32} {y1 y2 y3 y4 y5 y6 : Nat → Int32} (h : tr_Reader_acceptOnly a2 a3 rp cset li fl sk sv op st lf ln rt rn x1 x2 x3 x4 x5 x6 y1 y2 y3 y4 y5 y6) (hs : sgK sk sv K V) (hr : rws.toInt = mR) (hk : rdK rp lab gp bl li fi fg sg op st lf ln rt rn bk P) (hl : bk = false → li.toInt < 200) (hP : 0 < P.1) (hm : cset.toInt = mS) (hn7 : a3.toInt ≠ 7) : rdA x1 (if K = 2 ∨ K = 4 then some (a3.toInt, mS, rgV K V, nmW K V, mO, mR, bk, pgL P (mkL a2.toInt mS (rgV K V) (nmW K V) (-1) 0)) else none) (fun s => rdC x2 cset x3 x4 cop rws rp lab gp bl x5 fi fg sg y1 y2 y3 y4 y5 y6 s) := by
  refine h (fun x1 x2 x3 x4 x5 _ y1 y2 y3 y4 y5 y6 => rdA x1 (if K = 2 ∨ K = 4 then some (a3.toInt, mS, rgV K V, nmW K V, mO, mR, bk, pgL P (mkL a2.toInt mS (rgV K V) (nmW K V) (-1) 0)) else none) (fun s => rdC x2 cset x3 x4 cop rws rp lab gp bl x5 fi fg sg y1 y2 y3 y4 y5 y6 s)) ?_ ?_
  · intro x1 x2 x3 x4 x5 x6 x7 x8 x9 x10 h1 h2 h3 h4 h5
    have c := opd_1 h5 hs
    obtain ⟨t1, t2⟩ := tkL_tr h1 hs
    have w := kp_tr h4 hk hl hP
    rw [hm, t1, t2] at w
    exact rdA_y px_1 (if_pos c) (rdC_mk rfl (fun _ => ⟨hm, t1, t2⟩) (fun z => absurd z hn7) hr w)
  · intro x1 x2 x3 x4 x5 x6 x7 x8 x9 x10 h1 h2 h3 h4 h5
    have c := opd_0 h5 hs
    exact Or.inr ⟨px_0, if_neg c⟩
theorem aRt_tr {x1 x2 x3 x4 : Int32} {y1 y2 y3 y4 y5 y6 : Nat → Int32} (h : tr_Reader_acceptRight rp cop cset clf cln li fl sk sv op st lf ln rt rn x1 x2 x3 x4 y1 y2 y3 y4 y5 y6) (hs : sgK sk sv K V) (hr : rws.toInt = mR) (hk : rdK rp lab gp bl li fi fg sg op st lf ln rt rn bk P) (hl : bk = false → li.toInt < 200) (hP : 0 < P.1) (hm : cset.toInt = mS ∧ clf.toInt = mL ∧ cln.toInt = mN) (ho : cop.toInt = mO) : rdA x1 (if K = 2 ∨ K = 4 then some (3, mS, mL, mN, mO, mR, bk, pgL P (mkL mO mS mL mN (rgV K V) (nmW K V))) else none) (fun s => rdC x2 cset clf cln cop rws rp lab gp bl x3 fi fg sg y1 y2 y3 y4 y5 y6 s) := by
  refine h (fun x1 x2 x3 _ y1 y2 y3 y4 y5 y6 => rdA x1 (if K = 2 ∨ K = 4 then some (3, mS, mL, mN, mO, mR, bk, pgL P (mkL mO mS mL mN (rgV K V) (nmW K V))) else none) (fun s => rdC x2 cset clf cln cop rws rp lab gp bl x3 fi fg sg y1 y2 y3 y4 y5 y6 s)) ?_ ?_ ?_ ?_ ?_ ?_
  · intro x1 x2 x3 x4 x5 x6 x7 x8 h1 h2 h3 h4 h5 h6
    have c := opd_1 h6 hs
    have t1 := rgN_tr h1 hs
    have t2 := nmZ_tr h2 hs
    have w := kp_tr h5 hk hl hP
    rw [ho, hm.1, hm.2.1, hm.2.2, t1, t2] at w
    exact rdA_y px_1 (if_pos c) (rdC_mk (by decide) (fun z => absurd z (by decide)) (fun z => absurd z (by decide)) hr w)
  · intro x1 x2 x3 x4 x5 x6 x7 x8 h1 h2 h3 h4 h5 h6
    have c := opd_0 h6 hs
    exact Or.inr ⟨px_0, if_neg c⟩
  · intro x1 x2 x3 x4 x5 x6 x7 x8 h1 h2 h3 h4 h5 h6
    have c := opd_0 h6 hs
    exact Or.inr ⟨px_0, if_neg c⟩
  · intro x1 x2 x3 x4 x5 x6 x7 x8 h1 h2 h3 h4 h5 h6
    have c := opd_1 h6 hs
    have t1 := rgN_tr h1 hs
    have t2 := nmZ_tr h2 hs
    have w := kp_tr h5 hk hl hP
    rw [ho, hm.1, hm.2.1, hm.2.2, t1, t2] at w
    exact rdA_y px_1 (if_pos c) (rdC_mk (by decide) (fun z => absurd z (by decide)) (fun z => absurd z (by decide)) hr w)
  · intro x1 x2 x3 x4 x5 x6 x7 x8 h1 h2 h3 h4 h5 h6
    have c := opd_1 h6 hs
    have t1 := rgN_tr h1 hs
    have t2 := nmZ_tr h2 hs
    have w := kp_tr h5 hk hl hP
    rw [ho, hm.1, hm.2.1, hm.2.2, t1, t2] at w
    exact rdA_y px_1 (if_pos c) (rdC_mk (by decide) (fun z => absurd z (by decide)) (fun z => absurd z (by decide)) hr w)
  · intro x1 x2 x3 x4 x5 x6 x7 x8 h1 h2 h3 h4 h5 h6
    have c := opd_0 h6 hs
    exact Or.inr ⟨px_0, if_neg c⟩
theorem aOL_tr {x1 x2 x3 x4 x5 x6 x7 x8 x9 x10 x17 : Int32} {y1 y2 y3 y4 y5 y6 : Nat → Int32} (h : tr_Reader_acceptOpOrLine rp rr rws due cop cset clf cln li fl sk sv sp op st lf ln rt rn x1 x2 x3 x4 x5 x6 x7 x8 x9 x10 y1 y2 y3 y4 y5 y6 x17) (hs : sgK sk sv K V) (hr : rws.toInt = mR) (hk : rdK rp lab gp bl li fi fg sg op st lf ln rt rn bk P) (hl : bk = false → li.toInt < 200) (hP : 0 < P.1) (hm : cset.toInt = mS ∧ clf.toInt = mL ∧ cln.toInt = mN) (hd : due.toInt = 6) (hb : mR ≤ 8192) (h0 : 0 ≤ mR) (hp : 0 ≤ sp.toInt) (hl2 : bk = false → li.toInt < 199) : rdA x1 (if K = 5 then some (7, mS, mL, mN, V, mR, bk, P) else mLine K V mO mR bk (pgL P (mkL 14 mS mL mN (-1) 0))) (fun s => rdC x5 x6 x7 x8 x17 x4 x2 lab gp bl x9 fi fg sg y1 y2 y3 y4 y5 y6 s) := by
  have hs0 := hs
  obtain ⟨hk1, hv⟩ := hs
  refine h (fun x1 x2 x3 x4 x5 x6 x7 x8 x9 _ y1 y2 y3 y4 y5 y6 x17 => rdA x1 (if K = 5 then some (7, mS, mL, mN, V, mR, bk, P) else mLine K V mO mR bk (pgL P (mkL 14 mS mL mN (-1) 0))) (fun s => rdC x5 x6 x7 x8 x17 x4 x2 lab gp bl x9 fi fg sg y1 y2 y3 y4 y5 y6 s)) ?_ ?_
  · intro x1 x2 x3 x4 x5 x6 x7 x8 x9 x10 x11 x12 x13 x14 x15 x16 x17 x18 x19 x20 x21 x22 x23 x24 h1 h2 h3 h4 h5 h6 h7 h8
    rw [if_neg (by omega)]
    have w := kp_tr h4 hk hl hP
    rw [hm.1, hm.2.1, hm.2.2] at w
    refine aLn_tr h8 hs0 hr hb h0 hp w (fun z => ?_) hP
    have c1 := (w.2.2 z).2.1.2.1
    rw [pgL_s hP] at c1
    have c2 := (hk.2.2 z).2.1.2.1
    have := hl2 z
    omega
  · intro h1
    rw [if_pos (by omega)]
    exact rdA_y px_1 rfl (rdC_mk (by decide) (fun _ => hm) (fun _ => hv (by omega) (by omega)) hr hk)
theorem adG_tr {x : Int32} {y1 y2 : Nat → Int32} (h : tr_Code_addGoal sv bl fg sg x y1 y2) (hc : cdP bl li fi fg sg op st lf ln rt rn P) (hP : 0 < P.1) : ∃ i j : Nat, i + 1 = P.1 ∧ ((j = 0 ∧ y1 = upd fg i sv ∧ y2 = sg) ∨ (j = 1 ∧ y1 = fg ∧ y2 = upd sg i sv)) ∧ x.toInt = ((2 * i + j : Nat) : Int) ∧ cdP bl li fi y1 y2 op st lf ln rt rn (pgG P sv.toInt) := by
  have c1 := hc.1
  refine h (fun x y1 y2 => ∃ i j : Nat, i + 1 = P.1 ∧ ((j = 0 ∧ y1 = upd fg i sv ∧ y2 = sg) ∨ (j = 1 ∧ y1 = fg ∧ y2 = upd sg i sv)) ∧ x.toInt = ((2 * i + j : Nat) : Int) ∧ cdP bl li fi y1 y2 op st lf ln rt rn (pgG P sv.toInt)) ?_ ?_ ?_
  · intro x1 x2 x3 x4 h1 h2 h3 h4 h5 h6
    have e1 : x1.toNatClampNeg = P.1 - 1 := nnE (by omega)
    have hg := (hc.2.2.1 (P.1 - 1) (by omega)).2.1
    rw [e1] at h3 h5
    rw [← h3] at hg
    refine ⟨P.1 - 1, 0, by omega, Or.inl ⟨rfl, h5, rfl⟩, by omega, ?_⟩
    exact cdP_G0 hc (by omega) (by omega) h5
  · intro x1 x2 x3 x4 x5 h1 h2 h3 h4 h5 h6 h7
    have e1 : x1.toNatClampNeg = P.1 - 1 := nnE (by omega)
    have hg := (hc.2.2.1 (P.1 - 1) (by omega)).2.1
    rw [e1] at h3 h5
    rw [← h3] at hg
    refine ⟨P.1 - 1, 1, by omega, Or.inr ⟨rfl, rfl, h5⟩, by omega, ?_⟩
    exact cdP_G1 hc (by omega) (by omega) h5
  · intro x1 h1 h2
    omega
theorem aGo_tr {x1 x2 : Int32} {y1 y2 y3 : Nat → Int32} (h : tr_Reader_acceptGoal a2 rp due bl sk sv sp gp fg sg x1 x2 y1 y2 y3) (hs : sgK sk sv K V) (hr : rws.toInt = mR) (hk : rdK rp lab gp bl li fi fg sg op st lf ln rt rn bk P) (hP : 0 < P.1) (hp : 0 ≤ sp.toInt) (hn7 : a2.toInt ≠ 7) (hm : 4 ≤ a2.toInt → cset.toInt = mS ∧ clf.toInt = mL ∧ cln.toInt = mN) : rdA x1 (if K = 3 then some (a2.toInt, mS, mL, mN, mO, mR, bk, pgG P V) else none) (fun s => rdC x2 cset clf cln cop rws rp lab y3 bl li fi y1 y2 op st lf ln rt rn s) := by
  obtain ⟨hk1, hv⟩ := hs
  refine h (fun x1 x2 y1 y2 y3 => rdA x1 (if K = 3 then some (a2.toInt, mS, mL, mN, mO, mR, bk, pgG P V) else none) (fun s => rdC x2 cset clf cln cop rws rp lab y3 bl li fi y1 y2 op st lf ln rt rn s)) ?_ ?_ ?_ ?_
  · intro x1 x2 x3 h1 h2 h3 h4 h5
    have hv2 := hv (by omega) (by omega)
    refine rdA_y px_1 (if_pos (by omega)) (rdC_mk rfl hm (fun z => absurd z hn7) hr ?_)
    have q0 := isB_0 h2
    have z : bk = false := by
      cases e : bk with
      | true => exact absurd (hk.1 e) (by omega)
      | false => rfl
    obtain ⟨k1, k2, k3⟩ := hk.2.2 z
    obtain ⟨i, j, g1, g2, g3, g4⟩ := adG_tr h4 k2 hP
    rw [hv2] at g4
    omega
  · intro x1 x2 x3 x4 h1 h2 h3 h4 h5 h6
    have hv2 := hv (by omega) (by omega)
    refine rdA_y px_1 (if_pos (by omega)) (rdC_mk rfl hm (fun z => absurd z hn7) hr ?_)
    have q0 := isB_0 h2
    have z : bk = false := by
      cases e : bk with
      | true => exact absurd (hk.1 e) (by omega)
      | false => rfl
    obtain ⟨k1, k2, k3⟩ := hk.2.2 z
    obtain ⟨i, j, g1, g2, g3, g4⟩ := adG_tr h4 k2 hP
    rw [hv2] at g4
    exact ⟨hk.1, gpC_G (i := i) (j := j) (z := sv) hk.2.1 g2 (by rw [h6, nnE g3]) hp, fun _ => ⟨k1, g4, k3⟩⟩
  · intro h1 h2
    have hv2 := hv (by omega) (by omega)
    refine rdA_y px_1 (if_pos (by omega)) (rdC_mk rfl hm (fun z => absurd z hn7) hr ?_)
    have q := isB_1 h2
    exact ⟨hk.1, hk.2.1, fun z => absurd (hk.2.2 z).1 q⟩
  · intro h1
    exact Or.inr ⟨px_0, if_neg (by omega)⟩
theorem acc_tr {x1 x2 x3 x5 x6 x10 x11 x12 x13 x14 x15 x22 : Int32} {x4 : Int64} {y1 y2 y3 y4 y5 y6 y7 y8 y9 y10 : Nat → Int32} {s0 : gMs} (h : tr_Reader_accept rp rr lab rws due cop cset clf cln bl li fl sk sv sp gp fi fg sg op st lf ln rt rn x1 x2 x3 x4 x5 x6 y1 y2 y3 x10 x11 x12 x13 x14 x15 y4 y5 y6 y7 y8 y9 x22 y10) (hs : sgK sk sv K V) (ht : tkO K V) (hp : 0 ≤ sp.toInt) (hc : rdC due cset clf cln cop rws rp lab gp bl li fi fg sg op st lf ln rt rn s0) (hw : mwf s0) (hb : rws.toInt ≤ 8192) : rdA x1 (mst K V s0) (fun s => rdC x5 x11 x12 x13 x22 x10 x2 x4 y10 x6 x14 y1 y2 y3 y4 y5 y6 y7 y8 y9 s) := by
  obtain ⟨du, mS, mL, mN, mO, mR, bk, P⟩ := s0
  obtain ⟨⟨w0, w1⟩, w2, w3, w4, w5, -⟩ := hw
  obtain ⟨c1, c2, c3, c4, c5⟩ := hc
  have hR : mR ≤ 8192 := by omega
  have hli : bk = false → 2 ≤ du → du ≤ 10 → li.toInt < 200 := fun z a b => by
    have e1 := w5 z
    have e2 := (c5.2.2 z).2.1.2.1
    have e3 := e1.2.2.2.1 a b
    omega
  have hli2 : bk = false → 4 ≤ du → du ≤ 8 → li.toInt < 199 := fun z a b => by
    have e1 := w5 z
    have e2 := (c5.2.2 z).2.1.2.1
    have e3 := e1.2.2.2.2 a b
    omega
  simp only [mst]
  refine h (fun x1 x2 x3 x4 x5 x6 y1 y2 y3 x10 x11 x12 x13 x14 _ y4 y5 y6 y7 y8 y9 x22 y10 => rdA x1 _ (fun s => rdC x5 x11 x12 x13 x22 x10 x2 x4 y10 x6 x14 y1 y2 y3 y4 y5 y6 y7 y8 y9 s)) ?_ ?_ ?_ ?_ ?_ ?_ ?_ ?_ ?_ ?_ ?_ ?_ ?_
  · intro x1 x2 x3 x4 x5 x6 x7 x8 x9 h1 h2 h3 h4
    rw [if_pos (by omega)]
    exact aLb_tr h4 hs ht c4 hp c5
  · intro x1 x2 x3 x4 x5 x6 x7 x8 x9 h1 h2 h3 h4
    rw [if_pos (by omega)]
    exact aLb_tr h4 hs ht c4 hp c5
  · intro x1 x2 h1 h2 h3
    rw [if_neg (by omega), if_pos (by omega)]
    obtain ⟨e1, e2⟩ := aMk_tr h3 hs
    rcases e2 with ⟨e2, e3⟩ | ⟨e2, e3⟩
    · exact rdA_y e2 (if_pos e3) (rdC_mk (by rw [e1]; decide) (fun z => absurd z (by decide)) (fun z => absurd z (by decide)) c4 c5)
    · exact Or.inr ⟨e2, if_neg e3⟩
  · intro x1 x2 x3 x4 x5 x6 x7 x8 x9 x10 x11 x12 x13 x14 x15 x16 h1 h2 h3 h4 h5
    rw [if_neg (by omega), if_neg (by omega), if_pos (by omega)]
    exact aLn_tr h5 hs c4 hR w4 hp c5 (fun z => hli z (by omega) (by omega)) (w3 (by omega))
  · intro x1 x2 h1 h2 h3
    rw [if_neg (by omega), if_neg (by omega), if_neg (by omega), if_pos (by omega)]
    obtain ⟨e1, e2⟩ := aMk_tr h3 hs
    rcases e2 with ⟨e2, e3⟩ | ⟨e2, e3⟩
    · exact rdA_y e2 (if_pos e3) (rdC_mk (by rw [e1]; decide) (fun _ => c2 (by omega)) (fun z => absurd z (by decide)) c4 c5)
    · exact Or.inr ⟨e2, if_neg e3⟩
  · intro x1 x2 x3 x4 x5 x6 x7 x8 x9 x10 x11 x12 h1 h2 h3 h4 h5 h6
    rw [if_neg (by omega), if_neg (by omega), if_neg (by omega), if_neg (by omega), if_pos (by omega)]
    exact aSr_tr h6 hs c4 c5 (fun z => hli z (by omega) (by omega)) (w3 (by omega)) (c2 (by omega))
  · intro x1 x2 x3 x4 x5 x6 x7 x8 x9 x10 x11 x12 x13 x14 x15 x16 x17 h1 h2 h3 h4 h5 h6
    rw [if_neg (by omega), if_neg (by omega), if_neg (by omega), if_neg (by omega), if_neg (by omega), if_pos (by omega)]
    exact aOL_tr h6 hs c4 c5 (fun z => hli z (by omega) (by omega)) (w3 (by omega)) (c2 (by omega)) (by omega) hR w4 hp (fun z => hli2 z (by omega) (by omega))
  · intro x1 x2 x3 x4 x5 x6 x7 x8 x9 x10 h1 h2 h3 h4 h5 h6
    rw [if_neg (by omega), if_neg (by omega), if_neg (by omega), if_neg (by omega), if_neg (by omega), if_neg (by omega), if_pos (by omega)]
    exact aRt_tr h6 hs c4 c5 (fun z => hli z (by omega) (by omega)) (w3 (by omega)) (c2 (by omega)) (c3 (by omega))
  · intro x1 x2 x3 x4 x5 x6 x7 x8 x9 x10 x11 x12 h1 h2 h3 h4 h5
    rw [if_neg (by omega), if_neg (by omega), if_neg (by omega), if_neg (by omega), if_neg (by omega), if_neg (by omega), if_neg (by omega), if_pos (by omega)]
    exact aOn_tr h5 hs c4 c5 (fun z => hli z (by omega) (by omega)) (w3 (by omega)) (c2 (by omega)).1 (by decide)
  · intro x1 x2 x3 x4 x5 x6 x7 x8 x9 x10 x11 x12 h1 h2 h3 h4 h5
    rw [if_neg (by omega), if_neg (by omega), if_neg (by omega), if_neg (by omega), if_neg (by omega), if_neg (by omega), if_neg (by omega), if_neg (by omega), if_pos (by omega)]
    exact aOn_tr h5 hs c4 c5 (fun z => hli z (by omega) (by omega)) (w3 (by omega)) (c2 (by omega)).1 (by decide)
  · intro x1 x2 x3 x4 x5 x6 x7 x8 x9 x10 x11 x12 h1 h2 h3 h4 h5
    rw [if_neg (by omega), if_neg (by omega), if_neg (by omega), if_neg (by omega), if_neg (by omega), if_neg (by omega), if_neg (by omega), if_neg (by omega), if_neg (by omega), if_pos (by omega)]
    exact aOn_tr h5 hs c4 c5 (fun z => hli z (by omega) (by omega)) (w3 (by omega)) (c2 (by omega)).1 (by decide)
  · intro x1 x2 x3 x4 x5 h1 h2 h3
    rw [if_neg (by omega), if_neg (by omega), if_neg (by omega), if_neg (by omega), if_neg (by omega), if_neg (by omega), if_neg (by omega), if_neg (by omega), if_neg (by omega), if_neg (by omega), if_pos (by omega)]
    exact aGo_tr h3 hs c4 c5 (w3 (by omega)) hp (by decide) (fun _ => c2 (by omega))
  · intro x1 x2 x3 x4 x5 h1 h2 h3 h4 h5 h6 h7 h8 h9 h10 h11 h12 h13 h14
    rw [if_neg (by omega), if_neg (by omega), if_neg (by omega), if_neg (by omega), if_neg (by omega), if_neg (by omega), if_neg (by omega), if_neg (by omega), if_neg (by omega), if_neg (by omega), if_neg (by omega)]
    exact aGo_tr h14 hs c4 c5 (w3 (by omega)) hp (by decide) (fun z => absurd z (by decide))
end RDC
