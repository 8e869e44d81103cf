section RRE
/-- the reference's reader stands at sign i -/
def rdT (B : Int → Int) (n : Int) (i : Nat) (at0 kd va : Int32) (xt : gTx) : Prop := tkR kd va xt (tk B n i).1 (tk B n i).2.1 ∧ ((tk B n i).1 ≠ 0 → at0.toInt = (tk B n i).2.2.2)
/-- the machine stands in front of a row or an end -/
def mLn (B : Int → Int) (n : Int) (i : Nat) (rw : Int) (bk : Bool) (P : gPg) : Prop := (∃ st lf ln op, mrn B n i = some (3, st, lf, ln, op, rw, bk, P)) ∨ (∃ st lf ln op P', mrn B n i = some (6, st, lf, ln, op, rw, bk, P') ∧ (tk B n i).1 ≠ 5 ∧ P = pgL P' (mkL 14 st lf ln (-1) 0))
/-- the text is rejected -/
def rjt (B : Int → Int) (n : Int) : Prop := ∃ (j : Nat) (s : gMs), mrn B n j = some s ∧ mrn B n (j + 1) = none ∧ ((tk B n j).1 = 1 → s.1 ≠ 1)
theorem rjt_no {B : Int → Int} {n : Int} (h : rjt B n) (P : gPg) : ¬ okP B n P := by
  obtain ⟨j, s, h1, h2, h3⟩ := h
  by_cases c : (tk B n j).1 = 1
  · exact no_bk h1 c (Or.inl (h3 c)) P
  · exact no_st h1 h2 c P
/-- an operand: register or number -/
def opdE (r nu : Int) (a rA : Int32) : Prop := (rA.toInt = 1 ∧ a.toInt = r ∧ 0 ≤ r) ∨ (rA.toInt = 0 ∧ r = -1 ∧ a.toInt = nu)
def rwE (l : Nat → Int) (op t a b rA rB : Int32) : Prop := (l 0 ≤ 13 → op.toInt = l 0 + 1 ∧ t.toInt = l 1 ∧ opdE (l 2) (l 3) a rA ∧ opdE (l 4) (l 5) b rB) ∧ (l 0 = 14 → op.toInt = 0 ∧ t.toInt = l 1 ∧ opdE (l 2) (l 3) a rA) ∧ (l 0 = 15 → op.toInt = 20 ∧ t.toInt = l 1) ∧ (l 0 = 16 → op.toInt = 22 ∧ opdE (l 2) (l 3) a rA)
def edE (l : Nat → Int) (g : Nat → Int) (op a rA f s : Int32) : Prop := (l 0 = 19 → op.toInt = 30 ∧ f.toInt = g 0 ∧ s.toInt = g 0) ∧ (l 0 = 20 → op.toInt = 31 ∧ opdE (l 2) (l 3) a rA ∧ f.toInt = g 0 ∧ s.toInt = g 1) ∧ (l 0 = 21 → op.toInt = 32 ∧ opdE (l 2) (l 3) a rA)
variable {f : Nat → Int32} {n : Int32} {i : Nat} {at0 kd va : Int32} {xt : gTx} {rw : Int} {bk : Bool} {P : gPg}
theorem mLn_s {B : Int → Int} {n : Int} (h : mLn B n i rw bk P) : ∃ (s : gMs) (op : Int), mrn B n i = some s ∧ s.1 ≠ 1 ∧ mrn B n (i + 1) = mLine (tk B n i).1 (tk B n i).2.1 op rw bk P := by
  rcases h with ⟨st, lf, ln, op, h⟩ | ⟨st, lf, ln, op, P', h, h2, h3⟩
  · refine ⟨_, op, h, by show (3 : Int) ≠ 1; decide, ?_⟩
    rw [mrn_e h]
    simp only [mst]
    rw [if_neg (by decide), if_neg (by decide), if_pos trivial]
  · refine ⟨_, op, h, by show (6 : Int) ≠ 1; decide, ?_⟩
    rw [mrn_e h]
    simp only [mst]
    rw [if_neg (by decide), if_neg (by decide), if_neg (by decide), if_neg (by decide), if_neg (by decide), if_pos trivial, if_neg h2, h3]
theorem rnx {o1 o2 o3 o4 : Int32} {o5 : gTx} (hF : ∀ k, gB (f k) (-128) 127) (hn : 0 ≤ n.toInt) (hn2 : n.toInt ≤ 8192) (h : rdT (bA f n.toInt) n.toInt i at0 kd va xt) (hk : (tk (bA f n.toInt) n.toInt i).1 ≠ 0) (hx : tr_RReader_next n at0 kd va f o1 o2 o3 o4 o5) : rdT (bA f n.toInt) n.toInt (i + 1) o1 o2 o4 o5 ∧ o3.toInt = (tk (bA f n.toInt) n.toInt (i + 1)).2.2.1 := by
  obtain ⟨h1, h2⟩ := h
  have e := h2 hk
  have b := tk_b (bOk_bA (f := f) hn) i
  obtain ⟨q1, q2, q3⟩ := nx_tr hF (by omega) (by omega) hn2 hx
  have d : decide (kd.toInt = 2 ∨ kd.toInt = 4) = decide ((tk (bA f n.toInt) n.toInt i).1 = 2 ∨ (tk (bA f n.toInt) n.toInt i).1 = 4) := decide_eq_decide.mpr (by rw [h1.2.1, h1.2.2.2.1])
  rw [e, d] at q2 q3
  rw [e] at q1
  exact ⟨⟨q2, q3⟩, q1⟩
theorem w2_0 {a : Int32} (h : tx_RReader_want2 a kd) : kd.toInt ≠ a.toInt := by
  refine h (kd.toInt ≠ a.toInt) ?_
  · intro h1
    exact h1
theorem w1_0 {bs : List Int32} (h : tx_RReader_want bs kd xt) : ¬ ((kd.toInt = 5 ∨ kd.toInt = 1) ∧ txE xt bs) := by
  refine h (¬ ((kd.toInt = 5 ∨ kd.toInt = 1) ∧ txE xt bs)) ?_
  · intro x1 h1 h2 h3
    rcases is_tr h2 with ⟨q, -⟩ | ⟨-, q⟩
    · omega
    · exact q
theorem op_0 (h : tx_RReader_operand kd) : kd.toInt ≠ 2 ∧ kd.toInt ≠ 4 := by
  refine h (kd.toInt ≠ 2 ∧ kd.toInt ≠ 4) ?_
  · intro h1 h2
    exact ⟨h1, h2⟩
theorem gl_0 {g : Int32} {p p3 : Nat → Int32} {p2 p4 : Nat} (h : tx_RReader_goal kd g p p2 p3 p4) : kd.toInt ≠ 3 := by
  refine h (kd.toInt ≠ 3) ?_ ?_
  · intro x1 h1 h2 h3
    exact w2_0 h3
  · intro x1 x2 x3 x4 x5 h1 h2 h3 h4 h5 h6 h7
    exact w2_0 h7
theorem is_1 {bs : List Int32} {r : Int32} (h : tr_RReader_is bs kd xt r) (hr : r.toInt ≠ 0) : (kd.toInt = 5 ∨ kd.toInt = 1) ∧ txE xt bs := by
  rcases is_tr h with ⟨-, q⟩ | ⟨q, -⟩
  · exact q
  · exact absurd q hr
theorem is_0 {bs : List Int32} {r : Int32} (h : tr_RReader_is bs kd xt r) (hr : r.toInt = 0) : ¬ ((kd.toInt = 5 ∨ kd.toInt = 1) ∧ txE xt bs) := by
  rcases is_tr h with ⟨q, -⟩ | ⟨-, q⟩
  · omega
  · exact q
theorem w2_1 {a o1 o2 o3 o4 : Int32} {o5 : gTx} (hF : ∀ k, gB (f k) (-128) 127) (hn : 0 ≤ n.toInt) (hn2 : n.toInt ≤ 8192) (h : rdT (bA f n.toInt) n.toInt i at0 kd va xt) (ha : 2 ≤ a.toInt) (ha2 : a.toInt ≤ 4) (hx : tr_RReader_want2 a n at0 kd va f o1 o2 o3 o4 o5) : (tk (bA f n.toInt) n.toInt i).1 = a.toInt ∧ va.toInt = (tk (bA f n.toInt) n.toInt i).2.1 ∧ rdT (bA f n.toInt) n.toInt (i + 1) o1 o2 o4 o5 ∧ o3.toInt = (tk (bA f n.toInt) n.toInt (i + 1)).2.2.1 := by
  refine hx (fun o1 o2 o3 o4 o5 => (tk (bA f n.toInt) n.toInt i).1 = a.toInt ∧ va.toInt = (tk (bA f n.toInt) n.toInt i).2.1 ∧ rdT (bA f n.toInt) n.toInt (i + 1) o1 o2 o4 o5 ∧ o3.toInt = (tk (bA f n.toInt) n.toInt (i + 1)).2.2.1) ?_
  · intro x1 x2 x3 x4 x5 h1 h2 h3 h4 h5
    obtain ⟨k0, k2, k3, k4, kv, -⟩ := h.1
    have e : (tk (bA f n.toInt) n.toInt i).1 = a.toInt := by omega
    exact ⟨e, kv (by omega) (by omega), rnx hF hn hn2 h (by omega) h5⟩
theorem w1_1 {bs : List Int32} {o1 o2 o3 o4 : Int32} {o5 : gTx} {q : Prop} (hF : ∀ k, gB (f k) (-128) 127) (hn : 0 ≤ n.toInt) (hn2 : n.toInt ≤ 8192) (h : rdT (bA f n.toInt) n.toInt i at0 kd va xt) (hq : isX kd xt bs q) (hq0 : q → (tk (bA f n.toInt) n.toInt i).1 ≠ 0) (hx : tr_RReader_want bs n at0 kd va f xt o1 o2 o3 o4 o5) : q ∧ rdT (bA f n.toInt) n.toInt (i + 1) o1 o2 o4 o5 ∧ o3.toInt = (tk (bA f n.toInt) n.toInt (i + 1)).2.2.1 := by
  refine hx (fun o1 o2 o3 o4 o5 => q ∧ rdT (bA f n.toInt) n.toInt (i + 1) o1 o2 o4 o5 ∧ o3.toInt = (tk (bA f n.toInt) n.toInt (i + 1)).2.2.1) ?_
  · intro x1 x2 x3 x4 x5 x6 h1 h2 h3 h4 h5 h6 h7
    have z := hq.mp (is_1 h2 h3)
    exact ⟨z, rnx hF hn hn2 h (hq0 z) h7⟩
theorem op_1 {a2 a b rA rB o1 o2 o3 o4 o5 o6 o7 o8 : Int32} {o9 : gTx} (hF : ∀ k, gB (f k) (-128) 127) (hn : 0 ≤ n.toInt) (hn2 : n.toInt ≤ 8192) (h : rdT (bA f n.toInt) n.toInt i at0 kd va xt) (hx : tr_RReader_operand a2 n at0 kd va a b rA rB f o1 o2 o3 o4 o5 o6 o7 o8 o9) : ((tk (bA f n.toInt) n.toInt i).1 = 2 ∨ (tk (bA f n.toInt) n.toInt i).1 = 4) ∧ rdT (bA f n.toInt) n.toInt (i + 1) o1 o2 o4 o9 ∧ o3.toInt = (tk (bA f n.toInt) n.toInt (i + 1)).2.2.1 ∧ (a2.toInt = 0 → opdE (rgV (tk (bA f n.toInt) n.toInt i).1 (tk (bA f n.toInt) n.toInt i).2.1) (nmW (tk (bA f n.toInt) n.toInt i).1 (tk (bA f n.toInt) n.toInt i).2.1) o5 o7 ∧ o6 = b ∧ o8 = rB) ∧ (a2.toInt ≠ 0 → opdE (rgV (tk (bA f n.toInt) n.toInt i).1 (tk (bA f n.toInt) n.toInt i).2.1) (nmW (tk (bA f n.toInt) n.toInt i).1 (tk (bA f n.toInt) n.toInt i).2.1) o6 o8 ∧ o5 = a ∧ o7 = rA) := by
  have hB := tk_b (bOk_bA (f := f) hn) i
  have tO := hB.2.2.2.2.2.2
  obtain ⟨k0, k2, k3, k4, kv, -⟩ := h.1
  refine hx (fun o1 o2 o3 o4 o5 o6 o7 o8 o9 => ((tk (bA f n.toInt) n.toInt i).1 = 2 ∨ (tk (bA f n.toInt) n.toInt i).1 = 4) ∧ rdT (bA f n.toInt) n.toInt (i + 1) o1 o2 o4 o9 ∧ o3.toInt = (tk (bA f n.toInt) n.toInt (i + 1)).2.2.1 ∧ (a2.toInt = 0 → opdE (rgV (tk (bA f n.toInt) n.toInt i).1 (tk (bA f n.toInt) n.toInt i).2.1) (nmW (tk (bA f n.toInt) n.toInt i).1 (tk (bA f n.toInt) n.toInt i).2.1) o5 o7 ∧ o6 = b ∧ o8 = rB) ∧ (a2.toInt ≠ 0 → opdE (rgV (tk (bA f n.toInt) n.toInt i).1 (tk (bA f n.toInt) n.toInt i).2.1) (nmW (tk (bA f n.toInt) n.toInt i).1 (tk (bA f n.toInt) n.toInt i).2.1) o6 o8 ∧ o5 = a ∧ o7 = rA)) ?_ ?_ ?_ ?_
  · intro x1 x2 x3 x4 x5 h1 h2 h3 h4 h5 h6 h7
    have ek : (tk (bA f n.toInt) n.toInt i).1 = 4 := by omega
    have ev := kv (by omega) (by omega)
    obtain ⟨r1, r2⟩ := rnx hF hn hn2 h (by omega) h7
    have od : opdE (rgV (tk (bA f n.toInt) n.toInt i).1 (tk (bA f n.toInt) n.toInt i).2.1) (nmW (tk (bA f n.toInt) n.toInt i).1 (tk (bA f n.toInt) n.toInt i).2.1) va 0 := Or.inr ⟨px_0, by unfold rgV; rw [if_neg (by omega)], by unfold nmW; rw [if_pos ek]; exact ev⟩
    exact ⟨by omega, r1, r2, fun _ => ⟨od, rfl, rfl⟩, fun z => absurd h3 z⟩
  · intro x1 x2 x3 x4 x5 h1 h2 h3 h4 h5 h6 h7
    have ek : (tk (bA f n.toInt) n.toInt i).1 = 4 := by omega
    have ev := kv (by omega) (by omega)
    obtain ⟨r1, r2⟩ := rnx hF hn hn2 h (by omega) h7
    have od : opdE (rgV (tk (bA f n.toInt) n.toInt i).1 (tk (bA f n.toInt) n.toInt i).2.1) (nmW (tk (bA f n.toInt) n.toInt i).1 (tk (bA f n.toInt) n.toInt i).2.1) va 0 := Or.inr ⟨px_0, by unfold rgV; rw [if_neg (by omega)], by unfold nmW; rw [if_pos ek]; exact ev⟩
    exact ⟨by omega, r1, r2, fun z => absurd z h3, fun _ => ⟨od, rfl, rfl⟩⟩
  · intro x1 x2 x3 x4 x5 h1 h2 h3 h4 h5 h6
    have ek : (tk (bA f n.toInt) n.toInt i).1 = 2 := by omega
    have ev := kv (by omega) (by omega)
    obtain ⟨r1, r2⟩ := rnx hF hn hn2 h (by omega) h6
    have od : opdE (rgV (tk (bA f n.toInt) n.toInt i).1 (tk (bA f n.toInt) n.toInt i).2.1) (nmW (tk (bA f n.toInt) n.toInt i).1 (tk (bA f n.toInt) n.toInt i).2.1) va 1 := Or.inl ⟨px_1, by unfold rgV; rw [if_pos ek]; exact ev, by unfold rgV; rw [if_pos ek]; exact (tO.1 ek).1⟩
    exact ⟨by omega, r1, r2, fun _ => ⟨od, rfl, rfl⟩, fun z => absurd h2 z⟩
  · intro x1 x2 x3 x4 x5 h1 h2 h3 h4 h5 h6
    have ek : (tk (bA f n.toInt) n.toInt i).1 = 2 := by omega
    have ev := kv (by omega) (by omega)
    obtain ⟨r1, r2⟩ := rnx hF hn hn2 h (by omega) h6
    have od : opdE (rgV (tk (bA f n.toInt) n.toInt i).1 (tk (bA f n.toInt) n.toInt i).2.1) (nmW (tk (bA f n.toInt) n.toInt i).1 (tk (bA f n.toInt) n.toInt i).2.1) va 1 := Or.inl ⟨px_1, by unfold rgV; rw [if_pos ek]; exact ev, by unfold rgV; rw [if_pos ek]; exact (tO.1 ek).1⟩
    exact ⟨by omega, r1, r2, fun z => absurd z h2, fun _ => ⟨od, rfl, rfl⟩⟩
theorem mst4 {B : Int → Int} {n : Int} {st lf ln op : Int} (h : mrn B n i = some (4, st, lf, ln, op, rw, bk, P)) : mrn B n (i + 1) = if (tk B n i).1 = 7 then some (5, st, lf, ln, op, rw, bk, P) else none := by
  rw [mrn_e h]; simp only [mst]
  rw [if_neg (by decide), if_neg (by decide), if_neg (by decide), if_pos trivial]
theorem mst5 {B : Int → Int} {n : Int} {st lf ln op : Int} (h : mrn B n i = some (5, st, lf, ln, op, rw, bk, P)) : mrn B n (i + 1) = if (tk B n i).1 = 8 then some (3, st, lf, ln, op, rw, bk, pgL P (mkL 15 st lf ln (-1) 0)) else if (tk B n i).1 = 2 ∨ (tk B n i).1 = 4 then some (6, st, rgV (tk B n i).1 (tk B n i).2.1, nmW (tk B n i).1 (tk B n i).2.1, op, rw, bk, P) else none := by
  rw [mrn_e h]; simp only [mst]
  rw [if_neg (by decide), if_neg (by decide), if_neg (by decide), if_neg (by decide), if_pos trivial]
theorem mst6 {B : Int → Int} {n : Int} {st lf ln op : Int} (h : mrn B n i = some (6, st, lf, ln, op, rw, bk, P)) (h5 : (tk B n i).1 = 5) : mrn B n (i + 1) = some (7, st, lf, ln, (tk B n i).2.1, rw, bk, P) := by
  rw [mrn_e h]; simp only [mst]
  rw [if_neg (by decide), if_neg (by decide), if_neg (by decide), if_neg (by decide), if_neg (by decide), if_pos trivial, if_pos h5]
theorem mst7 {B : Int → Int} {n : Int} {st lf ln op : Int} (h : mrn B n i = some (7, st, lf, ln, op, rw, bk, P)) : mrn B n (i + 1) = if (tk B n i).1 = 2 ∨ (tk B n i).1 = 4 then some (3, st, lf, ln, op, rw, bk, pgL P (mkL op st lf ln (rgV (tk B n i).1 (tk B n i).2.1) (nmW (tk B n i).1 (tk B n i).2.1))) else none := by
  rw [mrn_e h]; simp only [mst]
  rw [if_neg (by decide), if_neg (by decide), if_neg (by decide), if_neg (by decide), if_neg (by decide), if_neg (by decide), if_pos trivial]
theorem mst8 {B : Int → Int} {n : Int} {st lf ln op : Int} (h : mrn B n i = some (8, st, lf, ln, op, rw, bk, P)) : mrn B n (i + 1) = if (tk B n i).1 = 2 ∨ (tk B n i).1 = 4 then some (3, st, rgV (tk B n i).1 (tk B n i).2.1, nmW (tk B n i).1 (tk B n i).2.1, op, rw, bk, pgL P (mkL 16 st (rgV (tk B n i).1 (tk B n i).2.1) (nmW (tk B n i).1 (tk B n i).2.1) (-1) 0)) else none := by
  rw [mrn_e h]; simp only [mst]
  rw [if_neg (by decide), if_neg (by decide), if_neg (by decide), if_neg (by decide), if_neg (by decide), if_neg (by decide), if_neg (by decide), if_pos trivial]
theorem mst9 {B : Int → Int} {n : Int} {st lf ln op : Int} (h : mrn B n i = some (9, st, lf, ln, op, rw, bk, P)) : mrn B n (i + 1) = if (tk B n i).1 = 2 ∨ (tk B n i).1 = 4 then some (11, st, rgV (tk B n i).1 (tk B n i).2.1, nmW (tk B n i).1 (tk B n i).2.1, op, rw, bk, pgL P (mkL 20 st (rgV (tk B n i).1 (tk B n i).2.1) (nmW (tk B n i).1 (tk B n i).2.1) (-1) 0)) else none := by
  rw [mrn_e h]; simp only [mst]
  rw [if_neg (by decide), if_neg (by decide), if_neg (by decide), if_neg (by decide), if_neg (by decide), if_neg (by decide), if_neg (by decide), if_neg (by decide), if_pos trivial]
theorem mst10 {B : Int → Int} {n : Int} {st lf ln op : Int} (h : mrn B n i = some (10, st, lf, ln, op, rw, bk, P)) : mrn B n (i + 1) = if (tk B n i).1 = 2 ∨ (tk B n i).1 = 4 then some (1, st, rgV (tk B n i).1 (tk B n i).2.1, nmW (tk B n i).1 (tk B n i).2.1, op, rw, bk, pgL P (mkL 21 st (rgV (tk B n i).1 (tk B n i).2.1) (nmW (tk B n i).1 (tk B n i).2.1) (-1) 0)) else none := by
  rw [mrn_e h]; simp only [mst]
  rw [if_neg (by decide), if_neg (by decide), if_neg (by decide), if_neg (by decide), if_neg (by decide), if_neg (by decide), if_neg (by decide), if_neg (by decide), if_neg (by decide), if_pos trivial]
theorem mst11 {B : Int → Int} {n : Int} {st lf ln op : Int} (h : mrn B n i = some (11, st, lf, ln, op, rw, bk, P)) : mrn B n (i + 1) = if (tk B n i).1 = 3 then some (12, st, lf, ln, op, rw, bk, pgG P (tk B n i).2.1) else none := by
  rw [mrn_e h]; simp only [mst]
  rw [if_neg (by decide), if_neg (by decide), if_neg (by decide), if_neg (by decide), if_neg (by decide), if_neg (by decide), if_neg (by decide), if_neg (by decide), if_neg (by decide), if_neg (by decide), if_pos trivial]
theorem mst12 {B : Int → Int} {n : Int} {st lf ln op : Int} (h : mrn B n i = some (12, st, lf, ln, op, rw, bk, P)) : mrn B n (i + 1) = if (tk B n i).1 = 3 then some (1, st, lf, ln, op, rw, bk, pgG P (tk B n i).2.1) else none := by
  rw [mrn_e h]; simp only [mst]
  rw [if_neg (by decide), if_neg (by decide), if_neg (by decide), if_neg (by decide), if_neg (by decide), if_neg (by decide), if_neg (by decide), if_neg (by decide), if_neg (by decide), if_neg (by decide), if_neg (by decide)]
theorem mln_k {k v op : Int} : (k = 2 → mLine k v op rw bk P = some (4, v, -1, 0, op, rw + 1, bk || decide (160 < rw + 1), P)) ∧ (k = 9 → mLine k v op rw bk P = some (8, -1, -1, 0, op, rw + 1, bk || decide (160 < rw + 1), P)) ∧ (k = 10 → mLine k v op rw bk P = some (9, -1, -1, 0, op, rw, bk, P)) ∧ (k = 12 → mLine k v op rw bk P = some (10, -1, -1, 0, op, rw, bk, P)) ∧ (k = 11 → mLine k v op rw bk P = some (12, -1, -1, 0, op, rw, bk, pgL P (mkL 19 (-1) (-1) 0 (-1) 0))) ∧ (k ≠ 2 → k ≠ 9 → k ≠ 10 → k ≠ 12 → k ≠ 11 → mLine k v op rw bk P = none) := by
  unfold mLine
  refine ⟨fun z => ?_, fun z => ?_, fun z => ?_, fun z => ?_, fun z => ?_, fun a b c d e => ?_⟩
  · rw [if_pos z]
  · rw [if_neg (by omega), if_pos z]
  · rw [if_neg (by omega), if_neg (by omega), if_pos z]
  · rw [if_neg (by omega), if_neg (by omega), if_neg (by omega), if_pos z]
  · rw [if_neg (by omega), if_neg (by omega), if_neg (by omega), if_neg (by omega), if_pos z]
  · rw [if_neg a, if_neg b, if_neg c, if_neg d, if_neg e]
theorem row_tr {a0_n : Int32} {a0_at : Int32} {a0_kind : Int32} {a0_value : Int32} {a1_t : Int32} {a1_a : Int32} {a1_b : Int32} {a1_regA : Int32} {a1_regB : Int32} {a0_t_v : Nat → Int32} {o1 : Int32} {o2 : Int32} {o3 : Int32} {o4 : Int32} {o5 : Int32} {o6 : Int32} {o7 : Int32} {o8 : Int32} {o9 : Int32} {o10 : Int32} {o11 : Int32} {o12 : gTx} (hF : ∀ k, gB (a0_t_v k) (-128) 127) (hn : 0 ≤ a0_n.toInt) (hn2 : a0_n.toInt ≤ 8192) (h : rdT (bA a0_t_v a0_n.toInt) a0_n.toInt i a0_at a0_kind a0_value xt) (hm : mLn (bA a0_t_v a0_n.toInt) a0_n.toInt i rw bk P) (hx : tr_RReader_row a0_n a0_at a0_kind a0_value a1_t a1_a a1_b a1_regA a1_regB a0_t_v xt o1 o2 o3 o4 o5 o6 o7 o8 o9 o10 o11 o12) : ∃ (i2 : Nat) (l : Nat → Int), rdT (bA a0_t_v a0_n.toInt) a0_n.toInt i2 o1 o2 o4 o12 ∧ o3.toInt = (tk (bA a0_t_v a0_n.toInt) a0_n.toInt i2).2.2.1 ∧ mLn (bA a0_t_v a0_n.toInt) a0_n.toInt i2 (rw + 1) (bk || decide (160 < rw + 1)) (pgL P l) ∧ rwE l o6 o7 o8 o9 o10 o11 := by
  obtain ⟨s0, op, m0, -, m1⟩ := mLn_s hm
  obtain ⟨k2, k9, -⟩ := mln_k (k := (tk (bA a0_t_v a0_n.toInt) a0_n.toInt i).1) (v := (tk (bA a0_t_v a0_n.toInt) a0_n.toInt i).2.1) (op := op) (rw := rw) (bk := bk) (P := P)
  refine hx (fun o1 o2 o3 o4 o5 o6 o7 o8 o9 o10 o11 o12 => ∃ (i2 : Nat) (l : Nat → Int), rdT (bA a0_t_v a0_n.toInt) a0_n.toInt i2 o1 o2 o4 o12 ∧ o3.toInt = (tk (bA a0_t_v a0_n.toInt) a0_n.toInt i2).2.2.1 ∧ mLn (bA a0_t_v a0_n.toInt) a0_n.toInt i2 (rw + 1) (bk || decide (160 < rw + 1)) (pgL P l) ∧ rwE l o6 o7 o8 o9 o10 o11) ?_ ?_ ?_ ?_ ?_
  · intro x1 x2 x3 x4 x5 x6 x7 x8 x9 x10 x11 x12 x13 x14 x15 x16 x17 x18 x19 x20 x21 h1 h2 h3 h4 h5 h6 h7 h8 h9 h10 h11 h12 h13 h14 h15 h16 h17 h18 h19 h20 h21
    obtain ⟨e2, ev, d1, -⟩ := w2_1 hF hn hn2 h (by decide) (by decide) h7
    rw [px_2] at e2
    rw [k2 e2] at m1
    obtain ⟨e7, d2, -⟩ := w1_1 hF hn hn2 d1 d1.1.2.2.2.2.2.2.2.2.1 (fun z => by rw [z]; decide) h11
    have m2 := mst4 m1
    rw [if_pos e7] at m2
    have m3 := mst5 m2
    have z := is_0 h13 h14
    have n8 : (tk (bA a0_t_v a0_n.toInt) a0_n.toInt (i + 1 + 1)).1 ≠ 8 := fun y => z ((d2.1.2.2.2.2.2.2.2.2.2.1).mpr y)
    obtain ⟨p1, p2, p3, p4, -⟩ := op_1 hF hn hn2 d2 h20
    rw [if_neg n8, if_pos p1] at m3
    have t5 := p2.1.2.2.2.2.2.1
    have t6 := p2.1.2.2.2.2.2.2.1
    have n5 : (tk (bA a0_t_v a0_n.toInt) a0_n.toInt (i + 1 + 1 + 1)).1 ≠ 5 := fun y => h21 (t5 y)
    exact ⟨i + 1 + 1 + 1, _, p2, p3, Or.inr ⟨_, _, _, _, _, m3, n5, rfl⟩, fun z => absurd z (by show ¬ (14 : Int) ≤ 13; decide), fun _ => ⟨by decide, ev, (p4 (by decide)).1⟩, fun z => absurd z (by show ¬ (14 : Int) = 15; decide), fun z => absurd z (by show ¬ (14 : Int) = 16; decide)⟩
  · intro x1 x2 x3 x4 x5 x6 x7 x8 x9 x10 x11 x12 x13 x14 x15 x16 x17 x18 x19 x20 x21 x22 x23 x24 x25 x26 x27 x28 x29 x30 x31 x32 x33 x34 x35 x36 h1 h2 h3 h4 h5 h6 h7 h8 h9 h10 h11 h12 h13 h14 h15 h16 h17 h18 h19 h20 h21 h22 h23 h24 h25 h26 h27 h28 h29 h30 h31 h32 h33 h34
    obtain ⟨e2, ev, d1, -⟩ := w2_1 hF hn hn2 h (by decide) (by decide) h7
    rw [px_2] at e2
    rw [k2 e2] at m1
    obtain ⟨e7, d2, -⟩ := w1_1 hF hn hn2 d1 d1.1.2.2.2.2.2.2.2.2.1 (fun z => by rw [z]; decide) h11
    have m2 := mst4 m1
    rw [if_pos e7] at m2
    have m3 := mst5 m2
    have z := is_0 h13 h14
    have n8 : (tk (bA a0_t_v a0_n.toInt) a0_n.toInt (i + 1 + 1)).1 ≠ 8 := fun y => z ((d2.1.2.2.2.2.2.2.2.2.2.1).mpr y)
    obtain ⟨p1, p2, p3, p4, -⟩ := op_1 hF hn hn2 d2 h20
    rw [if_neg n8, if_pos p1] at m3
    have t5 := p2.1.2.2.2.2.2.1
    have t6 := p2.1.2.2.2.2.2.2.1
    have o := t6 h21 _ h23
    have e5 : (tk (bA a0_t_v a0_n.toInt) a0_n.toInt (i + 1 + 1 + 1)).1 = 5 := by
      by_cases y : (tk (bA a0_t_v a0_n.toInt) a0_n.toInt (i + 1 + 1 + 1)).1 = 5
      · exact y
      · rw [if_neg y] at o; exact absurd o h24
    rw [if_pos e5] at o
    have m4 := mst6 m3 e5
    obtain ⟨d3, -⟩ := rnx hF hn hn2 p2 (by omega) h28
    obtain ⟨q1, q2, q3, -, q4⟩ := op_1 hF hn hn2 d3 h34
    have m5 := mst7 m4
    rw [if_pos q1] at m5
    obtain ⟨q5, q6, q7⟩ := q4 (by decide)
    have hb := tk_b (bOk_bA (f := a0_t_v) hn) (i + 1 + 1 + 1)
    have v0 := hb.2.2.2.2.2.2.2.2 e5
    refine ⟨i + 1 + 1 + 1 + 1 + 1, _, q2, q3, Or.inl ⟨_, _, _, _, m5⟩, fun _ => ⟨o, ev, ?_, q5⟩, fun z => absurd (show (tk (bA a0_t_v a0_n.toInt) a0_n.toInt (i + 1 + 1 + 1)).2.1 = 14 from z) (by omega), fun z => absurd (show (tk (bA a0_t_v a0_n.toInt) a0_n.toInt (i + 1 + 1 + 1)).2.1 = 15 from z) (by omega), fun z => absurd (show (tk (bA a0_t_v a0_n.toInt) a0_n.toInt (i + 1 + 1 + 1)).2.1 = 16 from z) (by omega)⟩
    rw [q6, q7]; exact (p4 (by decide)).1
  · intro x1 x2 x3 x4 x5 x6 x7 x8 x9 x10 x11 x12 x13 x14 x15 x16 x17 x18 x19 x20 x21 x22 h1 h2 h3 h4 h5 h6 h7 h8 h9 h10 h11 h12 h13 h14 h15 h16 h17 h18 h19 h20 h21 h22 h23 h24
    obtain ⟨e2, ev, d1, -⟩ := w2_1 hF hn hn2 h (by decide) (by decide) h7
    rw [px_2] at e2
    rw [k2 e2] at m1
    obtain ⟨e7, d2, -⟩ := w1_1 hF hn hn2 d1 d1.1.2.2.2.2.2.2.2.2.1 (fun z => by rw [z]; decide) h11
    have m2 := mst4 m1
    rw [if_pos e7] at m2
    have m3 := mst5 m2
    have z := is_0 h13 h14
    have n8 : (tk (bA a0_t_v a0_n.toInt) a0_n.toInt (i + 1 + 1)).1 ≠ 8 := fun y => z ((d2.1.2.2.2.2.2.2.2.2.2.1).mpr y)
    obtain ⟨p1, p2, p3, p4, -⟩ := op_1 hF hn hn2 d2 h20
    rw [if_neg n8, if_pos p1] at m3
    have t5 := p2.1.2.2.2.2.2.1
    have t6 := p2.1.2.2.2.2.2.2.1
    have hb := tk_b (bOk_bA (f := a0_t_v) hn) (i + 1 + 1 + 1)
    have n5 : (tk (bA a0_t_v a0_n.toInt) a0_n.toInt (i + 1 + 1 + 1)).1 ≠ 5 := fun y => by
      have o := t6 (t5 y) _ h23
      rw [if_pos y] at o
      have v0 := (hb.2.2.2.2.2.2.2.2 y).1
      omega
    exact ⟨i + 1 + 1 + 1, _, p2, p3, Or.inr ⟨_, _, _, _, _, m3, n5, rfl⟩, fun z => absurd z (by show ¬ (14 : Int) ≤ 13; decide), fun _ => ⟨h24, ev, (p4 (by decide)).1⟩, fun z => absurd z (by show ¬ (14 : Int) = 15; decide), fun z => absurd z (by show ¬ (14 : Int) = 16; decide)⟩
  · intro x1 x2 x3 x4 x5 x6 x7 x8 x9 x10 x11 x12 x13 x14 x15 x16 x17 h1 h2 h3 h4 h5 h6 h7 h8 h9 h10 h11 h12 h13 h14 h15 h16 h17 h18
    obtain ⟨e2, ev, d1, -⟩ := w2_1 hF hn hn2 h (by decide) (by decide) h7
    rw [px_2] at e2
    rw [k2 e2] at m1
    obtain ⟨e7, d2, -⟩ := w1_1 hF hn hn2 d1 d1.1.2.2.2.2.2.2.2.2.1 (fun z => by rw [z]; decide) h11
    have m2 := mst4 m1
    rw [if_pos e7] at m2
    have m3 := mst5 m2
    have z := (d2.1.2.2.2.2.2.2.2.2.2.1).mp (is_1 h13 h14)
    rw [if_pos z] at m3
    obtain ⟨d3, d4⟩ := rnx hF hn hn2 d2 (by omega) h18
    exact ⟨i + 1 + 1 + 1, _, d3, d4, Or.inl ⟨_, _, _, _, m3⟩, fun z => absurd z (by show ¬ (15 : Int) ≤ 13; decide), fun z => absurd z (by show ¬ (15 : Int) = 14; decide), fun _ => ⟨by decide, ev⟩, fun z => absurd z (by show ¬ (15 : Int) = 16; decide)⟩
  · intro x1 x2 x3 x4 x5 x6 x7 x8 x9 x10 x11 x12 x13 x14 x15 h1 h2 h3 h4 h5 h6 h7 h8 h9 h10 h11 h12 h13
    have z := (h.1.2.2.2.2.2.2.2.2.2.2.1).mp (is_1 h2 h3)
    rw [k9 z] at m1
    obtain ⟨d1, -⟩ := rnx hF hn hn2 h (by omega) h7
    obtain ⟨p1, p2, p3, p4, -⟩ := op_1 hF hn hn2 d1 h13
    have m2 := mst8 m1
    rw [if_pos p1] at m2
    refine ⟨i + 1 + 1, _, p2, p3, Or.inl ⟨_, _, _, _, m2⟩, fun z => absurd z (by show ¬ (16 : Int) ≤ 13; decide), fun z => absurd z (by show ¬ (16 : Int) = 14; decide), fun z => absurd z (by show ¬ (16 : Int) = 15; decide), fun _ => ⟨by decide, (p4 (by decide)).1⟩⟩
theorem row_tx {a0_n : Int32} {a0_at : Int32} {a0_kind : Int32} {a0_value : Int32} {a1_a : Int32} {a1_b : Int32} {a1_regA : Int32} {a1_regB : Int32} {a0_t_v : Nat → Int32} (hF : ∀ k, gB (a0_t_v k) (-128) 127) (hn : 0 ≤ a0_n.toInt) (hn2 : a0_n.toInt ≤ 8192) (h : rdT (bA a0_t_v a0_n.toInt) a0_n.toInt i a0_at a0_kind a0_value xt) (hm : mLn (bA a0_t_v a0_n.toInt) a0_n.toInt i rw bk P) (hk : (tk (bA a0_t_v a0_n.toInt) a0_n.toInt i).1 = 2 ∨ (tk (bA a0_t_v a0_n.toInt) a0_n.toInt i).1 = 9) (hx : tx_RReader_row a0_n a0_at a0_kind a0_value a1_a a1_b a1_regA a1_regB a0_t_v xt) : rjt (bA a0_t_v a0_n.toInt) a0_n.toInt := by
  obtain ⟨s0, op, m0, -, m1⟩ := mLn_s hm
  obtain ⟨k2, k9, -⟩ := mln_k (k := (tk (bA a0_t_v a0_n.toInt) a0_n.toInt i).1) (v := (tk (bA a0_t_v a0_n.toInt) a0_n.toInt i).2.1) (op := op) (rw := rw) (bk := bk) (P := P)
  refine hx (rjt (bA a0_t_v a0_n.toInt) a0_n.toInt) ?_ ?_ ?_ ?_ ?_
  · intro x1 h1 h2 h3 h4
    have z := w2_0 h4
    rw [px_2] at z
    have n9 : ¬ (tk (bA a0_t_v a0_n.toInt) a0_n.toInt i).1 = 9 := fun y => is_0 h2 h3 ((h.1.2.2.2.2.2.2.2.2.2.2.1).mpr y)
    have n2 := h.1.2.1
    exfalso
    omega
  · intro x1 x2 x3 x4 x5 x6 h1 h2 h3 h4 h5 h6 h7 h8
    obtain ⟨e2, ev, d1, -⟩ := w2_1 hF hn hn2 h (by decide) (by decide) h7
    rw [px_2] at e2
    rw [k2 e2] at m1
    have z := w1_0 h8
    have n7 : (tk (bA a0_t_v a0_n.toInt) a0_n.toInt (i + 1)).1 ≠ 7 := fun y => z ((d1.1.2.2.2.2.2.2.2.2.1).mpr y)
    have m2 := mst4 m1
    rw [if_neg n7] at m2
    exact ⟨_, _, m1, m2, fun _ => by show (4 : Int) ≠ 1; decide⟩
  · intro x1 x2 x3 x4 x5 x6 x7 x8 x9 x10 x11 x12 h1 h2 h3 h4 h5 h6 h7 h8 h9 h10 h11 h12 h13 h14 h15
    obtain ⟨e2, ev, d1, -⟩ := w2_1 hF hn hn2 h (by decide) (by decide) h7
    rw [px_2] at e2
    rw [k2 e2] at m1
    obtain ⟨e7, d2, -⟩ := w1_1 hF hn hn2 d1 d1.1.2.2.2.2.2.2.2.2.1 (fun z => by rw [z]; decide) h11
    have m2 := mst4 m1
    rw [if_pos e7] at m2
    have m3 := mst5 m2
    have z := is_0 h13 h14
    have n8 : (tk (bA a0_t_v a0_n.toInt) a0_n.toInt (i + 1 + 1)).1 ≠ 8 := fun y => z ((d2.1.2.2.2.2.2.2.2.2.2.1).mpr y)
    have z2 := op_0 h15
    have e2' := d2.1.2.1
    have e4' := d2.1.2.2.2.1
    rw [if_neg n8, if_neg (by omega)] at m3
    exact ⟨_, _, m2, m3, fun _ => by show (5 : Int) ≠ 1; decide⟩
  · intro x1 x2 x3 x4 x5 x6 x7 x8 x9 x10 x11 x12 x13 x14 x15 x16 x17 x18 x19 x20 x21 x22 x23 x24 x25 x26 x27 h1 h2 h3 h4 h5 h6 h7 h8 h9 h10 h11 h12 h13 h14 h15 h16 h17 h18 h19 h20 h21 h22 h23 h24 h25 h26 h27 h28 h29
    obtain ⟨e2, ev, d1, -⟩ := w2_1 hF hn hn2 h (by decide) (by decide) h7
    rw [px_2] at e2
    rw [k2 e2] at m1
    obtain ⟨e7, d2, -⟩ := w1_1 hF hn hn2 d1 d1.1.2.2.2.2.2.2.2.2.1 (fun z => by rw [z]; decide) h11
    have m2 := mst4 m1
    rw [if_pos e7] at m2
    have m3 := mst5 m2
    have z := is_0 h13 h14
    have n8 : (tk (bA a0_t_v a0_n.toInt) a0_n.toInt (i + 1 + 1)).1 ≠ 8 := fun y => z ((d2.1.2.2.2.2.2.2.2.2.2.1).mpr y)
    obtain ⟨p1, p2, p3, p4, -⟩ := op_1 hF hn hn2 d2 h20
    rw [if_neg n8, if_pos p1] at m3
    have t6 := p2.1.2.2.2.2.2.2.1
    have o := t6 h21 _ h23
    have e5 : (tk (bA a0_t_v a0_n.toInt) a0_n.toInt (i + 1 + 1 + 1)).1 = 5 := by
      by_cases y : (tk (bA a0_t_v a0_n.toInt) a0_n.toInt (i + 1 + 1 + 1)).1 = 5
      · exact y
      · rw [if_neg y] at o; exact absurd o h24
    have m4 := mst6 m3 e5
    obtain ⟨d3, -⟩ := rnx hF hn hn2 p2 (by omega) h28
    have z2 := op_0 h29
    have e2' := d3.1.2.1
    have e4' := d3.1.2.2.2.1
    have m5 := mst7 m4
    rw [if_neg (by omega)] at m5
    exact ⟨_, _, m4, m5, fun _ => by show (7 : Int) ≠ 1; decide⟩
  · intro x1 x2 x3 x4 x5 x6 h1 h2 h3 h4 h5 h6 h7 h8
    have z := (h.1.2.2.2.2.2.2.2.2.2.2.1).mp (is_1 h2 h3)
    rw [k9 z] at m1
    obtain ⟨d1, -⟩ := rnx hF hn hn2 h (by omega) h7
    have m2 := mst8 m1
    have z2 := op_0 h8
    have e2 := d1.1.2.1
    have e4 := d1.1.2.2.2.1
    rw [if_neg (by omega)] at m2
    exact ⟨_, _, m1, m2, fun _ => by show (8 : Int) ≠ 1; decide⟩
end RRE
