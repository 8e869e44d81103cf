section MGC
variable {Q : gPg} {W Nm b j v u w : Nat}
/-- the class's graph is that of Q -/
def gfC (Q : gPg) (Nm W : Nat) (nam wor : Int32) (jo sd : Nat → Int64) (dg : Nat → Int32) : Prop :=
  nam.toInt = (Nm : Int) ∧ wor.toInt = (W : Int) ∧ Nm ≤ 64 * W ∧ W ≤ 12 ∧ nmO Q Nm ∧ (∀ x y, x < Nm → y < 64 * W → (gbit jo (64 * (x * W) + y) = true ↔ JJ Q x y)) ∧ (∀ v, v < 64 * W → (gbit sd v = true ↔ Sd Q false 2000 v)) ∧ (∀ v, v < Nm → dg v = dgc Q v)
theorem JJ_W {x y : Nat} (hn : nmO Q Nm) (hW : Nm ≤ 64 * W) (hW2 : W ≤ 12) : JJ Q x y → x < 64 * W ∧ y < 64 * W := fun h => by
  have := JJ_lt h
  by_cases c : Nm ≤ 2000
  · have q := JJ_n hn c h
    omega
  · omega
theorem gfC_b {a2 : Int32} {a3 : Int32} {Code_blocks : Int32} {Code_lines : Int32} {Graph_joined : Nat → Int64} {Graph_standing : Nat → Int64} {Graph_degree : Nat → Int32} {Code_first : Nat → Int32} {Code_firstGoal : Nat → Int32} {Code_secondGoal : Nat → Int32} {Code_op : Nat → Int32} {Code_set : Nat → Int32} {Code_left : Nat → Int32} {Code_right : Nat → Int32} {Code_rightNumber : Nat → Int32} {Live_in : Nat → Int64} {Live_used : Nat → Int64} {Live_set : Nat → Int64} {Live_now : Nat → Int64} {o1 : Int32} {o2 : Int32} {o3 : Int32} {o4 : Int32} {o5 : Int32} {o6 : Nat → Int64} {o7 : Nat → Int64} {o8 : Nat → Int32} {o9 : Nat → Int64} {o10 : Nat → Int64} {o11 : Nat → Int64} {o12 : Nat → Int64} {cln : Nat → Int32} (hc : cdP Code_blocks Code_lines Code_first Code_firstGoal Code_secondGoal Code_op Code_set Code_left cln Code_right Code_rightNumber Q) (hN : a2.toInt = (Nm : Int)) (hN2 : Nm ≤ 720) (ha : a3.toInt = 0) (hn : nmO Q Nm) (h : tr_Graph_build a2 a3 Code_blocks Code_lines Graph_joined Graph_standing Graph_degree Code_first Code_firstGoal Code_secondGoal Code_op Code_set Code_left Code_right Code_rightNumber Live_in Live_used Live_set Live_now o1 o2 o3 o4 o5 o6 o7 o8 o9 o10 o11 o12) : gfC Q Nm ((Nm + 63) / 64) o1 o2 o6 o7 o8 := by
  obtain ⟨e1, e2, -, -, e3, e4, e5, -⟩ := gb_tr (sl := false) hc hN hN2 (by rw [ha]; decide) h
  have hW : Nm ≤ 64 * ((Nm + 63) / 64) := by omega
  refine ⟨e1, e2, hW, by omega, hn, fun x y hx hy => (e3 x y hx hy).trans (Jn_JJ hn (Nat.le_refl _) (by omega)), fun v hv => (e4 v hv).trans ⟨fun z => (Sd_i hn (by omega) z).1, fun z => (Sd_i hn (Nat.le_refl _) z).1⟩, fun v hv => dgc_e ?_⟩
  refine isD_c (isD_w (e5 v hv) (show (Nm + 63) / 64 ≤ 32 by omega) (fun y hy z => ?_)) (fun y hy => Jn_JJ hn (Nat.le_refl _) (by omega))
  have := (Jn_i hn (Nat.le_refl _) z).2.2
  omega
theorem and1 {x y : Int64} (hv : y = x &&& 1) : y = bif x.toBitVec.getLsbD 0 then 1 else 0 := by
  have o : ∀ n, (1 : Int64).toBitVec.getLsbD n = decide (n = 0) := fun n => by
    show (1#64).getLsbD n = _
    rw [BitVec.getLsbD_one]; simp
  cases hb : x.toBitVec.getLsbD 0
  · refine bit_eq (fun n hn => ?_)
    rw [bit_and hv, o]
    by_cases c : n = 0
    · rw [c, hb]; rfl
    · simp [c]
  · refine bit_eq (fun n hn => ?_)
    rw [bit_and hv]
    show _ = (1 : Int64).toBitVec.getLsbD n
    rw [o]
    by_cases c : n = 0
    · rw [c, hb]; rfl
    · simp [c]
theorem lsh1 {x y t : Int64} {i r : Int32} {z : Nat} (hy : y = (x.toUInt64 >>> (i.toInt64.toUInt64 &&& Int64.toUInt64 63)).toInt64) (ht : t = y &&& 1) (hr : r = t.toInt32) (hi : i.toInt = (z : Int)) (hz : z < 64) : r = bif x.toBitVec.getLsbD z then 1 else 0 := by
  have e1 : (i.toInt64.toUInt64 &&& Int64.toUInt64 63) = (i.toInt64 &&& 63).toUInt64 := rfl
  rw [e1, lb_Qcnt i (by omega), hi, Int.toNat_natCast] at hy
  have b0 : y.toBitVec.getLsbD 0 = x.toBitVec.getLsbD z := by
    rw [hy]
    show (x.toBitVec >>> ((Int64.ofNat (z % 64)).toBitVec % 64#64)).getLsbD 0 = _
    have h5 : ((Int64.ofNat (z % 64)).toBitVec % 64#64).toNat = z := by
      show ((z % 64) % 2 ^ 64) % 64 = z
      omega
    show (x.toBitVec >>> ((Int64.ofNat (z % 64)).toBitVec % 64#64).toNat).getLsbD 0 = _
    rw [BitVec.getLsbD_ushiftRight, h5, Nat.add_zero]
  have q := and1 ht
  rw [b0] at q
  rw [hr, q]
  cases x.toBitVec.getLsbD z <;> rfl
theorem cb57 {l5_1 : Int32} {Graph_degree : Nat → Int32} {c1 : Int64} {c2 : Int64} {a3 : Int32} {s1 : Int32} {s2 : Int64} {s3 : Int32} {k : Nat} {e1 : Int32} (hw : l5_1.toInt = (w : Int)) (hw2 : w < 12) (h : tl_Graph_canBeOne_57 l5_1 Graph_degree c1 c2 a3 s1 s2 s3 k e1) : ∀ n : Nat, s1.toInt = (n : Int) → (∀ i, i < n → s2.toBitVec.getLsbD i = false) → 0 ≤ s3.toInt → s3.toInt ≤ 2000 + (n : Int) → e1.toInt = s3.toInt + (cntP (fun i => s2.toBitVec.getLsbD i = true ∧ a3.toInt ≤ (bif (c1.toBitVec.getLsbD i && c2.toBitVec.getLsbD i) then Graph_degree (64 * w + i) - 1 else Graph_degree (64 * w + i)).toInt) 64 : Int) := by
  refine h (fun s1 s2 s3 _ e1 => ∀ n : Nat, s1.toInt = (n : Int) → (∀ i, i < n → s2.toBitVec.getLsbD i = false) → 0 ≤ s3.toInt → s3.toInt ≤ 2000 + (n : Int) → e1.toInt = s3.toInt + (cntP (fun i => s2.toBitVec.getLsbD i = true ∧ a3.toInt ≤ (bif (c1.toBitVec.getLsbD i && c2.toBitVec.getLsbD i) then Graph_degree (64 * w + i) - 1 else Graph_degree (64 * w + i)).toInt) 64 : Int)) ?_ ?_ ?_ ?_
  · intro l12_2 l10_2 l4_2 h1 h2
    intro n hn hz _ _
    rw [cntP_n (fun i hi z => by have q := z.1; rw [hz i (by omega)] at q; cases q)]
    exact (Int.add_zero _).symm
  · intro l12_2 l10_2 l4_2 h1 h2 h3
    intro n hn hz _ _
    rw [cntP_n (fun i hi z => by have q := z.1; rw [h3] at q; simp at q)]
    exact (Int.add_zero _).symm
  · intro l12_2 l10_2 l4_2 x1 x2 x3 x4 x5 x6 x7 x8 x9 x10 x11 x12 x13 k e1 h1 h2 h3 h4 h5 h6 h7 h8 h9 h10 h11 h12 h13 h14 h15 h16 h17 h18 ih
    intro n hn hz p1 p2
    obtain ⟨z, z1, z2, z3, z4⟩ := lw_tr h3 h5
    have zn : n ≤ z := by
      by_cases c : z < n
      · rw [hz z c] at z3; cases z3
      · omega
    have n64 : n < 64 := by omega
    have cl := bit_neg1 h6 h7 z1 z3 z4
    have hz' : ∀ i, i < n + 1 → x3.toBitVec.getLsbD i = false := fun i hi => by
      rw [cl i (by omega)]
      by_cases c : i = z
      · simp [c]
      · rw [z4 i (by omega), Bool.false_and]
    have e5 : x5.toNatClampNeg = 64 * w + z := nnE (by omega)
    have e10 := lsh1 h12 h13 h14 z2 z1
    rw [bit_and h11] at e10
    have e11 : x11 = bif (c1.toBitVec.getLsbD z && c2.toBitVec.getLsbD z) then Graph_degree (64 * w + z) - 1 else Graph_degree (64 * w + z) := by
      rw [h15, e10, h10, e5]
      cases (c1.toBitVec.getLsbD z && c2.toBitVec.getLsbD z)
      · exact Int32.sub_zero _
      · rfl
    rw [e11] at h16
    have oth : ∀ b, b < 64 → b ≠ z → ((l10_2.toBitVec.getLsbD b = true ∧ a3.toInt ≤ (bif (c1.toBitVec.getLsbD b && c2.toBitVec.getLsbD b) then Graph_degree (64 * w + b) - 1 else Graph_degree (64 * w + b)).toInt) ↔ (x3.toBitVec.getLsbD b = true ∧ a3.toInt ≤ (bif (c1.toBitVec.getLsbD b && c2.toBitVec.getLsbD b) then Graph_degree (64 * w + b) - 1 else Graph_degree (64 * w + b)).toInt)) := fun b hb hbz => by
      rw [cl b hb]
      simp [hbz]
    have nz : ¬ (x3.toBitVec.getLsbD z = true ∧ a3.toInt ≤ (bif (c1.toBitVec.getLsbD z && c2.toBitVec.getLsbD z) then Graph_degree (64 * w + z) - 1 else Graph_degree (64 * w + z)).toInt) := fun q => by
      have q1 := q.1
      rw [cl z z1] at q1
      simp at q1
    have i1 := ih (n + 1) (by omega) hz' (by omega) (by omega)
    have cx := cntP_c6 (T := fun i => l10_2.toBitVec.getLsbD i = true ∧ a3.toInt ≤ (bif (c1.toBitVec.getLsbD i && c2.toBitVec.getLsbD i) then Graph_degree (64 * w + i) - 1 else Graph_degree (64 * w + i)).toInt) (U := fun i => x3.toBitVec.getLsbD i = true ∧ a3.toInt ≤ (bif (c1.toBitVec.getLsbD i && c2.toBitVec.getLsbD i) then Graph_degree (64 * w + i) - 1 else Graph_degree (64 * w + i)).toInt) (n := 64) (fun b hb => by
      by_cases c : b = z
      · rw [c]
        exact ⟨fun q => absurd q.2 (by omega), fun q => absurd q nz⟩
      · exact oth b hb c)
    omega
  · intro l12_2 l10_2 l4_2 x1 x2 x3 x4 x5 x6 x7 x8 x9 x10 x11 x12 x13 k e1 h1 h2 h3 h4 h5 h6 h7 h8 h9 h10 h11 h12 h13 h14 h15 h16 h17 h18 ih
    intro n hn hz p1 p2
    obtain ⟨z, z1, z2, z3, z4⟩ := lw_tr h3 h5
    have zn : n ≤ z := by
      by_cases c : z < n
      · rw [hz z c] at z3; cases z3
      · omega
    have n64 : n < 64 := by omega
    have cl := bit_neg1 h6 h7 z1 z3 z4
    have hz' : ∀ i, i < n + 1 → x3.toBitVec.getLsbD i = false := fun i hi => by
      rw [cl i (by omega)]
      by_cases c : i = z
      · simp [c]
      · rw [z4 i (by omega), Bool.false_and]
    have e5 : x5.toNatClampNeg = 64 * w + z := nnE (by omega)
    have e10 := lsh1 h12 h13 h14 z2 z1
    rw [bit_and h11] at e10
    have e11 : x11 = bif (c1.toBitVec.getLsbD z && c2.toBitVec.getLsbD z) then Graph_degree (64 * w + z) - 1 else Graph_degree (64 * w + z) := by
      rw [h15, e10, h10, e5]
      cases (c1.toBitVec.getLsbD z && c2.toBitVec.getLsbD z)
      · exact Int32.sub_zero _
      · rfl
    rw [e11] at h16
    have oth : ∀ b, b < 64 → b ≠ z → ((l10_2.toBitVec.getLsbD b = true ∧ a3.toInt ≤ (bif (c1.toBitVec.getLsbD b && c2.toBitVec.getLsbD b) then Graph_degree (64 * w + b) - 1 else Graph_degree (64 * w + b)).toInt) ↔ (x3.toBitVec.getLsbD b = true ∧ a3.toInt ≤ (bif (c1.toBitVec.getLsbD b && c2.toBitVec.getLsbD b) then Graph_degree (64 * w + b) - 1 else Graph_degree (64 * w + b)).toInt)) := fun b hb hbz => by
      rw [cl b hb]
      simp [hbz]
    have nz : ¬ (x3.toBitVec.getLsbD z = true ∧ a3.toInt ≤ (bif (c1.toBitVec.getLsbD z && c2.toBitVec.getLsbD z) then Graph_degree (64 * w + z) - 1 else Graph_degree (64 * w + z)).toInt) := fun q => by
      have q1 := q.1
      rw [cl z z1] at q1
      simp at q1
    have a12 : x12.toInt = l4_2.toInt + 1 := by have q := px_add h17 (by rw [px_1]; omega) (by rw [px_1]; omega); rw [px_1] at q; exact q
    have i1 := ih (n + 1) (by omega) hz' (by omega) (by omega)
    have cx := cntP_x (T := fun i => l10_2.toBitVec.getLsbD i = true ∧ a3.toInt ≤ (bif (c1.toBitVec.getLsbD i && c2.toBitVec.getLsbD i) then Graph_degree (64 * w + i) - 1 else Graph_degree (64 * w + i)).toInt) (U := fun i => x3.toBitVec.getLsbD i = true ∧ a3.toInt ≤ (bif (c1.toBitVec.getLsbD i && c2.toBitVec.getLsbD i) then Graph_degree (64 * w + i) - 1 else Graph_degree (64 * w + i)).toInt) 64 z1 oth ⟨z3, h16⟩ nz
    omega
theorem cb6 {Graph_words : Int32} {a1 : Int32} {Graph_joined : Nat → Int64} {a2 : Int32} {Graph_degree : Nat → Int32} {a3 : Int32} {s1 : Int32} {s2 : Int32} {k : Nat} {e1 : Int32} {nam : Int32} {sd : Nat → Int64} (hg : gfC Q Nm W nam Graph_words Graph_joined sd Graph_degree) (hv : a1.toInt = (v : Int)) (hu : a2.toInt = (u : Int)) (hv2 : v < Nm) (hu2 : u < Nm) (h : tl_Graph_canBeOne_6 Graph_words a1 Graph_joined a2 Graph_degree a3 s1 s2 k e1) : ∀ m : Nat, s1.toInt = (m : Int) → m ≤ W → s2.toInt = (cntP (crw (JJ Q) (dgc Q) a3.toInt v u) (64 * m) : Int) → e1.toInt = (cntP (crw (JJ Q) (dgc Q) a3.toInt v u) (64 * W) : Int) := by
  obtain ⟨-, gW, gN, gW2, gn, gJ, -, gd⟩ := hg
  refine h (fun s1 s2 _ e1 => ∀ m : Nat, s1.toInt = (m : Int) → m ≤ W → s2.toInt = (cntP (crw (JJ Q) (dgc Q) a3.toInt v u) (64 * m) : Int) → e1.toInt = (cntP (crw (JJ Q) (dgc Q) a3.toInt v u) (64 * W) : Int)) ?_ ?_
  · intro l5_1 l4_1 h1 h2
    intro m hm hmW hs
    rw [hs, show m = W by omega]
  · intro l5_1 l4_1 x1 x2 x3 x4 x5 x6 x7 x8 x9 k e1 h1 h2 h3 h4 h5 h6 h7 h8 h9 h10 h11 ih
    intro m hm hmW hs
    have ep : x1.toInt = ((v * W : Nat) : Int) := by rw [h3, hv, gW]; exact (Int.natCast_mul _ _).symm
    have eq : x4.toInt = ((u * W : Nat) : Int) := by rw [h6, hu, gW]; exact (Int.natCast_mul _ _).symm
    have ei : x2.toNatClampNeg = v * W + m := nnE (by omega)
    have ej : x5.toNatClampNeg = u * W + m := nnE (by omega)
    rw [ei] at h5
    rw [ej] at h8
    have hmW2 : m < W := by omega
    have bv : ∀ i, i < 64 → (x3.toBitVec.getLsbD i = true ↔ JJ Q v (64 * m + i)) := fun i hi => by
      rw [← gJ v (64 * m + i) hv2 (by omega)]
      unfold gbit
      rw [h5, show (64 * (v * W) + (64 * m + i)) / 64 = v * W + m by omega, show (64 * (v * W) + (64 * m + i)) % 64 = i by omega]
    have bu : ∀ i, i < 64 → (x6.toBitVec.getLsbD i = true ↔ JJ Q u (64 * m + i)) := fun i hi => by
      rw [← gJ u (64 * m + i) hu2 (by omega)]
      unfold gbit
      rw [h8, show (64 * (u * W) + (64 * m + i)) / 64 = u * W + m by omega, show (64 * (u * W) + (64 * m + i)) % 64 = i by omega]
    have le := cntP_le (T := crw (JJ Q) (dgc Q) a3.toInt v u) (64 * m)
    have st := cb57 hm (by omega) h10 0 (by decide) (fun i hi => absurd hi (Nat.not_lt_zero i)) (by omega) (by omega)
    have cc := cntP_c6 (T := fun i => x7.toBitVec.getLsbD i = true ∧ a3.toInt ≤ (bif (x3.toBitVec.getLsbD i && x6.toBitVec.getLsbD i) then Graph_degree (64 * m + i) - 1 else Graph_degree (64 * m + i)).toInt) (U := fun i => crw (JJ Q) (dgc Q) a3.toInt v u (64 * m + i)) (n := 64) (fun i hi => by
      rw [bit_or h9]
      have q1 := bv i hi
      have q2 := bu i hi
      unfold crw
      rw [← q1, ← q2]
      have qd : x3.toBitVec.getLsbD i = true ∨ x6.toBitVec.getLsbD i = true → Graph_degree (64 * m + i) = dgc Q (64 * m + i) := fun z => gd _ (z.elim (fun y => (JJ_nn gn (q1.mp y)).2) (fun y => (JJ_nn gn (q2.mp y)).2))
      cases ha : x3.toBitVec.getLsbD i <;> cases hb : x6.toBitVec.getLsbD i
      · simp
      · have d := qd (Or.inr hb)
        simp [d]
      · have d := qd (Or.inl ha)
        simp [d]
      · have d := qd (Or.inl ha)
        simp [d])
    refine ih (m + 1) (by omega) (by omega) ?_
    rw [show 64 * (m + 1) = 64 * m + 64 by omega, cntP_add 64, st, cc, hs, Int.natCast_add]
theorem cbo_tr {a1 : Int32} {a2 : Int32} {a3 : Int32} {Graph_words : Int32} {Graph_joined : Nat → Int64} {Graph_degree : Nat → Int32} {o1 : Int32} {nam : Int32} {sd : Nat → Int64} (hg : gfC Q Nm W nam Graph_words Graph_joined sd Graph_degree) (hv : a1.toInt = (v : Int)) (hu : a2.toInt = (u : Int)) (hv2 : v < Nm) (hu2 : u < Nm) (h : tr_Graph_canBeOne a1 a2 a3 Graph_words Graph_joined Graph_degree o1) : o1.toInt ≠ 0 ↔ (cntP (crw (JJ Q) (dgc Q) a3.toInt v u) 2048 : Int) < a3.toInt := by
  have z : cntP (crw (JJ Q) (dgc Q) a3.toInt v u) 2048 = cntP (crw (JJ Q) (dgc Q) a3.toInt v u) (64 * W) := by
    refine cntP_zz (by have := hg.2.2.2.1; omega) (fun r hr q => ?_)
    have hl : JJ Q v r ∨ JJ Q u r := q.elim (fun y => Or.inl y.1) (fun y => y.2.1)
    have hN := hg.2.2.1
    have := hl.elim (fun y => (JJ_nn hg.2.2.2.2.1 y).2) (fun y => (JJ_nn hg.2.2.2.2.1 y).2)
    omega
  refine h (fun o1 => o1.toInt ≠ 0 ↔ (cntP (crw (JJ Q) (dgc Q) a3.toInt v u) 2048 : Int) < a3.toInt) ?_ ?_
  · intro x1 h1 h2
    have q := cb6 hg hv hu hv2 hu2 h1 0 (by decide) (Nat.zero_le _) (by rfl)
    rw [z, ← q, px_0]
    exact ⟨fun y => absurd rfl y, fun y => by omega⟩
  · intro x1 h1 h2
    have q := cb6 hg hv hu hv2 hu2 h1 0 (by decide) (Nat.zero_le _) (by rfl)
    rw [z, ← q, px_1]
    exact ⟨fun _ => h2, fun _ => by decide⟩
theorem arj_tr {a1 : Int32} {a2 : Int32} {Graph_names : Int32} {Graph_words : Int32} {Graph_joined : Nat → Int64} {o1 : Int32} {sd : Nat → Int64} {dg : Nat → Int32} (hg : gfC Q Nm W Graph_names Graph_words Graph_joined sd dg) (hv : a1.toInt = (v : Int)) (hu : a2.toInt = (u : Int)) (hv2 : v < Nm) (hu2 : u < Nm) (h : tr_Graph_areJoined a1 a2 Graph_names Graph_words Graph_joined o1) : o1.toInt ≠ 0 ↔ JJ Q v u := by
  obtain ⟨gN, gW, gNW, gW2, gn, gJ, -, gd⟩ := hg
  refine h (fun o1 => o1.toInt ≠ 0 ↔ JJ Q v u) ?_ ?_ ?_ ?_ ?_ ?_
  · intro h1
    omega
  · intro h1 h2
    omega
  · intro h1 h2 h3
    omega
  · intro h1 h2 h3 h4
    omega
  · intro x1 x2 x3 x4 x5 x6 h1 h2 h3 h4 h5 h6 h7 h8 h9 h10 h11
    have ep : x1.toInt = ((v * W : Nat) : Int) := by rw [h5, hv, gW]; exact (Int.natCast_mul _ _).symm
    have tb := tst_bit (f := Graph_joined) (a := v * W) (m := u) (i := x3) (by omega) hu h8 h9 h10
    have gj := gJ v u hv2 (by omega)
    rw [px_0]
    exact ⟨fun y => absurd rfl y, fun y => by rw [← gj, tb.mp h11] at y; cases y⟩
  · intro x1 x2 x3 x4 x5 x6 h1 h2 h3 h4 h5 h6 h7 h8 h9 h10 h11
    have ep : x1.toInt = ((v * W : Nat) : Int) := by rw [h5, hv, gW]; exact (Int.natCast_mul _ _).symm
    have tb := tst_bit (f := Graph_joined) (a := v * W) (m := u) (i := x3) (by omega) hu h8 h9 h10
    have gj := gJ v u hv2 (by omega)
    rw [px_1]
    refine ⟨fun _ => gj.mp ?_, fun _ => by decide⟩
    cases e : gbit Graph_joined (64 * (v * W) + u)
    · exact absurd (tb.mpr e) h11
    · rfl
theorem cmg_tr {a1 : Int32} {a2 : Int32} {a3 : Int32} {Graph_names : Int32} {Graph_words : Int32} {Graph_joined : Nat → Int64} {Graph_degree : Nat → Int32} {o1 : Int32} {sd : Nat → Int64} (hg : gfC Q Nm W Graph_names Graph_words Graph_joined sd Graph_degree) (hv : a1.toInt = (v : Int)) (hu : a2.toInt = (u : Int)) (hv2 : v < Nm) (hu2 : u < Nm) (h : tr_Giver_canMerge a1 a2 a3 Graph_names Graph_words Graph_joined Graph_degree o1) : o1.toInt ≠ 0 ↔ v = u ∨ mgc Q a3.toInt v u := by
  refine h (fun o1 => o1.toInt ≠ 0 ↔ v = u ∨ mgc Q a3.toInt v u) ?_ ?_ ?_ ?_ ?_ ?_
  · intro h1
    rw [px_1]
    exact ⟨fun _ => Or.inl (by omega), fun _ => by decide⟩
  · intro h1 h2
    rw [px_0]
    exact ⟨fun y => absurd rfl y, fun y => y.elim (fun z => by omega) (fun z => by have a := z.1; have b := z.2.1; omega)⟩
  · intro h1 h2 h3
    rw [px_0]
    exact ⟨fun y => absurd rfl y, fun y => y.elim (fun z => by omega) (fun z => by have a := z.1; have b := z.2.1; omega)⟩
  · intro x1 h1 h2 h3 h4 h5 h6 h7
    have qa := arj_tr hg hv hu hv2 hu2 h4
    have qc := cbo_tr hg hv hu hv2 hu2 h6
    rw [px_0] at qa
    have q0 : ¬ JJ Q v u := fun z => qa.mpr z rfl
    rw [px_0]
    exact ⟨fun y => absurd rfl y, fun y => y.elim (fun z => by omega) (fun z => absurd h7 (qc.mpr z.2.2.2))⟩
  · intro x1 h1 h2 h3 h4 h5 h6 h7
    have qa := arj_tr hg hv hu hv2 hu2 h4
    have qc := cbo_tr hg hv hu hv2 hu2 h6
    rw [px_0] at qa
    have q0 : ¬ JJ Q v u := fun z => qa.mpr z rfl
    rw [px_1]
    exact ⟨fun _ => Or.inr ⟨by omega, by omega, q0, qc.mp h7⟩, fun _ => by decide⟩
  · intro h1 h2 h3 h4
    have qa := arj_tr hg hv hu hv2 hu2 h4
    rw [px_1] at qa
    have q1 := qa.mp (by decide)
    rw [px_0]
    exact ⟨fun y => absurd rfl y, fun y => y.elim (fun z => by omega) (fun z => absurd q1 z.2.2.1)⟩
theorem ntm_tl {Code_lines : Int32} {Code_op : Nat → Int32} {Code_set : Nat → Int32} {Code_left : Nat → Int32} {a1 : Int32} {Graph_names : Int32} {Graph_words : Int32} {Graph_joined : Nat → Int64} {Graph_degree : Nat → Int32} {s1 : Int32} {k : Nat} {e1 : Int32} {sd : Nat → Int64} {bl : Int32} {fi fg sg cln crt crn : Nat → Int32} (hc : cdP bl Code_lines fi fg sg Code_op Code_set Code_left cln crt crn Q) (hg : gfC Q Nm W Graph_names Graph_words Graph_joined sd Graph_degree) (h : tl_Giver_nextToMerge_2 Code_lines Code_op Code_set Code_left a1 Graph_names Graph_words Graph_joined Graph_degree s1 k e1) : ∀ i : Nat, s1.toInt = (i : Int) → (k = 58 → ∀ b j, i ≤ fsm Q.2.1 b + j → ¬ mgb Q a1.toInt b j) ∧ (k = 50 → ∃ b j, e1.toInt = ((fsm Q.2.1 b + j : Nat) : Int) ∧ mgb Q a1.toInt b j ∧ ∀ c l, mgb Q a1.toInt c l → i ≤ fsm Q.2.1 c + l → fsm Q.2.1 b + j ≤ fsm Q.2.1 c + l) := by
  have gn := hg.2.2.2.2.1
  have stp : ∀ {i : Nat} {k : Nat} {e1 : Int32}, (∀ b j, i = fsm Q.2.1 b + j → ¬ mgb Q a1.toInt b j) → ((k = 58 → ∀ b j, i + 1 ≤ fsm Q.2.1 b + j → ¬ mgb Q a1.toInt b j) ∧ (k = 50 → ∃ b j, e1.toInt = ((fsm Q.2.1 b + j : Nat) : Int) ∧ mgb Q a1.toInt b j ∧ ∀ c l, mgb Q a1.toInt c l → i + 1 ≤ fsm Q.2.1 c + l → fsm Q.2.1 b + j ≤ fsm Q.2.1 c + l)) → ((k = 58 → ∀ b j, i ≤ fsm Q.2.1 b + j → ¬ mgb Q a1.toInt b j) ∧ (k = 50 → ∃ b j, e1.toInt = ((fsm Q.2.1 b + j : Nat) : Int) ∧ mgb Q a1.toInt b j ∧ ∀ c l, mgb Q a1.toInt c l → i ≤ fsm Q.2.1 c + l → fsm Q.2.1 b + j ≤ fsm Q.2.1 c + l)) := fun {i k e1} h0 h1 => by
    refine ⟨fun z b j hb hm => ?_, fun z => ?_⟩
    · by_cases c : i = fsm Q.2.1 b + j
      · exact h0 b j c hm
      · exact h1.1 z b j (by omega) hm
    · obtain ⟨b, j, q1, q2, q3⟩ := h1.2 z
      refine ⟨b, j, q1, q2, fun c l hm hl => ?_⟩
      by_cases e : i = fsm Q.2.1 c + l
      · exact absurd hm (h0 c l e)
      · exact q3 c l hm (by omega)
  refine h (fun s1 k e1 => ∀ i : Nat, s1.toInt = (i : Int) → (k = 58 → ∀ b j, i ≤ fsm Q.2.1 b + j → ¬ mgb Q a1.toInt b j) ∧ (k = 50 → ∃ b j, e1.toInt = ((fsm Q.2.1 b + j : Nat) : Int) ∧ mgb Q a1.toInt b j ∧ ∀ c l, mgb Q a1.toInt c l → i ≤ fsm Q.2.1 c + l → fsm Q.2.1 b + j ≤ fsm Q.2.1 c + l)) ?_ ?_ ?_ ?_
  · intro l2_1 h1 h2
    intro i hi
    refine ⟨fun _ b j hb hm => ?_, fun z => (nomatch z)⟩
    have q := fsm_lt hm.1 hm.2.1
    have := hc.2.1
    omega
  · intro l2_1 x1 k e1 h1 h2 h3 h4 ih
    intro i hi
    have hl := hc.2.1
    obtain ⟨b, j, hb, hj, ei⟩ := fsm_ex (l := Q.2.1) (N := Q.1) (i := i) (by omega)
    have en : l2_1.toNatClampNeg = fsm Q.2.1 b + j := nnE (by omega)
    obtain ⟨d0, d1, d2, d3, d4, d5⟩ := hc.2.2.2 b j hb hj
    have cp := cpR_tr h3
    rw [en, d0, d1, d2] at cp
    have un : ∀ c l, i = fsm Q.2.1 c + l → mgb Q a1.toInt c l → b = c ∧ j = l := fun c l hl hm => fsm_u hj hm.2.1 (by omega)
    rcases cp with ⟨c0, -⟩ | ⟨-, c1⟩
    · exact absurd c0 (by decide)
    refine stp (fun c l e hm => ?_) (ih (i + 1) (by omega))
    obtain ⟨u1, u2⟩ := un c l e hm
    rw [← u1, ← u2] at hm
    exact c1 ⟨hm.2.2.1, hm.2.2.2.1, hm.2.2.2.2.1⟩
  · intro l2_1 x1 x2 x3 x4 k e1 h1 h2 h3 h4 h5 h6 h7 h8 h9 ih
    intro i hi
    have hl := hc.2.1
    obtain ⟨b, j, hb, hj, ei⟩ := fsm_ex (l := Q.2.1) (N := Q.1) (i := i) (by omega)
    have en : l2_1.toNatClampNeg = fsm Q.2.1 b + j := nnE (by omega)
    obtain ⟨d0, d1, d2, d3, d4, d5⟩ := hc.2.2.2 b j hb hj
    have cp := cpR_tr h3
    rw [en, d0, d1, d2] at cp
    have un : ∀ c l, i = fsm Q.2.1 c + l → mgb Q a1.toInt c l → b = c ∧ j = l := fun c l hl hm => fsm_u hj hm.2.1 (by omega)
    rcases cp with ⟨-, c1, c2, c3⟩ | ⟨c0, -⟩
    case inr => exact absurd c0 (by decide)
    rw [en] at h4 h5
    rw [← h4] at d1
    rw [← h5] at d2
    have nn := gn b j hb hj
    have cm := cmg_tr (v := (Q.2.2.1 b j 1).toNat) (u := (Q.2.2.1 b j 2).toNat) hg (by omega) (by omega) (by omega) (by omega) h7
    have mi : mgb Q a1.toInt b j ↔ x3.toInt ≠ 0 := by
      rw [cm]
      exact ⟨fun z => z.2.2.2.2.2.imp (fun y => by rw [y]) id, fun z => ⟨hb, hj, c1, c2, c3, z.imp (fun y => by omega) id⟩⟩
    refine stp (fun c l e hm => ?_) (ih (i + 1) (by omega))
    obtain ⟨u1, u2⟩ := un c l e hm
    rw [← u1, ← u2] at hm
    exact mi.mp hm h8
  · intro l2_1 x1 x2 x3 h1 h2 h3 h4 h5 h6 h7 h8
    intro i hi
    have hl := hc.2.1
    obtain ⟨b, j, hb, hj, ei⟩ := fsm_ex (l := Q.2.1) (N := Q.1) (i := i) (by omega)
    have en : l2_1.toNatClampNeg = fsm Q.2.1 b + j := nnE (by omega)
    obtain ⟨d0, d1, d2, d3, d4, d5⟩ := hc.2.2.2 b j hb hj
    have cp := cpR_tr h3
    rw [en, d0, d1, d2] at cp
    have un : ∀ c l, i = fsm Q.2.1 c + l → mgb Q a1.toInt c l → b = c ∧ j = l := fun c l hl hm => fsm_u hj hm.2.1 (by omega)
    rcases cp with ⟨-, c1, c2, c3⟩ | ⟨c0, -⟩
    case inr => exact absurd c0 (by decide)
    rw [en] at h4 h5
    rw [← h4] at d1
    rw [← h5] at d2
    have nn := gn b j hb hj
    have cm := cmg_tr (v := (Q.2.2.1 b j 1).toNat) (u := (Q.2.2.1 b j 2).toNat) hg (by omega) (by omega) (by omega) (by omega) h7
    have mi : mgb Q a1.toInt b j ↔ x3.toInt ≠ 0 := by
      rw [cm]
      exact ⟨fun z => z.2.2.2.2.2.imp (fun y => by rw [y]) id, fun z => ⟨hb, hj, c1, c2, c3, z.imp (fun y => by omega) id⟩⟩
    exact ⟨fun z => (nomatch z), fun _ => ⟨b, j, by omega, mi.mpr h8, fun c l _ hl => by omega⟩⟩
theorem ntm_tr {a1 : Int32} {Graph_names : Int32} {Graph_words : Int32} {Code_lines : Int32} {Graph_joined : Nat → Int64} {Graph_degree : Nat → Int32} {Code_op : Nat → Int32} {Code_set : Nat → Int32} {Code_left : Nat → Int32} {o1 : Int32} {sd : Nat → Int64} {bl : Int32} {fi fg sg cln crt crn : Nat → Int32} (hc : cdP bl Code_lines fi fg sg Code_op Code_set Code_left cln crt crn Q) (hg : gfC Q Nm W Graph_names Graph_words Graph_joined sd Graph_degree) (h : tr_Giver_nextToMerge a1 Graph_names Graph_words Code_lines Graph_joined Graph_degree Code_op Code_set Code_left o1) : (o1.toInt = -1 ∧ ∀ b j, ¬ mgb Q a1.toInt b j) ∨ (o1.toInt ≠ -1 ∧ ∃ b j, o1.toInt = ((fsm Q.2.1 b + j : Nat) : Int) ∧ fsM Q a1.toInt b j) := by
  refine h (fun o1 => (o1.toInt = -1 ∧ ∀ b j, ¬ mgb Q a1.toInt b j) ∨ (o1.toInt ≠ -1 ∧ ∃ b j, o1.toInt = ((fsm Q.2.1 b + j : Nat) : Int) ∧ fsM Q a1.toInt b j)) ?_ ?_
  · intro h1
    have q := ntm_tl hc hg h1 0 (by decide)
    exact Or.inl ⟨by decide, fun b j => q.1 rfl b j (Nat.zero_le _)⟩
  · intro x1 h1
    have q := ntm_tl hc hg h1 0 (by decide)
    obtain ⟨b, j, q1, q2, q3⟩ := q.2 rfl
    refine Or.inr ⟨by omega, b, j, q1, q2, fun c i hm => ?_⟩
    have r := q3 c i hm (Nat.zero_le _)
    rcases Nat.lt_trichotomy b c with p | p | p
    · exact Or.inl p
    · rw [p] at r; exact Or.inr ⟨p, by omega⟩
    · have := fsm_lt p hm.2.1; omega
end MGC
