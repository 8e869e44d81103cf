section GVC
variable {Q : gPg} {W Nm b j v u w nm sl : Nat} {U : Nat → Prop} {col : Nat → Int}
theorem iwo_tr {a1 : Int32} {Graph_names : Int32} {Colouring_colour : Nat → Int32} {Graph_standing : Nat → Int64} {o1 : Int32} {wor : Int32} {jo : Nat → Int64} {dg : Nat → Int32} (hg : gfC Q Nm W Graph_names wor jo Graph_standing dg) (hN : Nm ≤ 720) (hcl : ∀ u, u < 720 → (Colouring_colour u).toInt = col u) (hv : a1.toInt = (v : Int)) (hv2 : v < Nm) (h : tr_Colouring_isWithout a1 Graph_names Colouring_colour Graph_standing o1) : o1.toInt ≠ 0 ↔ unc Q col v := by
  have gs := hg.2.2.2.2.2.2.1 v (by have := hg.2.2.1; omega)
  have cv := hcl v (by omega)
  refine h (fun o1 => o1.toInt ≠ 0 ↔ unc Q col v) ?_ ?_ ?_
  · intro h1
    have st := std_tr hv hg.1 hv2 h1
    rw [px_0] at st
    rw [px_0]
    exact ⟨fun y => absurd rfl y, fun y => absurd rfl (st.mpr (gs.mpr y.1))⟩
  · intro x1 h1 h2 h3
    have st := std_tr hv hg.1 hv2 h1
    rw [nnE hv] at h2
    rw [← h2] at cv
    have s1 := gs.mp (st.mp (by decide))
    rw [px_0]
    exact ⟨fun y => absurd rfl y, fun y => by have := y.2; omega⟩
  · intro x1 h1 h2 h3
    have st := std_tr hv hg.1 hv2 h1
    rw [nnE hv] at h2
    rw [← h2] at cv
    have s1 := gs.mp (st.mp (by decide))
    rw [px_1]
    exact ⟨fun _ => ⟨s1, by omega⟩, fun _ => by decide⟩
theorem unc_lt (hn : nmO Q Nm) (h : unc Q col v) : v < Nm := (Sd_i hn (Nat.le_refl _) h.1).2
theorem gs3_tl {Giver_names : Int32} {Graph_names : Int32} {Colouring_colour : Nat → Int32} {Graph_standing : Nat → Int64} {s1 : Int32} {k : Nat} {wor : Int32} {jo : Nat → Int64} {dg : Nat → Int32} (hg : gfC Q Nm W Graph_names wor jo Graph_standing dg) (hN : Nm ≤ 720) (hcl : ∀ u, u < 720 → (Colouring_colour u).toInt = col u) (hnm : Giver_names.toInt = (Nm : Int)) (h : tl_Giver_giveSlots_3 Giver_names Graph_names Colouring_colour Graph_standing s1 k) : ∀ m : Nat, s1.toInt = (m : Int) → 100 ≤ m → (∀ v, 100 ≤ v → v < m → ¬ unc Q col v) → (k = 30 → ∀ v, 100 ≤ v → ¬ unc Q col v) ∧ (k = 22 → ∃ v, 100 ≤ v ∧ unc Q col v) := by
  have gn := hg.2.2.2.2.1
  refine h (fun s1 k => ∀ m : Nat, s1.toInt = (m : Int) → 100 ≤ m → (∀ v, 100 ≤ v → v < m → ¬ unc Q col v) → (k = 30 → ∀ v, 100 ≤ v → ¬ unc Q col v) ∧ (k = 22 → ∃ v, 100 ≤ v ∧ unc Q col v)) ?_ ?_ ?_
  · intro l1_1 h1 h2
    intro m hm h1 hl
    exact ⟨fun _ v hv z => hl v hv (by have := unc_lt gn z; omega) z, fun z => (nomatch z)⟩
  · intro l1_1 x1 k h1 h2 h3 h4 ih
    intro m hm h1 hl
    have q := iwo_tr hg hN hcl hm (by omega) h3
    refine ih (m + 1) (by omega) (by omega) (fun v hv hvm z => ?_)
    by_cases e : v = m
    · rw [e] at z; exact absurd rfl (q.mpr z)
    · exact hl v hv (by omega) z
  · intro l1_1 h1 h2 h3
    intro m hm h1 hl
    have q := iwo_tr hg hN hcl hm (by omega) h3
    exact ⟨fun z => (nomatch z), fun _ => ⟨m, h1, q.mp (by decide)⟩⟩
theorem gs32_tl {Graph_names : Int32} {Colouring_colour : Nat → Int32} {Graph_standing : Nat → Int64} {s1 : Int32} {s2 : Int32} {s3 : Int32} {s4 : Nat → Int32} {k : Nat} {e1 : Int32} {e2 : Int32} {e3 : Nat → Int32} {wor : Int32} {jo : Nat → Int64} {dg : Nat → Int32} (hg : gfC Q Nm W Graph_names wor jo Graph_standing dg) (hN : Nm ≤ 720) (hcl : ∀ u, u < 720 → (Colouring_colour u).toInt = col u) {f0 : Nat → Int32} (hNm : 100 ≤ Nm) (hsl : sl ≤ 100000) (h : tl_Giver_giveSlots_32 Graph_names Colouring_colour Graph_standing s1 s2 s3 s4 k e1 e2 e3) : ∀ m : Nat, s1.toInt = (m : Int) → m ≤ 100 → s2.toInt = ((sl + cntP (unc Q col) m : Nat) : Int) → (∀ v, v < m → unc Q col v → (s4 v).toInt = ((sl + cntP (unc Q col) v : Nat) : Int)) → (∀ v, ¬ (v < m ∧ unc Q col v) → s4 v = f0 v) → e1.toInt = ((sl + cntP (unc Q col) 100 : Nat) : Int) ∧ (∀ v, v < 100 → unc Q col v → (e3 v).toInt = ((sl + cntP (unc Q col) v : Nat) : Int)) ∧ (∀ v, ¬ (v < 100 ∧ unc Q col v) → e3 v = f0 v) := by
  refine h (fun s1 s2 s3 s4 _ e1 e2 e3 => ∀ m : Nat, s1.toInt = (m : Int) → m ≤ 100 → s2.toInt = ((sl + cntP (unc Q col) m : Nat) : Int) → (∀ v, v < m → unc Q col v → (s4 v).toInt = ((sl + cntP (unc Q col) v : Nat) : Int)) → (∀ v, ¬ (v < m ∧ unc Q col v) → s4 v = f0 v) → e1.toInt = ((sl + cntP (unc Q col) 100 : Nat) : Int) ∧ (∀ v, v < 100 → unc Q col v → (e3 v).toInt = ((sl + cntP (unc Q col) v : Nat) : Int)) ∧ (∀ v, ¬ (v < 100 ∧ unc Q col v) → e3 v = f0 v)) ?_ ?_ ?_
  · intro l1_1 Giver_slots_1 Giver_spilled_1 Giver_slotOf_1 h1 h2
    intro m hm h1 hs hf hg0
    have e : m = 100 := by omega
    rw [e] at hs hf hg0
    exact ⟨hs, hf, hg0⟩
  · intro l1_1 Giver_slots_1 Giver_spilled_1 Giver_slotOf_1 x1 k e1 e2 e3 h1 h2 h3 h4 ih
    intro m hm h1 hs hf hg0
    have m1 : m < 100 := by omega
    have q := iwo_tr hg hN hcl hm (by omega) h3
    have nu : ¬ unc Q col m := fun z => absurd rfl (q.mpr z)
    have ce : cntP (unc Q col) (m + 1) = cntP (unc Q col) m := by
      show cntP (unc Q col) m + @ite Nat (unc Q col m) (Classical.propDecidable _) 1 0 = _
      rw [if_neg nu, Nat.add_zero]
    refine ih (m + 1) (by omega) (by omega) (by rw [ce]; exact hs) (fun v hv z => ?_) (fun v hv => hg0 v (fun z => hv ⟨by omega, z.2⟩))
    by_cases e : v = m
    · rw [e] at z; exact absurd z nu
    · exact hf v (by omega) z
  · intro l1_1 Giver_slots_1 Giver_spilled_1 Giver_slotOf_1 x1 x2 x3 x4 k e1 e2 e3 h1 h2 h3 h4 h5 h6 h7 ih
    intro m hm h1 hs hf hg0
    have m1 : m < 100 := by omega
    have q := iwo_tr hg hN hcl hm (by omega) h3
    have nu : unc Q col m := q.mp (by decide)
    have ce : cntP (unc Q col) (m + 1) = cntP (unc Q col) m + 1 := by
      show cntP (unc Q col) m + @ite Nat (unc Q col m) (Classical.propDecidable _) 1 0 = _
      rw [if_pos nu]
    have le := cntP_le (T := unc Q col) m
    have o1 : Int32.toInt 1 = 1 := by decide
    have a2 := px_add h5 (by omega) (by omega)
    rw [nnE hm] at h4
    refine ih (m + 1) (by omega) (by omega) (by rw [ce]; omega) (fun v hv z => ?_) (fun v hv => ?_)
    · rw [h4]
      by_cases e : v = m
      · rw [e, updE]; exact hs
      · rw [updN e]; exact hf v (by omega) z
    · rw [h4, updN (fun e => hv ⟨by omega, by rw [e]; exact nu⟩)]
      exact hg0 v (fun z => hv ⟨by omega, z.2⟩)
theorem gsl_tr {Giver_names : Int32} {Giver_slots : Int32} {Giver_spilled : Int32} {Graph_names : Int32} {Giver_slotOf : Nat → Int32} {Graph_standing : Nat → Int64} {Colouring_colour : Nat → Int32} {o1 : Int32} {o2 : Int32} {o3 : Int32} {o4 : Nat → Int32} {wor : Int32} {jo : Nat → Int64} {dg : Nat → Int32} (hg : gfC Q Nm W Graph_names wor jo Graph_standing dg) (hN : Nm ≤ 720) (hcl : ∀ u, u < 720 → (Colouring_colour u).toInt = col u) (hnm : Giver_names.toInt = (Nm : Int)) (hNm : 100 ≤ Nm) (hs : Giver_slots.toInt = (sl : Int)) (hsl : sl ≤ 100000) (h : tr_Giver_giveSlots Giver_names Giver_slots Giver_spilled Graph_names Giver_slotOf Graph_standing Colouring_colour o1 o2 o3 o4) : (o1.toInt = 0 ∧ ∃ v, 100 ≤ v ∧ unc Q col v) ∨ (o1.toInt ≠ 0 ∧ (∀ v, 100 ≤ v → ¬ unc Q col v) ∧ o2.toInt = ((sl + cntP (unc Q col) 100 : Nat) : Int) ∧ (∀ v, v < 100 → unc Q col v → (o4 v).toInt = ((sl + cntP (unc Q col) v : Nat) : Int)) ∧ (∀ v, ¬ (v < 100 ∧ unc Q col v) → o4 v = Giver_slotOf v)) := by
  refine h (fun o1 o2 o3 o4 => (o1.toInt = 0 ∧ ∃ v, 100 ≤ v ∧ unc Q col v) ∨ (o1.toInt ≠ 0 ∧ (∀ v, 100 ≤ v → ¬ unc Q col v) ∧ o2.toInt = ((sl + cntP (unc Q col) 100 : Nat) : Int) ∧ (∀ v, v < 100 → unc Q col v → (o4 v).toInt = ((sl + cntP (unc Q col) v : Nat) : Int)) ∧ (∀ v, ¬ (v < 100 ∧ unc Q col v) → o4 v = Giver_slotOf v))) ?_ ?_
  · intro x1 x2 x3 h1 h2
    have q := (gs3_tl hg hN hcl hnm h1 100 (by decide) (Nat.le_refl _) (fun v a c => by omega)).1 rfl
    have r := gs32_tl (f0 := Giver_slotOf) hg hN hcl hNm hsl h2 0 (by decide) (Nat.zero_le _) hs (fun v hv => absurd hv (Nat.not_lt_zero v)) (fun v _ => rfl)
    exact Or.inr ⟨by decide, q, r⟩
  · intro h1
    have q := (gs3_tl hg hN hcl hnm h1 100 (by decide) (Nat.le_refl _) (fun v a c => by omega)).2 rfl
    exact Or.inl ⟨by decide, q⟩
theorem sfo_tr {a1 : Int32} {Giver_slotOf : Nat → Int32} {o1 : Int32} (h : tr_Giver_slotFor a1 Giver_slotOf o1) : o1.toInt = slf (fun v => (Giver_slotOf v).toInt) a1.toInt := by
  refine h (fun o1 => o1.toInt = slf (fun v => (Giver_slotOf v).toInt) a1.toInt) ?_ ?_ ?_
  · intro h1
    unfold slf
    rw [if_neg (by omega)]
    rfl
  · intro h1 h2
    unfold slf
    rw [if_neg (by omega)]
    rfl
  · intro x1 h1 h2 h3
    unfold slf
    rw [if_pos ⟨h1, h2⟩, h3, nnE (Int.toNat_of_nonneg h1).symm]
theorem ntp_tr {Giver_names : Int32} {Code_isFull : Int32} {o1 : Int32} {o2 : Int32} {o3 : Int32} {n : Nat} (hn : Giver_names.toInt = (n : Int)) (hn2 : n < 720) (h : tr_Giver_newTemporary Giver_names Code_isFull o1 o2 o3) : o1.toInt = (n : Int) ∧ o2.toInt = ((n + 1 : Nat) : Int) ∧ o3 = Code_isFull := by
  refine h (fun o1 o2 o3 => o1.toInt = (n : Int) ∧ o2.toInt = ((n + 1 : Nat) : Int) ∧ o3 = Code_isFull) ?_ ?_
  · intro x1 x2 h1 h2 h3
    exact ⟨by omega, by omega, rfl⟩
  · intro h1
    omega
section LDD
variable {bl li fl a1 a2 a3 a4 a5 a6 : Int32} {fi fg sg op st lf ln rt rn : Nat → Int32} {P : gPg}
theorem add_tr3 {x1 x8 : Int32} {x2 x3 x4 x5 x6 x7 : Nat → Int32} (h : tr_Code_add2 a1 a2 a3 a4 a5 a6 li fl op st lf ln rt rn x1 x2 x3 x4 x5 x6 x7 x8) (hl : li.toInt < 920) : x8 = fl := by
  refine h (fun _ _ _ _ _ _ _ x8 => x8 = fl) ?_ ?_
  · intro x1 x2 x3 x4 x5 x6 x7 h1 h2 h3 h4 h5 h6 h7 h8
    rfl
  · intro h1
    omega
end LDD
theorem lod_tr {a1 : Int32} {Giver_names : Int32} {Giver_slotOf : Nat → Int32} {Code_lines : Int32} {Code_isFull : Int32} {Code_op : Nat → Int32} {Code_set : Nat → Int32} {Code_left : Nat → Int32} {Code_leftNumber : Nat → Int32} {Code_right : Nat → Int32} {Code_rightNumber : Nat → Int32} {o1 : Int32} {o2 : Int32} {o3 : Int32} {o4 : Int32} {o5 : Nat → Int32} {o6 : Nat → Int32} {o7 : Nat → Int32} {o8 : Nat → Int32} {o9 : Nat → Int32} {o10 : Nat → Int32} {bl : Int32} {fi fg sg : Nat → Int32} {s : gSp6} (hc : cdP bl Code_lines fi fg sg Code_op Code_set Code_left Code_leftNumber Code_right Code_rightNumber s.1) (h0 : 0 < s.1.1) (hn : Giver_names.toInt = (s.2 : Int)) (hb1 : (ldN (fun v => (Giver_slotOf v).toInt) a1.toInt s).2 ≤ 720) (hb2 : lsm (ldN (fun v => (Giver_slotOf v).toInt) a1.toInt s).1 ≤ 920) (h : tr_Giver_loaded a1 Giver_names Giver_slotOf Code_lines Code_isFull Code_op Code_set Code_left Code_leftNumber Code_right Code_rightNumber o1 o2 o3 o4 o5 o6 o7 o8 o9 o10) : o1.toInt = ldV (fun v => (Giver_slotOf v).toInt) a1.toInt s.2 ∧ o2.toInt = ((ldN (fun v => (Giver_slotOf v).toInt) a1.toInt s).2 : Int) ∧ cdP bl o3 fi fg sg o5 o6 o7 o8 o9 o10 (ldN (fun v => (Giver_slotOf v).toInt) a1.toInt s).1 ∧ o4 = Code_isFull := by
  refine h (fun o1 o2 o3 o4 o5 o6 o7 o8 o9 o10 => o1.toInt = ldV (fun v => (Giver_slotOf v).toInt) a1.toInt s.2 ∧ o2.toInt = ((ldN (fun v => (Giver_slotOf v).toInt) a1.toInt s).2 : Int) ∧ cdP bl o3 fi fg sg o5 o6 o7 o8 o9 o10 (ldN (fun v => (Giver_slotOf v).toInt) a1.toInt s).1 ∧ o4 = Code_isFull) ?_ ?_ ?_
  · intro h1
    have sf := sfo_tr h1
    have e : slf (fun v => (Giver_slotOf v).toInt) a1.toInt = -1 := sf.symm.trans (by decide)
    have e2 : ldN (fun v => (Giver_slotOf v).toInt) a1.toInt s = s := if_pos e
    rw [e2]
    exact ⟨(if_pos e).symm, hn, hc, rfl⟩
  · intro x1 x2 x3 x4 x5 x6 x7 x8 x9 x10 x11 x12 h1 h2 h3 h4 h5 h6 h7 h8 h9
    have sf := sfo_tr h1
    have e : ¬ slf (fun v => (Giver_slotOf v).toInt) a1.toInt = -1 := fun z => h2 (sf.trans z)
    have e2 : ldN (fun v => (Giver_slotOf v).toInt) a1.toInt s = (pgL s.1 (mkL 17 (s.2 : Int) (-1) 0 (-1) (slf (fun v => (Giver_slotOf v).toInt) a1.toInt)), s.2 + 1) := if_neg e
    rw [e2] at hb1 hb2 ⊢
    have hb1' : s.2 + 1 ≤ 720 := hb1
    have hb2' : lsm (pgL s.1 (mkL 17 (s.2 : Int) (-1) 0 (-1) (slf (fun v => (Giver_slotOf v).toInt) a1.toInt))) ≤ 920 := hb2
    rw [lsm_L h0] at hb2'
    have hl : Code_lines.toInt < 920 := by have := hc.2.1; unfold lsm at hb2'; omega
    obtain ⟨n1, n2, n3⟩ := ntp_tr hn (by omega) h6
    have ad := add_tr2 h9 hc hl h0
    have a3 := add_tr3 h9 hl
    rw [n1, show Int32.toInt 17 = 17 by decide, show Int32.toInt (-1) = -1 by decide, show Int32.toInt 0 = 0 by decide] at ad
    rw [sf] at ad
    exact ⟨n1.trans (if_neg e).symm, n2, ad, a3.trans n3⟩
  · intro x1 h1 h2
    have sf := sfo_tr h1
    have e : slf (fun v => (Giver_slotOf v).toInt) a1.toInt = -1 := sf.symm.trans h2
    have e2 : ldN (fun v => (Giver_slotOf v).toInt) a1.toInt s = s := if_pos e
    rw [e2]
    exact ⟨(if_pos e).symm, hn, hc, rfl⟩
theorem spl_tr {a1 : Int32} {Giver_names : Int32} {Giver_slotOf : Nat → Int32} {Code_lines : Int32} {Code_isFull : Int32} {Code_op : Nat → Int32} {Code_set : Nat → Int32} {Code_left : Nat → Int32} {Code_leftNumber : Nat → Int32} {Code_right : Nat → Int32} {Code_rightNumber : Nat → Int32} {Code_op2 : Nat → Int32} {Code_set2 : Nat → Int32} {Code_left2 : Nat → Int32} {Code_leftNumber2 : Nat → Int32} {Code_right2 : Nat → Int32} {Code_rightNumber2 : Nat → Int32} {o1 : Int32} {o2 : Int32} {o3 : Int32} {o4 : Nat → Int32} {o5 : Nat → Int32} {o6 : Nat → Int32} {o7 : Nat → Int32} {o8 : Nat → Int32} {o9 : Nat → Int32} {bl : Int32} {fi fg sg : Nat → Int32} {s : gSp6} {bl2 li2 : Int32} {fi2 fg2 sg2 : Nat → Int32} (hq : cdP bl2 li2 fi2 fg2 sg2 Code_op Code_set Code_left Code_leftNumber Code_right Code_rightNumber Q) (hbQ : b < Q.1) (hjQ : j < Q.2.1 b) (hi : a1.toNatClampNeg = fsm Q.2.1 b + j) (hc : cdP bl Code_lines fi fg sg Code_op2 Code_set2 Code_left2 Code_leftNumber2 Code_right2 Code_rightNumber2 s.1) (h0 : 0 < s.1.1) (h100 : 100 ≤ s.2) (hn : Giver_names.toInt = (s.2 : Int)) (hb1 : (spLn (fun v => (Giver_slotOf v).toInt) (Q.2.2.1 b j) s).2 ≤ 720) (hb2 : lsm (spLn (fun v => (Giver_slotOf v).toInt) (Q.2.2.1 b j) s).1 ≤ 920) (h : tr_Giver_spillLine a1 Giver_names Giver_slotOf Code_lines Code_isFull Code_op Code_set Code_left Code_leftNumber Code_right Code_rightNumber Code_op2 Code_set2 Code_left2 Code_leftNumber2 Code_right2 Code_rightNumber2 o1 o2 o3 o4 o5 o6 o7 o8 o9) : o1.toInt = ((spLn (fun v => (Giver_slotOf v).toInt) (Q.2.2.1 b j) s).2 : Int) ∧ cdP bl o2 fi fg sg o4 o5 o6 o7 o8 o9 (spLn (fun v => (Giver_slotOf v).toInt) (Q.2.2.1 b j) s).1 ∧ o3 = Code_isFull := by
  obtain ⟨d0, d1, d2, d3, d4, d5⟩ := hq.2.2.2 b j hbQ hjQ
  rw [← hi] at d0 d1 d2 d3 d4 d5
  have wk := spW_k (so := (fun v => (Giver_slotOf v).toInt)) (l := (Q.2.2.1 b j)) (a := ldV (fun v => (Giver_slotOf v).toInt) ((Q.2.2.1 b j) 2) s.2) (c := spV (fun v => (Giver_slotOf v).toInt) (Q.2.2.1 b j) s) (spR_1 (so := (fun v => (Giver_slotOf v).toInt)) (l := (Q.2.2.1 b j)) h0) (spR_2 (so := (fun v => (Giver_slotOf v).toInt)) (l := (Q.2.2.1 b j)) h100)
  have r0 := spR_1 (so := (fun v => (Giver_slotOf v).toInt)) (l := (Q.2.2.1 b j)) h0
  have k2 := ldN_k (so := (fun v => (Giver_slotOf v).toInt)) (x := (Q.2.2.1 b j) 2) h0 h100
  have k4 := ldN_k (so := (fun v => (Giver_slotOf v).toInt)) (x := (Q.2.2.1 b j) 4) (ldN_1 (so := (fun v => (Giver_slotOf v).toInt)) (x := (Q.2.2.1 b j) 2) h0) (ldN_2 (so := (fun v => (Giver_slotOf v).toInt)) (x := (Q.2.2.1 b j) 2) h100)
  have w1 : (spR (fun v => (Giver_slotOf v).toInt) (Q.2.2.1 b j) s).2 ≤ (spLn (fun v => (Giver_slotOf v).toInt) (Q.2.2.1 b j) s).2 := wk.2.1
  have w2 : lsm (spR (fun v => (Giver_slotOf v).toInt) (Q.2.2.1 b j) s).1 ≤ lsm (spLn (fun v => (Giver_slotOf v).toInt) (Q.2.2.1 b j) s).1 := wk.2.2.1
  refine h (fun o1 o2 o3 o4 o5 o6 o7 o8 o9 => o1.toInt = ((spLn (fun v => (Giver_slotOf v).toInt) (Q.2.2.1 b j) s).2 : Int) ∧ cdP bl o2 fi fg sg o4 o5 o6 o7 o8 o9 (spLn (fun v => (Giver_slotOf v).toInt) (Q.2.2.1 b j) s).1 ∧ o3 = Code_isFull) ?_ ?_ ?_ ?_ ?_ ?_ ?_ ?_
  · intro x1 x2 x3 x4 x5 x6 x7 x8 x9 x10 x11 x12 x13 x14 x15 x16 x17 x18 x19 x20 x21 x22 x23 x24 x25 x26 x27 x28 x29 x30 x31 x32 x33 x34 h1 h2 h3 h4 h5 h6 h7 h8 h9 h10 h11 h12 h13 h14 h15 h16 h17 h18 h19 h20
    rw [← h1] at d2
    rw [← h6] at d4
    rw [← h12] at d1
    rw [← h14] at d0
    rw [← h16] at d3
    rw [← h17] at d5
    have e42 : ¬ (Q.2.2.1 b j) 4 = (Q.2.2.1 b j) 2 := by omega
    have eR : spR (fun v => (Giver_slotOf v).toInt) (Q.2.2.1 b j) s = ldN (fun v => (Giver_slotOf v).toInt) ((Q.2.2.1 b j) 4) (ldN (fun v => (Giver_slotOf v).toInt) ((Q.2.2.1 b j) 2) s) := if_neg e42
    have eV : spV (fun v => (Giver_slotOf v).toInt) (Q.2.2.1 b j) s = ldV (fun v => (Giver_slotOf v).toInt) ((Q.2.2.1 b j) 4) (ldN (fun v => (Giver_slotOf v).toInt) ((Q.2.2.1 b j) 2) s).2 := if_neg e42
    have m1 : (ldN (fun v => (Giver_slotOf v).toInt) ((Q.2.2.1 b j) 2) s).2 ≤ (spR (fun v => (Giver_slotOf v).toInt) (Q.2.2.1 b j) s).2 := by rw [eR]; exact k4.2.1
    have m2 : lsm (ldN (fun v => (Giver_slotOf v).toInt) ((Q.2.2.1 b j) 2) s).1 ≤ lsm (spR (fun v => (Giver_slotOf v).toInt) (Q.2.2.1 b j) s).1 := by rw [eR]; exact k4.2.2.1
    obtain ⟨p1, p2, p3, p4⟩ := lod_tr (s := s) hc h0 hn (by rw [d2]; omega) (by rw [d2]; omega) h5
    rw [d2] at p1 p2 p3
    obtain ⟨q1, q2, q3, q4⟩ := lod_tr (s := ldN (fun v => (Giver_slotOf v).toInt) ((Q.2.2.1 b j) 2) s) p3 (ldN_1 h0) p2 (by rw [d4, ← eR]; omega) (by rw [d4, ← eR]; omega) h11
    rw [d4] at q1 q2 q3
    rw [← eR] at q2 q3
    rw [← eV] at q1
    rw [p4] at q4
    have sf := sfo_tr h13
    rw [d1] at sf
    have e1 : slf (fun v => (Giver_slotOf v).toInt) ((Q.2.2.1 b j) 1) = -1 := sf.symm.trans (by decide)
    have eL : spLn (fun v => (Giver_slotOf v).toInt) (Q.2.2.1 b j) s = (pgL (spR (fun v => (Giver_slotOf v).toInt) (Q.2.2.1 b j) s).1 (mkL ((Q.2.2.1 b j) 0) ((Q.2.2.1 b j) 1) (ldV (fun v => (Giver_slotOf v).toInt) ((Q.2.2.1 b j) 2) s.2) ((Q.2.2.1 b j) 3) (spV (fun v => (Giver_slotOf v).toInt) (Q.2.2.1 b j) s) ((Q.2.2.1 b j) 5)), (spR (fun v => (Giver_slotOf v).toInt) (Q.2.2.1 b j) s).2) := if_pos e1
    rw [eL] at hb2 ⊢
    have hb2' : lsm (pgL (spR (fun v => (Giver_slotOf v).toInt) (Q.2.2.1 b j) s).1 (mkL ((Q.2.2.1 b j) 0) ((Q.2.2.1 b j) 1) (ldV (fun v => (Giver_slotOf v).toInt) ((Q.2.2.1 b j) 2) s.2) ((Q.2.2.1 b j) 3) (spV (fun v => (Giver_slotOf v).toInt) (Q.2.2.1 b j) s) ((Q.2.2.1 b j) 5))) ≤ 920 := hb2
    rw [lsm_L r0] at hb2'
    have hl := q3.2.1
    unfold lsm at hb2'
    have ad := add_tr2 h20 q3 (by omega) r0
    have a3 := add_tr3 h20 (by omega)
    rw [d0, d1, p1, d3, q1, d5] at ad
    exact ⟨q2, ad, a3.trans q4⟩
  · intro x1 x2 x3 x4 x5 x6 x7 x8 x9 x10 x11 x12 x13 x14 x15 x16 x17 x18 x19 x20 x21 x22 x23 x24 x25 x26 x27 x28 x29 x30 x31 x32 x33 x34 x35 x36 x37 x38 h1 h2 h3 h4 h5 h6 h7 h8 h9 h10 h11 h12 h13 h14 h15 h16 h17 h18 h19 h20 h21 h22 h23 h24 h25 h26
    rw [← h1] at d2
    rw [← h6] at d4
    rw [← h12] at d1
    rw [← h19] at d0
    rw [← h21] at d3
    rw [← h22] at d5
    have e42 : ¬ (Q.2.2.1 b j) 4 = (Q.2.2.1 b j) 2 := by omega
    have eR : spR (fun v => (Giver_slotOf v).toInt) (Q.2.2.1 b j) s = ldN (fun v => (Giver_slotOf v).toInt) ((Q.2.2.1 b j) 4) (ldN (fun v => (Giver_slotOf v).toInt) ((Q.2.2.1 b j) 2) s) := if_neg e42
    have eV : spV (fun v => (Giver_slotOf v).toInt) (Q.2.2.1 b j) s = ldV (fun v => (Giver_slotOf v).toInt) ((Q.2.2.1 b j) 4) (ldN (fun v => (Giver_slotOf v).toInt) ((Q.2.2.1 b j) 2) s).2 := if_neg e42
    have m1 : (ldN (fun v => (Giver_slotOf v).toInt) ((Q.2.2.1 b j) 2) s).2 ≤ (spR (fun v => (Giver_slotOf v).toInt) (Q.2.2.1 b j) s).2 := by rw [eR]; exact k4.2.1
    have m2 : lsm (ldN (fun v => (Giver_slotOf v).toInt) ((Q.2.2.1 b j) 2) s).1 ≤ lsm (spR (fun v => (Giver_slotOf v).toInt) (Q.2.2.1 b j) s).1 := by rw [eR]; exact k4.2.2.1
    obtain ⟨p1, p2, p3, p4⟩ := lod_tr (s := s) hc h0 hn (by rw [d2]; omega) (by rw [d2]; omega) h5
    rw [d2] at p1 p2 p3
    obtain ⟨q1, q2, q3, q4⟩ := lod_tr (s := ldN (fun v => (Giver_slotOf v).toInt) ((Q.2.2.1 b j) 2) s) p3 (ldN_1 h0) p2 (by rw [d4, ← eR]; omega) (by rw [d4, ← eR]; omega) h11
    rw [d4] at q1 q2 q3
    rw [← eR] at q2 q3
    rw [← eV] at q1
    rw [p4] at q4
    have sf := sfo_tr h13
    rw [d1] at sf
    exact absurd h26 h14
  · intro x1 x2 x3 x4 x5 x6 x7 x8 x9 x10 x11 x12 x13 x14 x15 x16 x17 x18 x19 x20 x21 x22 x23 x24 x25 x26 x27 x28 x29 x30 x31 x32 x33 x34 x35 x36 x37 x38 x39 x40 x41 x42 x43 x44 x45 x46 h1 h2 h3 h4 h5 h6 h7 h8 h9 h10 h11 h12 h13 h14 h15 h16 h17 h18 h19 h20 h21 h22 h23 h24 h25 h26 h27 h28 h29
    rw [← h1] at d2
    rw [← h6] at d4
    rw [← h12] at d1
    rw [← h19] at d0
    rw [← h21] at d3
    rw [← h22] at d5
    have e42 : ¬ (Q.2.2.1 b j) 4 = (Q.2.2.1 b j) 2 := by omega
    have eR : spR (fun v => (Giver_slotOf v).toInt) (Q.2.2.1 b j) s = ldN (fun v => (Giver_slotOf v).toInt) ((Q.2.2.1 b j) 4) (ldN (fun v => (Giver_slotOf v).toInt) ((Q.2.2.1 b j) 2) s) := if_neg e42
    have eV : spV (fun v => (Giver_slotOf v).toInt) (Q.2.2.1 b j) s = ldV (fun v => (Giver_slotOf v).toInt) ((Q.2.2.1 b j) 4) (ldN (fun v => (Giver_slotOf v).toInt) ((Q.2.2.1 b j) 2) s).2 := if_neg e42
    have m1 : (ldN (fun v => (Giver_slotOf v).toInt) ((Q.2.2.1 b j) 2) s).2 ≤ (spR (fun v => (Giver_slotOf v).toInt) (Q.2.2.1 b j) s).2 := by rw [eR]; exact k4.2.1
    have m2 : lsm (ldN (fun v => (Giver_slotOf v).toInt) ((Q.2.2.1 b j) 2) s).1 ≤ lsm (spR (fun v => (Giver_slotOf v).toInt) (Q.2.2.1 b j) s).1 := by rw [eR]; exact k4.2.2.1
    obtain ⟨p1, p2, p3, p4⟩ := lod_tr (s := s) hc h0 hn (by rw [d2]; omega) (by rw [d2]; omega) h5
    rw [d2] at p1 p2 p3
    obtain ⟨q1, q2, q3, q4⟩ := lod_tr (s := ldN (fun v => (Giver_slotOf v).toInt) ((Q.2.2.1 b j) 2) s) p3 (ldN_1 h0) p2 (by rw [d4, ← eR]; omega) (by rw [d4, ← eR]; omega) h11
    rw [d4] at q1 q2 q3
    rw [← eR] at q2 q3
    rw [← eV] at q1
    rw [p4] at q4
    have sf := sfo_tr h13
    rw [d1] at sf
    have e1 : ¬ slf (fun v => (Giver_slotOf v).toInt) ((Q.2.2.1 b j) 1) = -1 := fun z => h14 (sf.trans z)
    have eL : spLn (fun v => (Giver_slotOf v).toInt) (Q.2.2.1 b j) s = (pgL (pgL (spR (fun v => (Giver_slotOf v).toInt) (Q.2.2.1 b j) s).1 (mkL ((Q.2.2.1 b j) 0) ((spR (fun v => (Giver_slotOf v).toInt) (Q.2.2.1 b j) s).2 : Int) (ldV (fun v => (Giver_slotOf v).toInt) ((Q.2.2.1 b j) 2) s.2) ((Q.2.2.1 b j) 3) (spV (fun v => (Giver_slotOf v).toInt) (Q.2.2.1 b j) s) ((Q.2.2.1 b j) 5))) (mkL 18 (-1) ((spR (fun v => (Giver_slotOf v).toInt) (Q.2.2.1 b j) s).2 : Int) 0 (-1) (slf (fun v => (Giver_slotOf v).toInt) ((Q.2.2.1 b j) 1))), (spR (fun v => (Giver_slotOf v).toInt) (Q.2.2.1 b j) s).2 + 1) := if_neg e1
    rw [eL] at hb1 hb2 ⊢
    have hb1' : (spR (fun v => (Giver_slotOf v).toInt) (Q.2.2.1 b j) s).2 + 1 ≤ 720 := hb1
    have hb2' : lsm (pgL (pgL (spR (fun v => (Giver_slotOf v).toInt) (Q.2.2.1 b j) s).1 (mkL ((Q.2.2.1 b j) 0) ((spR (fun v => (Giver_slotOf v).toInt) (Q.2.2.1 b j) s).2 : Int) (ldV (fun v => (Giver_slotOf v).toInt) ((Q.2.2.1 b j) 2) s.2) ((Q.2.2.1 b j) 3) (spV (fun v => (Giver_slotOf v).toInt) (Q.2.2.1 b j) s) ((Q.2.2.1 b j) 5))) (mkL 18 (-1) ((spR (fun v => (Giver_slotOf v).toInt) (Q.2.2.1 b j) s).2 : Int) 0 (-1) (slf (fun v => (Giver_slotOf v).toInt) ((Q.2.2.1 b j) 1)))) ≤ 920 := hb2
    have r1 : 0 < (pgL (spR (fun v => (Giver_slotOf v).toInt) (Q.2.2.1 b j) s).1 (mkL ((Q.2.2.1 b j) 0) ((spR (fun v => (Giver_slotOf v).toInt) (Q.2.2.1 b j) s).2 : Int) (ldV (fun v => (Giver_slotOf v).toInt) ((Q.2.2.1 b j) 2) s.2) ((Q.2.2.1 b j) 3) (spV (fun v => (Giver_slotOf v).toInt) (Q.2.2.1 b j) s) ((Q.2.2.1 b j) 5))).1 := r0
    rw [lsm_L r1, lsm_L r0] at hb2'
    have hl := q3.2.1
    unfold lsm at hb2'
    obtain ⟨n1, n2, n3⟩ := ntp_tr q2 (by omega) h18
    have ad := add_tr2 h25 q3 (by omega) r0
    have a3 := add_tr3 h25 (by omega)
    rw [d0, n1, p1, d3, q1, d5] at ad
    have hl2 := ad.2.1
    have f1 : fsm (pgL (spR (fun v => (Giver_slotOf v).toInt) (Q.2.2.1 b j) s).1 (mkL ((Q.2.2.1 b j) 0) ((spR (fun v => (Giver_slotOf v).toInt) (Q.2.2.1 b j) s).2 : Int) (ldV (fun v => (Giver_slotOf v).toInt) ((Q.2.2.1 b j) 2) s.2) ((Q.2.2.1 b j) 3) (spV (fun v => (Giver_slotOf v).toInt) (Q.2.2.1 b j) s) ((Q.2.2.1 b j) 5))).2.1 (pgL (spR (fun v => (Giver_slotOf v).toInt) (Q.2.2.1 b j) s).1 (mkL ((Q.2.2.1 b j) 0) ((spR (fun v => (Giver_slotOf v).toInt) (Q.2.2.1 b j) s).2 : Int) (ldV (fun v => (Giver_slotOf v).toInt) ((Q.2.2.1 b j) 2) s.2) ((Q.2.2.1 b j) 3) (spV (fun v => (Giver_slotOf v).toInt) (Q.2.2.1 b j) s) ((Q.2.2.1 b j) 5))).1 = fsm (spR (fun v => (Giver_slotOf v).toInt) (Q.2.2.1 b j) s).1.2.1 (spR (fun v => (Giver_slotOf v).toInt) (Q.2.2.1 b j) s).1.1 + 1 := lsm_L r0
    have ad2 := add_tr2 h29 ad (by omega) r1
    have a4 := add_tr3 h29 (by omega)
    rw [n1, sf, show Int32.toInt 18 = 18 by decide, show Int32.toInt (-1) = -1 by decide, show Int32.toInt 0 = 0 by decide] at ad2
    exact ⟨n2, ad2, a4.trans (a3.trans (n3.trans q4))⟩
  · intro x1 x2 x3 x4 x5 x6 x7 x8 x9 x10 x11 x12 x13 x14 x15 x16 x17 x18 x19 x20 x21 x22 x23 x24 x25 x26 x27 x28 x29 x30 x31 x32 x33 x34 x35 h1 h2 h3 h4 h5 h6 h7 h8 h9 h10 h11 h12 h13 h14 h15 h16 h17 h18 h19 h20 h21
    rw [← h1] at d2
    rw [← h6] at d4
    rw [← h12] at d1
    rw [← h15] at d0
    rw [← h17] at d3
    rw [← h18] at d5
    have e42 : ¬ (Q.2.2.1 b j) 4 = (Q.2.2.1 b j) 2 := by omega
    have eR : spR (fun v => (Giver_slotOf v).toInt) (Q.2.2.1 b j) s = ldN (fun v => (Giver_slotOf v).toInt) ((Q.2.2.1 b j) 4) (ldN (fun v => (Giver_slotOf v).toInt) ((Q.2.2.1 b j) 2) s) := if_neg e42
    have eV : spV (fun v => (Giver_slotOf v).toInt) (Q.2.2.1 b j) s = ldV (fun v => (Giver_slotOf v).toInt) ((Q.2.2.1 b j) 4) (ldN (fun v => (Giver_slotOf v).toInt) ((Q.2.2.1 b j) 2) s).2 := if_neg e42
    have m1 : (ldN (fun v => (Giver_slotOf v).toInt) ((Q.2.2.1 b j) 2) s).2 ≤ (spR (fun v => (Giver_slotOf v).toInt) (Q.2.2.1 b j) s).2 := by rw [eR]; exact k4.2.1
    have m2 : lsm (ldN (fun v => (Giver_slotOf v).toInt) ((Q.2.2.1 b j) 2) s).1 ≤ lsm (spR (fun v => (Giver_slotOf v).toInt) (Q.2.2.1 b j) s).1 := by rw [eR]; exact k4.2.2.1
    obtain ⟨p1, p2, p3, p4⟩ := lod_tr (s := s) hc h0 hn (by rw [d2]; omega) (by rw [d2]; omega) h5
    rw [d2] at p1 p2 p3
    obtain ⟨q1, q2, q3, q4⟩ := lod_tr (s := ldN (fun v => (Giver_slotOf v).toInt) ((Q.2.2.1 b j) 2) s) p3 (ldN_1 h0) p2 (by rw [d4, ← eR]; omega) (by rw [d4, ← eR]; omega) h11
    rw [d4] at q1 q2 q3
    rw [← eR] at q2 q3
    rw [← eV] at q1
    rw [p4] at q4
    have sf := sfo_tr h13
    rw [d1] at sf
    have e1 : slf (fun v => (Giver_slotOf v).toInt) ((Q.2.2.1 b j) 1) = -1 := sf.symm.trans h14
    have eL : spLn (fun v => (Giver_slotOf v).toInt) (Q.2.2.1 b j) s = (pgL (spR (fun v => (Giver_slotOf v).toInt) (Q.2.2.1 b j) s).1 (mkL ((Q.2.2.1 b j) 0) ((Q.2.2.1 b j) 1) (ldV (fun v => (Giver_slotOf v).toInt) ((Q.2.2.1 b j) 2) s.2) ((Q.2.2.1 b j) 3) (spV (fun v => (Giver_slotOf v).toInt) (Q.2.2.1 b j) s) ((Q.2.2.1 b j) 5)), (spR (fun v => (Giver_slotOf v).toInt) (Q.2.2.1 b j) s).2) := if_pos e1
    rw [eL] at hb2 ⊢
    have hb2' : lsm (pgL (spR (fun v => (Giver_slotOf v).toInt) (Q.2.2.1 b j) s).1 (mkL ((Q.2.2.1 b j) 0) ((Q.2.2.1 b j) 1) (ldV (fun v => (Giver_slotOf v).toInt) ((Q.2.2.1 b j) 2) s.2) ((Q.2.2.1 b j) 3) (spV (fun v => (Giver_slotOf v).toInt) (Q.2.2.1 b j) s) ((Q.2.2.1 b j) 5))) ≤ 920 := hb2
    rw [lsm_L r0] at hb2'
    have hl := q3.2.1
    unfold lsm at hb2'
    have ad := add_tr2 h21 q3 (by omega) r0
    have a3 := add_tr3 h21 (by omega)
    rw [d0, d1, p1, d3, q1, d5] at ad
    exact ⟨q2, ad, a3.trans q4⟩
  · intro x1 x2 x3 x4 x5 x6 x7 x8 x9 x10 x11 x12 x13 x14 x15 x16 x17 x18 x19 x20 x21 x22 x23 x24 h1 h2 h3 h4 h5 h6 h7 h8 h9 h10 h11 h12 h13 h14 h15 h16
    rw [← h1] at d2
    rw [← h6] at d4
    rw [← h8] at d1
    rw [← h10] at d0
    rw [← h12] at d3
    rw [← h13] at d5
    have e42 : (Q.2.2.1 b j) 4 = (Q.2.2.1 b j) 2 := by omega
    have eR : spR (fun v => (Giver_slotOf v).toInt) (Q.2.2.1 b j) s = ldN (fun v => (Giver_slotOf v).toInt) ((Q.2.2.1 b j) 2) s := if_pos e42
    have eV : spV (fun v => (Giver_slotOf v).toInt) (Q.2.2.1 b j) s = ldV (fun v => (Giver_slotOf v).toInt) ((Q.2.2.1 b j) 2) s.2 := if_pos e42
    obtain ⟨p1, p2, p3, p4⟩ := lod_tr (s := s) hc h0 hn (by rw [d2, ← eR]; omega) (by rw [d2, ← eR]; omega) h5
    rw [d2] at p1 p2 p3
    rw [← eR] at p2 p3
    have q1 : x2.toInt = spV (fun v => (Giver_slotOf v).toInt) (Q.2.2.1 b j) s := p1.trans eV.symm
    have q2 := p2
    have q3 := p3
    have q4 := p4
    have sf := sfo_tr h9
    rw [d1] at sf
    have e1 : slf (fun v => (Giver_slotOf v).toInt) ((Q.2.2.1 b j) 1) = -1 := sf.symm.trans (by decide)
    have eL : spLn (fun v => (Giver_slotOf v).toInt) (Q.2.2.1 b j) s = (pgL (spR (fun v => (Giver_slotOf v).toInt) (Q.2.2.1 b j) s).1 (mkL ((Q.2.2.1 b j) 0) ((Q.2.2.1 b j) 1) (ldV (fun v => (Giver_slotOf v).toInt) ((Q.2.2.1 b j) 2) s.2) ((Q.2.2.1 b j) 3) (spV (fun v => (Giver_slotOf v).toInt) (Q.2.2.1 b j) s) ((Q.2.2.1 b j) 5)), (spR (fun v => (Giver_slotOf v).toInt) (Q.2.2.1 b j) s).2) := if_pos e1
    rw [eV] at eL
    rw [eL] at hb2 ⊢
    have hb2' : lsm (pgL (spR (fun v => (Giver_slotOf v).toInt) (Q.2.2.1 b j) s).1 (mkL ((Q.2.2.1 b j) 0) ((Q.2.2.1 b j) 1) (ldV (fun v => (Giver_slotOf v).toInt) ((Q.2.2.1 b j) 2) s.2) ((Q.2.2.1 b j) 3) (ldV (fun v => (Giver_slotOf v).toInt) ((Q.2.2.1 b j) 2) s.2) ((Q.2.2.1 b j) 5))) ≤ 920 := hb2
    rw [lsm_L r0] at hb2'
    have hl := q3.2.1
    unfold lsm at hb2'
    have ad := add_tr2 h16 q3 (by omega) r0
    have a3 := add_tr3 h16 (by omega)
    rw [d0, d1, p1, d3, d5] at ad
    exact ⟨q2, ad, a3.trans q4⟩
  · intro x1 x2 x3 x4 x5 x6 x7 x8 x9 x10 x11 x12 x13 x14 x15 x16 x17 x18 x19 x20 x21 x22 x23 x24 x25 x26 x27 x28 h1 h2 h3 h4 h5 h6 h7 h8 h9 h10 h11 h12 h13 h14 h15 h16 h17 h18 h19 h20 h21 h22
    rw [← h1] at d2
    rw [← h6] at d4
    rw [← h8] at d1
    rw [← h15] at d0
    rw [← h17] at d3
    rw [← h18] at d5
    have e42 : (Q.2.2.1 b j) 4 = (Q.2.2.1 b j) 2 := by omega
    have eR : spR (fun v => (Giver_slotOf v).toInt) (Q.2.2.1 b j) s = ldN (fun v => (Giver_slotOf v).toInt) ((Q.2.2.1 b j) 2) s := if_pos e42
    have eV : spV (fun v => (Giver_slotOf v).toInt) (Q.2.2.1 b j) s = ldV (fun v => (Giver_slotOf v).toInt) ((Q.2.2.1 b j) 2) s.2 := if_pos e42
    obtain ⟨p1, p2, p3, p4⟩ := lod_tr (s := s) hc h0 hn (by rw [d2, ← eR]; omega) (by rw [d2, ← eR]; omega) h5
    rw [d2] at p1 p2 p3
    rw [← eR] at p2 p3
    have q1 : x2.toInt = spV (fun v => (Giver_slotOf v).toInt) (Q.2.2.1 b j) s := p1.trans eV.symm
    have q2 := p2
    have q3 := p3
    have q4 := p4
    have sf := sfo_tr h9
    rw [d1] at sf
    exact absurd h22 h10
  · intro x1 x2 x3 x4 x5 x6 x7 x8 x9 x10 x11 x12 x13 x14 x15 x16 x17 x18 x19 x20 x21 x22 x23 x24 x25 x26 x27 x28 x29 x30 x31 x32 x33 x34 x35 x36 h1 h2 h3 h4 h5 h6 h7 h8 h9 h10 h11 h12 h13 h14 h15 h16 h17 h18 h19 h20 h21 h22 h23 h24 h25
    rw [← h1] at d2
    rw [← h6] at d4
    rw [← h8] at d1
    rw [← h15] at d0
    rw [← h17] at d3
    rw [← h18] at d5
    have e42 : (Q.2.2.1 b j) 4 = (Q.2.2.1 b j) 2 := by omega
    have eR : spR (fun v => (Giver_slotOf v).toInt) (Q.2.2.1 b j) s = ldN (fun v => (Giver_slotOf v).toInt) ((Q.2.2.1 b j) 2) s := if_pos e42
    have eV : spV (fun v => (Giver_slotOf v).toInt) (Q.2.2.1 b j) s = ldV (fun v => (Giver_slotOf v).toInt) ((Q.2.2.1 b j) 2) s.2 := if_pos e42
    obtain ⟨p1, p2, p3, p4⟩ := lod_tr (s := s) hc h0 hn (by rw [d2, ← eR]; omega) (by rw [d2, ← eR]; omega) h5
    rw [d2] at p1 p2 p3
    rw [← eR] at p2 p3
    have q1 : x2.toInt = spV (fun v => (Giver_slotOf v).toInt) (Q.2.2.1 b j) s := p1.trans eV.symm
    have q2 := p2
    have q3 := p3
    have q4 := p4
    have sf := sfo_tr h9
    rw [d1] at sf
    have e1 : ¬ slf (fun v => (Giver_slotOf v).toInt) ((Q.2.2.1 b j) 1) = -1 := fun z => h10 (sf.trans z)
    have eL : spLn (fun v => (Giver_slotOf v).toInt) (Q.2.2.1 b j) s = (pgL (pgL (spR (fun v => (Giver_slotOf v).toInt) (Q.2.2.1 b j) s).1 (mkL ((Q.2.2.1 b j) 0) ((spR (fun v => (Giver_slotOf v).toInt) (Q.2.2.1 b j) s).2 : Int) (ldV (fun v => (Giver_slotOf v).toInt) ((Q.2.2.1 b j) 2) s.2) ((Q.2.2.1 b j) 3) (spV (fun v => (Giver_slotOf v).toInt) (Q.2.2.1 b j) s) ((Q.2.2.1 b j) 5))) (mkL 18 (-1) ((spR (fun v => (Giver_slotOf v).toInt) (Q.2.2.1 b j) s).2 : Int) 0 (-1) (slf (fun v => (Giver_slotOf v).toInt) ((Q.2.2.1 b j) 1))), (spR (fun v => (Giver_slotOf v).toInt) (Q.2.2.1 b j) s).2 + 1) := if_neg e1
    rw [eV] at eL
    rw [eL] at hb1 hb2 ⊢
    have hb1' : (spR (fun v => (Giver_slotOf v).toInt) (Q.2.2.1 b j) s).2 + 1 ≤ 720 := hb1
    have hb2' : lsm (pgL (pgL (spR (fun v => (Giver_slotOf v).toInt) (Q.2.2.1 b j) s).1 (mkL ((Q.2.2.1 b j) 0) ((spR (fun v => (Giver_slotOf v).toInt) (Q.2.2.1 b j) s).2 : Int) (ldV (fun v => (Giver_slotOf v).toInt) ((Q.2.2.1 b j) 2) s.2) ((Q.2.2.1 b j) 3) (ldV (fun v => (Giver_slotOf v).toInt) ((Q.2.2.1 b j) 2) s.2) ((Q.2.2.1 b j) 5))) (mkL 18 (-1) ((spR (fun v => (Giver_slotOf v).toInt) (Q.2.2.1 b j) s).2 : Int) 0 (-1) (slf (fun v => (Giver_slotOf v).toInt) ((Q.2.2.1 b j) 1)))) ≤ 920 := hb2
    have r1 : 0 < (pgL (spR (fun v => (Giver_slotOf v).toInt) (Q.2.2.1 b j) s).1 (mkL ((Q.2.2.1 b j) 0) ((spR (fun v => (Giver_slotOf v).toInt) (Q.2.2.1 b j) s).2 : Int) (ldV (fun v => (Giver_slotOf v).toInt) ((Q.2.2.1 b j) 2) s.2) ((Q.2.2.1 b j) 3) (ldV (fun v => (Giver_slotOf v).toInt) ((Q.2.2.1 b j) 2) s.2) ((Q.2.2.1 b j) 5))).1 := r0
    rw [lsm_L r1, lsm_L r0] at hb2'
    have hl := q3.2.1
    unfold lsm at hb2'
    obtain ⟨n1, n2, n3⟩ := ntp_tr q2 (by omega) h14
    have ad := add_tr2 h21 q3 (by omega) r0
    have a3 := add_tr3 h21 (by omega)
    rw [d0, n1, p1, d3, d5] at ad
    have hl2 := ad.2.1
    have f1 : fsm (pgL (spR (fun v => (Giver_slotOf v).toInt) (Q.2.2.1 b j) s).1 (mkL ((Q.2.2.1 b j) 0) ((spR (fun v => (Giver_slotOf v).toInt) (Q.2.2.1 b j) s).2 : Int) (ldV (fun v => (Giver_slotOf v).toInt) ((Q.2.2.1 b j) 2) s.2) ((Q.2.2.1 b j) 3) (ldV (fun v => (Giver_slotOf v).toInt) ((Q.2.2.1 b j) 2) s.2) ((Q.2.2.1 b j) 5))).2.1 (pgL (spR (fun v => (Giver_slotOf v).toInt) (Q.2.2.1 b j) s).1 (mkL ((Q.2.2.1 b j) 0) ((spR (fun v => (Giver_slotOf v).toInt) (Q.2.2.1 b j) s).2 : Int) (ldV (fun v => (Giver_slotOf v).toInt) ((Q.2.2.1 b j) 2) s.2) ((Q.2.2.1 b j) 3) (ldV (fun v => (Giver_slotOf v).toInt) ((Q.2.2.1 b j) 2) s.2) ((Q.2.2.1 b j) 5))).1 = fsm (spR (fun v => (Giver_slotOf v).toInt) (Q.2.2.1 b j) s).1.2.1 (spR (fun v => (Giver_slotOf v).toInt) (Q.2.2.1 b j) s).1.1 + 1 := lsm_L r0
    have ad2 := add_tr2 h25 ad (by omega) r1
    have a4 := add_tr3 h25 (by omega)
    rw [n1, sf, show Int32.toInt 18 = 18 by decide, show Int32.toInt (-1) = -1 by decide, show Int32.toInt 0 = 0 by decide] at ad2
    exact ⟨n2, ad2, a4.trans (a3.trans (n3.trans q4))⟩
  · intro x1 x2 x3 x4 x5 x6 x7 x8 x9 x10 x11 x12 x13 x14 x15 x16 x17 x18 x19 x20 x21 x22 x23 x24 x25 h1 h2 h3 h4 h5 h6 h7 h8 h9 h10 h11 h12 h13 h14 h15 h16 h17
    rw [← h1] at d2
    rw [← h6] at d4
    rw [← h8] at d1
    rw [← h11] at d0
    rw [← h13] at d3
    rw [← h14] at d5
    have e42 : (Q.2.2.1 b j) 4 = (Q.2.2.1 b j) 2 := by omega
    have eR : spR (fun v => (Giver_slotOf v).toInt) (Q.2.2.1 b j) s = ldN (fun v => (Giver_slotOf v).toInt) ((Q.2.2.1 b j) 2) s := if_pos e42
    have eV : spV (fun v => (Giver_slotOf v).toInt) (Q.2.2.1 b j) s = ldV (fun v => (Giver_slotOf v).toInt) ((Q.2.2.1 b j) 2) s.2 := if_pos e42
    obtain ⟨p1, p2, p3, p4⟩ := lod_tr (s := s) hc h0 hn (by rw [d2, ← eR]; omega) (by rw [d2, ← eR]; omega) h5
    rw [d2] at p1 p2 p3
    rw [← eR] at p2 p3
    have q1 : x2.toInt = spV (fun v => (Giver_slotOf v).toInt) (Q.2.2.1 b j) s := p1.trans eV.symm
    have q2 := p2
    have q3 := p3
    have q4 := p4
    have sf := sfo_tr h9
    rw [d1] at sf
    have e1 : slf (fun v => (Giver_slotOf v).toInt) ((Q.2.2.1 b j) 1) = -1 := sf.symm.trans h10
    have eL : spLn (fun v => (Giver_slotOf v).toInt) (Q.2.2.1 b j) s = (pgL (spR (fun v => (Giver_slotOf v).toInt) (Q.2.2.1 b j) s).1 (mkL ((Q.2.2.1 b j) 0) ((Q.2.2.1 b j) 1) (ldV (fun v => (Giver_slotOf v).toInt) ((Q.2.2.1 b j) 2) s.2) ((Q.2.2.1 b j) 3) (spV (fun v => (Giver_slotOf v).toInt) (Q.2.2.1 b j) s) ((Q.2.2.1 b j) 5)), (spR (fun v => (Giver_slotOf v).toInt) (Q.2.2.1 b j) s).2) := if_pos e1
    rw [eV] at eL
    rw [eL] at hb2 ⊢
    have hb2' : lsm (pgL (spR (fun v => (Giver_slotOf v).toInt) (Q.2.2.1 b j) s).1 (mkL ((Q.2.2.1 b j) 0) ((Q.2.2.1 b j) 1) (ldV (fun v => (Giver_slotOf v).toInt) ((Q.2.2.1 b j) 2) s.2) ((Q.2.2.1 b j) 3) (ldV (fun v => (Giver_slotOf v).toInt) ((Q.2.2.1 b j) 2) s.2) ((Q.2.2.1 b j) 5))) ≤ 920 := hb2
    rw [lsm_L r0] at hb2'
    have hl := q3.2.1
    unfold lsm at hb2'
    have ad := add_tr2 h17 q3 (by omega) r0
    have a3 := add_tr3 h17 (by omega)
    rw [d0, d1, p1, d3, d5] at ad
    exact ⟨q2, ad, a3.trans q4⟩
theorem sp41_tl {l1_1 : Int32} {Code_blocks : Int32} {Code_lines : Int32} {Code_first : Nat → Int32} {Giver_slotOf : Nat → Int32} {Code_op : Nat → Int32} {Code_set : Nat → Int32} {Code_left : Nat → Int32} {Code_leftNumber : Nat → Int32} {Code_right : Nat → Int32} {Code_rightNumber : Nat → Int32} {s1 : Int32} {s2 : Int32} {s3 : Int32} {s4 : Int32} {s5 : Nat → Int32} {s6 : Nat → Int32} {s7 : Nat → Int32} {s8 : Nat → Int32} {s9 : Nat → Int32} {s10 : Nat → Int32} {k : Nat} {e1 : Int32} {e2 : Int32} {e3 : Int32} {e4 : Nat → Int32} {e5 : Nat → Int32} {e6 : Nat → Int32} {e7 : Nat → Int32} {e8 : Nat → Int32} {e9 : Nat → Int32} {bl : Int32} {fi fg sg : Nat → Int32} {s : gSp6} {fg2 sg2 : Nat → Int32} (hq : cdP Code_blocks Code_lines Code_first fg2 sg2 Code_op Code_set Code_left Code_leftNumber Code_right Code_rightNumber Q) (ha : l1_1.toInt = (b : Int)) (hbQ : b < Q.1) (h0 : 0 < s.1.1) (h100 : 100 ≤ s.2) (hb1 : (spB (fun v => (Giver_slotOf v).toInt) (Q.2.2.1 b) (Q.2.1 b) s).2 ≤ 720) (hb2 : lsm (spB (fun v => (Giver_slotOf v).toInt) (Q.2.2.1 b) (Q.2.1 b) s).1 ≤ 920) (h : tl_Giver_spill_41 l1_1 Code_blocks Code_lines Code_first Giver_slotOf Code_op Code_set Code_left Code_leftNumber Code_right Code_rightNumber s1 s2 s3 s4 s5 s6 s7 s8 s9 s10 k e1 e2 e3 e4 e5 e6 e7 e8 e9) : ∀ j : Nat, j ≤ Q.2.1 b → s1.toInt = ((fsm Q.2.1 b + j : Nat) : Int) → s2.toInt = ((spB (fun v => (Giver_slotOf v).toInt) (Q.2.2.1 b) j s).2 : Int) → cdP bl s3 fi fg sg s5 s6 s7 s8 s9 s10 (spB (fun v => (Giver_slotOf v).toInt) (Q.2.2.1 b) j s).1 → e1.toInt = ((spB (fun v => (Giver_slotOf v).toInt) (Q.2.2.1 b) (Q.2.1 b) s).2 : Int) ∧ cdP bl e2 fi fg sg e4 e5 e6 e7 e8 e9 (spB (fun v => (Giver_slotOf v).toInt) (Q.2.2.1 b) (Q.2.1 b) s).1 ∧ e3 = s4 := by
  have f2 : fsm Q.2.1 (b + 1) = fsm Q.2.1 b + Q.2.1 b := rfl
  refine h (fun s1 s2 s3 s4 s5 s6 s7 s8 s9 s10 _ e1 e2 e3 e4 e5 e6 e7 e8 e9 => ∀ j : Nat, j ≤ Q.2.1 b → s1.toInt = ((fsm Q.2.1 b + j : Nat) : Int) → s2.toInt = ((spB (fun v => (Giver_slotOf v).toInt) (Q.2.2.1 b) j s).2 : Int) → cdP bl s3 fi fg sg s5 s6 s7 s8 s9 s10 (spB (fun v => (Giver_slotOf v).toInt) (Q.2.2.1 b) j s).1 → e1.toInt = ((spB (fun v => (Giver_slotOf v).toInt) (Q.2.2.1 b) (Q.2.1 b) s).2 : Int) ∧ cdP bl e2 fi fg sg e4 e5 e6 e7 e8 e9 (spB (fun v => (Giver_slotOf v).toInt) (Q.2.2.1 b) (Q.2.1 b) s).1 ∧ e3 = s4) ?_ ?_ ?_ ?_
  · intro l2_2 Giver_names_2 Code_lines_2 Code_isFull_2 Code_op_2 Code_set_2 Code_left_2 Code_leftNumber_2 Code_right_2 Code_rightNumber_2 h1 h2 h3 h4 h5 h6
    intro j hj hs1 hs2 hc
    have be := bE_tr2 hq ha hbQ h5
    have e : j = Q.2.1 b := by omega
    rw [e] at hs2 hc
    exact ⟨hs2, hc, rfl⟩
  · intro l2_2 Giver_names_2 Code_lines_2 Code_isFull_2 Code_op_2 Code_set_2 Code_left_2 Code_leftNumber_2 Code_right_2 Code_rightNumber_2 x1 x2 x3 x4 x5 x6 x7 x8 x9 x10 k e1 e2 e3 e4 e5 e6 e7 e8 e9 h1 h2 h3 h4 h5 h6 h7 h8 h9 h10 h11 ih
    intro j hj hs1 hs2 hc
    have be := bE_tr2 hq ha hbQ h5
    have hj2 : j < Q.2.1 b := by omega
    obtain ⟨-, k2, k3⟩ := spB_k (so := (fun v => (Giver_slotOf v).toInt)) (ls := (Q.2.2.1 b)) h0 h100 j
    have mm := spB_m (so := (fun v => (Giver_slotOf v).toInt)) (ls := (Q.2.2.1 b)) h0 h100 (Q.2.1 b - (j + 1)) (j + 1)
    rw [show j + 1 + (Q.2.1 b - (j + 1)) = Q.2.1 b by omega] at mm
    obtain ⟨r1, r2, r3⟩ := spl_tr hq hbQ hj2 (nnE hs1) hc k2 k3 hs2 (Nat.le_trans mm.1 hb1) (Nat.le_trans mm.2 hb2) h10
    obtain ⟨i1, i2, i3⟩ := ih (j + 1) (by omega) (by omega) r1 r2
    exact ⟨i1, i2, i3.trans r3⟩
  · intro l2_2 Giver_names_2 Code_lines_2 Code_isFull_2 Code_op_2 Code_set_2 Code_left_2 Code_leftNumber_2 Code_right_2 Code_rightNumber_2 x1 h1 h2 h3 h4 h5 h6
    intro j hj hs1 hs2 hc
    have be := bE_tr2 hq ha hbQ h5
    have e : j = Q.2.1 b := by omega
    rw [e] at hs2 hc
    exact ⟨hs2, hc, rfl⟩
  · intro l2_2 Giver_names_2 Code_lines_2 Code_isFull_2 Code_op_2 Code_set_2 Code_left_2 Code_leftNumber_2 Code_right_2 Code_rightNumber_2 x1 x2 x3 x4 x5 x6 x7 x8 x9 x10 x11 k e1 e2 e3 e4 e5 e6 e7 e8 e9 h1 h2 h3 h4 h5 h6 h7 h8 h9 h10 h11 ih
    intro j hj hs1 hs2 hc
    have be := bE_tr2 hq ha hbQ h5
    have hj2 : j < Q.2.1 b := by omega
    obtain ⟨-, k2, k3⟩ := spB_k (so := (fun v => (Giver_slotOf v).toInt)) (ls := (Q.2.2.1 b)) h0 h100 j
    have mm := spB_m (so := (fun v => (Giver_slotOf v).toInt)) (ls := (Q.2.2.1 b)) h0 h100 (Q.2.1 b - (j + 1)) (j + 1)
    rw [show j + 1 + (Q.2.1 b - (j + 1)) = Q.2.1 b by omega] at mm
    obtain ⟨r1, r2, r3⟩ := spl_tr hq hbQ hj2 (nnE hs1) hc k2 k3 hs2 (Nat.le_trans mm.1 hb1) (Nat.le_trans mm.2 hb2) h10
    obtain ⟨i1, i2, i3⟩ := ih (j + 1) (by omega) (by omega) r1 r2
    exact ⟨i1, i2, i3.trans r3⟩
theorem opL3_tr {Code_blocks : Int32} {Code_lines : Int32} {Code_blocks2 : Int32} {Code_first : Nat → Int32} {Code_firstGoal : Nat → Int32} {Code_secondGoal : Nat → Int32} {Code_firstGoal2 : Nat → Int32} {Code_secondGoal2 : Nat → Int32} {o1 : Int32} {o2 : Nat → Int32} {o3 : Nat → Int32} {o4 : Nat → Int32} {P : gPg} {li2 : Int32} {fi2 op2 st2 lf2 ln2 rt2 rn2 op st lf ln rt rn : Nat → Int32} (h : tr_Code_openLike3 Code_blocks Code_lines Code_blocks2 Code_first Code_firstGoal Code_secondGoal Code_firstGoal2 Code_secondGoal2 o1 o2 o3 o4) (hc2 : cdP Code_blocks2 li2 fi2 Code_firstGoal2 Code_secondGoal2 op2 st2 lf2 ln2 rt2 rn2 P) (hc : cdP Code_blocks Code_lines Code_first Code_firstGoal Code_secondGoal op st lf ln rt rn Q) (hlt : Q.1 < P.1) (h40 : P.1 ≤ 40) : cdP o1 Code_lines o2 o3 o4 op st lf ln rt rn (pgOL P Q) := by
  have c1 := hc.1
  have c2 := hc2.1
  refine h (fun o1 o2 o3 o4 => cdP o1 Code_lines o2 o3 o4 op st lf ln rt rn (pgOL P Q)) ?_ ?_ ?_
  · intro h1
    omega
  · intro x1 x2 x3 x4 x5 h1 h2 h3 h4 h5
    obtain ⟨q1, -⟩ := opB_tr2 h4 hc (by omega)
    omega
  · intro x1 x2 x3 x4 x5 x6 x7 x8 x9 h1 h2 h3 h4 h5 h6 h7 h8 h9
    obtain ⟨q1, q2⟩ := opB_tr2 h4 hc (by omega)
    have e := nnE c1
    rw [e] at h6 h7 h8 h9
    obtain ⟨g0, g1⟩ := (hc2.2.2.1 Q.1 hlt).2
    exact cdP_OL q2 h7 h9 (by rw [h6]; exact g0) (by rw [h8]; exact g1)
theorem sp9_tl {Code_blocks : Int32} {Code_firstGoal : Nat → Int32} {Code_secondGoal : Nat → Int32} {Code_first : Nat → Int32} {Code_lines : Int32} {Giver_slotOf : Nat → Int32} {Code_op : Nat → Int32} {Code_set : Nat → Int32} {Code_left : Nat → Int32} {Code_leftNumber : Nat → Int32} {Code_right : Nat → Int32} {Code_rightNumber : Nat → Int32} {s1 : Int32} {s2 : Int32} {s3 : Nat → Int32} {s4 : Nat → Int32} {s5 : Nat → Int32} {s6 : Int32} {s7 : Int32} {s8 : Int32} {s9 : Nat → Int32} {s10 : Nat → Int32} {s11 : Nat → Int32} {s12 : Nat → Int32} {s13 : Nat → Int32} {s14 : Nat → Int32} {k : Nat} {e1 : Int32} {e2 : Int32} {e3 : Int32} {e4 : Int32} {e5 : Nat → Int32} {e6 : Nat → Int32} {e7 : Nat → Int32} {e8 : Nat → Int32} {e9 : Nat → Int32} {e10 : Nat → Int32} {e11 : Nat → Int32} {e12 : Nat → Int32} {e13 : Nat → Int32} (hq : cdP Code_blocks Code_lines Code_first Code_firstGoal Code_secondGoal Code_op Code_set Code_left Code_leftNumber Code_right Code_rightNumber Q) (h40 : Q.1 ≤ 40) (hnm : 100 ≤ nm) (hb1 : (spP (fun v => (Giver_slotOf v).toInt) Q nm Q.1).2 ≤ 720) (hb2 : lsm (spP (fun v => (Giver_slotOf v).toInt) Q nm Q.1).1 ≤ 920) (h : tl_Giver_spill_9 Code_blocks Code_firstGoal Code_secondGoal Code_first Code_lines Giver_slotOf Code_op Code_set Code_left Code_leftNumber Code_right Code_rightNumber s1 s2 s3 s4 s5 s6 s7 s8 s9 s10 s11 s12 s13 s14 k e1 e2 e3 e4 e5 e6 e7 e8 e9 e10 e11 e12 e13) : ∀ b : Nat, b ≤ Q.1 → s1.toInt = (b : Int) → s6.toInt = ((spP (fun v => (Giver_slotOf v).toInt) Q nm b).2 : Int) → cdP s2 s7 s3 s4 s5 s9 s10 s11 s12 s13 s14 (spP (fun v => (Giver_slotOf v).toInt) Q nm b).1 → e1.toInt = ((spP (fun v => (Giver_slotOf v).toInt) Q nm Q.1).2 : Int) ∧ cdP e2 e3 e5 e6 e7 e8 e9 e10 e11 e12 e13 (spP (fun v => (Giver_slotOf v).toInt) Q nm Q.1).1 ∧ e4 = s8 := by
  refine h (fun s1 s2 s3 s4 s5 s6 s7 s8 s9 s10 s11 s12 s13 s14 _ e1 e2 e3 e4 e5 e6 e7 e8 e9 e10 e11 e12 e13 => ∀ b : Nat, b ≤ Q.1 → s1.toInt = (b : Int) → s6.toInt = ((spP (fun v => (Giver_slotOf v).toInt) Q nm b).2 : Int) → cdP s2 s7 s3 s4 s5 s9 s10 s11 s12 s13 s14 (spP (fun v => (Giver_slotOf v).toInt) Q nm b).1 → e1.toInt = ((spP (fun v => (Giver_slotOf v).toInt) Q nm Q.1).2 : Int) ∧ cdP e2 e3 e5 e6 e7 e8 e9 e10 e11 e12 e13 (spP (fun v => (Giver_slotOf v).toInt) Q nm Q.1).1 ∧ e4 = s8) ?_ ?_
  · intro l1_1 Code_blocks_1 Code_first_1 Code_firstGoal_1 Code_secondGoal_1 Giver_names_1 Code_lines_1 Code_isFull_1 Code_op_1 Code_set_1 Code_left_1 Code_leftNumber_1 Code_right_1 Code_rightNumber_1 h1 h2 h3 h4 h5 h6
    intro b hb hs hn hc
    have e : b = Q.1 := by have := hq.1; omega
    rw [e] at hn hc
    exact ⟨hn, hc, rfl⟩
  · intro l1_1 Code_blocks_1 Code_first_1 Code_firstGoal_1 Code_secondGoal_1 Giver_names_1 Code_lines_1 Code_isFull_1 Code_op_1 Code_set_1 Code_left_1 Code_leftNumber_1 Code_right_1 Code_rightNumber_1 x1 x2 x3 x4 x5 x6 x7 x8 x9 x10 x11 x12 x13 x14 x15 k e1 e2 e3 e4 e5 e6 e7 e8 e9 e10 e11 e12 e13 h1 h2 h3 h4 h5 h6 h7 h8 h9 h10 h11 h12 ih
    intro b hb hs hn hc
    have hb2' : b < Q.1 := by have := hq.1; omega
    obtain ⟨k1, k2, -, -⟩ := spP_k (so := (fun v => (Giver_slotOf v).toInt)) (Q := Q) hnm b
    have op := opL3_tr h8 hq hc (by rw [k1]; exact hb2') h40
    have mm := spP_m (so := (fun v => (Giver_slotOf v).toInt)) (Q := Q) hnm (Q.1 - (b + 1)) (b + 1)
    rw [show b + 1 + (Q.1 - (b + 1)) = Q.1 by omega] at mm
    rw [nnE hs] at h9
    obtain ⟨r1, r2, r3⟩ := sp41_tl (s := (pgOL Q (spP (fun v => (Giver_slotOf v).toInt) Q nm b).1, (spP (fun v => (Giver_slotOf v).toInt) Q nm b).2)) hq hs hb2' (Nat.succ_pos _) k2 (Nat.le_trans mm.1 hb1) (Nat.le_trans mm.2 hb2) h11 0 (Nat.zero_le _) (by rw [h9]; exact (hq.2.2.1 b hb2').1) hn op
    obtain ⟨i1, i2, i3⟩ := ih (b + 1) hb2' (by omega) r1 r2
    exact ⟨i1, i2, i3.trans r3⟩
theorem spa_tr {Giver_names : Int32} {Giver_slotOf : Nat → Int32} {Code_blocks : Int32} {Code_lines : Int32} {Code_isFull : Int32} {Code_first : Nat → Int32} {Code_firstGoal : Nat → Int32} {Code_secondGoal : Nat → Int32} {Code_op : Nat → Int32} {Code_set : Nat → Int32} {Code_left : Nat → Int32} {Code_leftNumber : Nat → Int32} {Code_right : Nat → Int32} {Code_rightNumber : Nat → Int32} {Code_first2 : Nat → Int32} {Code_firstGoal2 : Nat → Int32} {Code_secondGoal2 : Nat → Int32} {Code_op2 : Nat → Int32} {Code_set2 : Nat → Int32} {Code_left2 : Nat → Int32} {Code_leftNumber2 : Nat → Int32} {Code_right2 : Nat → Int32} {Code_rightNumber2 : Nat → Int32} {o1 : Int32} {o2 : Int32} {o3 : Int32} {o4 : Int32} {o5 : Int32} {o6 : Int32} {o7 : Int32} {o8 : Nat → Int32} {o9 : Nat → Int32} {o10 : Nat → Int32} {o11 : Nat → Int32} {o12 : Nat → Int32} {o13 : Nat → Int32} {o14 : Nat → Int32} {o15 : Nat → Int32} {o16 : Nat → Int32} {o17 : Nat → Int32} {o18 : Nat → Int32} {o19 : Nat → Int32} {o20 : Nat → Int32} {o21 : Nat → Int32} {o22 : Nat → Int32} {o23 : Nat → Int32} {o24 : Nat → Int32} {o25 : Nat → Int32} (hq : cdP Code_blocks Code_lines Code_first Code_firstGoal Code_secondGoal Code_op Code_set Code_left Code_leftNumber Code_right Code_rightNumber Q) (h40 : Q.1 ≤ 40) (hnm : 100 ≤ nm) (hb1 : (spP (fun v => (Giver_slotOf v).toInt) Q nm Q.1).2 ≤ 720) (hb2 : lsm (spP (fun v => (Giver_slotOf v).toInt) Q nm Q.1).1 ≤ 920) (hn : Giver_names.toInt = (nm : Int)) (h : tr_Giver_spill Giver_names Giver_slotOf Code_blocks Code_lines Code_isFull Code_first Code_firstGoal Code_secondGoal Code_op Code_set Code_left Code_leftNumber Code_right Code_rightNumber Code_first2 Code_firstGoal2 Code_secondGoal2 Code_op2 Code_set2 Code_left2 Code_leftNumber2 Code_right2 Code_rightNumber2 o1 o2 o3 o4 o5 o6 o7 o8 o9 o10 o11 o12 o13 o14 o15 o16 o17 o18 o19 o20 o21 o22 o23 o24 o25) : o1.toInt = ((spP (fun v => (Giver_slotOf v).toInt) Q nm Q.1).2 : Int) ∧ cdP o2 o3 o8 o9 o10 o11 o12 o13 o14 o15 o16 (spP (fun v => (Giver_slotOf v).toInt) Q nm Q.1).1 ∧ o4.toInt = 0 := by
  refine h (fun o1 o2 o3 o4 o5 o6 o7 o8 o9 o10 o11 o12 o13 o14 o15 o16 o17 o18 o19 o20 o21 o22 o23 o24 o25 => o1.toInt = ((spP (fun v => (Giver_slotOf v).toInt) Q nm Q.1).2 : Int) ∧ cdP o2 o3 o8 o9 o10 o11 o12 o13 o14 o15 o16 (spP (fun v => (Giver_slotOf v).toInt) Q nm Q.1).1 ∧ o4.toInt = 0) ?_
  · intro x1 x2 x3 x4 x5 x6 x7 x8 x9 x10 x11 x12 x13 x14 x15 x16 h1 h2 h3 h4 h5
    have cl : x1.toInt = 0 ∧ x2.toInt = 0 ∧ x3.toInt = 0 := h4 (fun x1 x2 x3 => x1.toInt = 0 ∧ x2.toInt = 0 ∧ x3.toInt = 0) ⟨by decide, by decide, by decide⟩
    obtain ⟨r1, r2, r3⟩ := sp9_tl hq h40 hnm hb1 hb2 h5 0 (Nat.zero_le _) (by decide) hn (cdP_O cl.1 cl.2.1)
    exact ⟨r1, r2, by rw [r3]; exact cl.2.2⟩
end GVC
