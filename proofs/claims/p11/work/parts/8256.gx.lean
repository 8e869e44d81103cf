section GXR
variable {D : va_G} {I : FieldType → ClassId} {P : List Nat} {F : Nat → va_E} {γ0 el0 : Nat → Nat → Nat} {f nm sl N : Nat} {Q R : gPg} {so : Nat → Int} {col : Nat → Int}
theorem sp73_r {q0 : Nat} {F_1 : Nat → va_E} {q1 : Nat} {s1 : List Nat} {s2 : Nat → va_E} {s3 : Nat → Nat → Nat} {s4 : Nat → Nat → Nat} {s5 : Int32} {k : Nat} {e1 : Nat → va_E} {e2 : List Nat} {e3 : Nat → Nat → Nat} {e4 : Nat → Nat → Nat} (hm : γ0 0 q0 = 10) (hc : γ0 0 q1 = 9) (hcf : γ0 1 q1 = f) (hQ6 : γ0 6 f = R.1) (hO : qOk R) (hsl : slR (cB (F_1 (γ0 9 19))) so) (h100 : 100 ≤ nm) (hbd : (spP so R nm R.1).2 ≤ 720) (hld : ∀ b i, b < R.1 → i < R.2.1 b → R.2.2.1 b i 0 = 17 → slf so (R.2.2.1 b i 1) = -1) (h : tl_RModel_spill_73 D I γ0 el0 f P F q0 F_1 q1 s1 s2 s3 s4 s5 k e1 e2 e3 e4) : ∀ d : Nat, s5.toInt = (d : Int) → d ≤ R.1 → rfX s3 s4 s2 q1 (mid (bgS so R nm d) R d 0) → (fI (s2 q0) 14).toInt = ((bgS so R nm d).2 : Int) → k = 431 ∧ rfX e3 e4 e1 q1 (spP so R nm R.1).1 ∧ (fI (e1 q0) 14).toInt = ((spP so R nm R.1).2 : Int) ∧ (fI (e1 q0) 11).toInt = (fI (F_1 q0) 11).toInt := by
  refine h (fun s1 s2 s3 s4 s5 k e1 e2 e3 e4 => ∀ d : Nat, s5.toInt = (d : Int) → d ≤ R.1 → rfX s3 s4 s2 q1 (mid (bgS so R nm d) R d 0) → (fI (s2 q0) 14).toInt = ((bgS so R nm d).2 : Int) → k = 431 ∧ rfX e3 e4 e1 q1 (spP so R nm R.1).1 ∧ (fI (e1 q0) 14).toInt = ((spP so R nm R.1).2 : Int) ∧ (fI (e1 q0) 11).toInt = (fI (F_1 q0) 11).toInt) ?_ ?_ ?_ ?_ ?_
  · intro P_1 F_11 gm_1 el_1 l2_1 x1 h1 h2 h3 h4 h5 h6 h7 h8 h9 h10 h11 h12 h13 h14
    intro d hd hd2 hq ht
    have q3 := hq.1
    have q3' : (fI (F_11 q1) 3).toInt = (R.1 : Int) := q3
    rw [h13] at q3'
    have e : d = R.1 := by omega
    rw [e] at hq ht
    exact ⟨rfl, rfX_A hq (mid_end h100), ht, h7⟩
  · intro P_1 F_11 gm_1 el_1 l2_1 x1 x2 x3 x4 x5 x6 x7 x8 x9 k e1 e2 e3 e4 h1 h2 h3 h4 h5 h6 h7 h8 h9 h10 h11 h12 h13 h14 h15 h16 h17 h18 h19 h20 ih
    intro d hd hd2 hq ht
    have q3 := hq.1
    have q3' : (fI (F_11 q1) 3).toInt = (R.1 : Int) := q3
    rw [h13] at q3'
    have d1 : d < R.1 := by omega
    have c9 : gm_1 0 q1 = 9 := rSk_k h3 (show rKd γ0 q1 9 from hc) (by decide) (by decide)
    obtain ⟨lb, lr, rn, md, w1, ⟨w2, -⟩, -⟩ := show rk_9 gm_1 el_1 q1 (F_11 q1) from RS_o h2 c9
    have e3 : x3 = el_1 (gm_1 14 q1) d := by
      rw [h16, ← h15, w1, show l2_1.toInt.toNat = d by rw [hd]; rfl]
      show el_1 lb d = _
      rw [w2]
    have mm := (spP_m (so := so) (Q := R) h100 (R.1 - (d + 1)) (d + 1)).1
    rw [show d + 1 + (R.1 - (d + 1)) = R.1 by omega] at mm
    have r := sp90_r (S0 := bgS so R nm d) (b := d) hm hc hcf hQ6 hO d1 hd hsl (bgS_1 h100) (spP_k (so := so) (Q := R) h100 d).2.1 (by rw [← spP_s]; omega) (fun i hi => hld d i d1 hi) h19 0 (Nat.zero_le _) ⟨hq, e3.symm, by
      show Int32.toInt 0 = ((bgS so R nm d).1.2.1 d : Int)
      rw [bgS_0 h100]; decide, ht⟩
    obtain ⟨-, r1, r2, r3⟩ := r
    rw [← spP_s] at r1 r3
    exact ih (d + 1) (by omega) d1 (rfX_A r1 (mid_blk h100)) r3
  · intro P_1 F_11 gm_1 el_1 l2_1 x1 x2 x3 x4 x5 x6 x7 x8 h1 h2 h3 h4 h5 h6 h7 h8 h9 h10 h11 h12 h13 h14 h15 h16 h17 h18 h19
    intro d hd hd2 hq ht
    have q3 := hq.1
    have q3' : (fI (F_11 q1) 3).toInt = (R.1 : Int) := q3
    rw [h13] at q3'
    have d1 : d < R.1 := by omega
    have c9 : gm_1 0 q1 = 9 := rSk_k h3 (show rKd γ0 q1 9 from hc) (by decide) (by decide)
    obtain ⟨lb, lr, rn, md, w1, ⟨w2, -⟩, -⟩ := show rk_9 gm_1 el_1 q1 (F_11 q1) from RS_o h2 c9
    have e3 : x3 = el_1 (gm_1 14 q1) d := by
      rw [h16, ← h15, w1, show l2_1.toInt.toNat = d by rw [hd]; rfl]
      show el_1 lb d = _
      rw [w2]
    have mm := (spP_m (so := so) (Q := R) h100 (R.1 - (d + 1)) (d + 1)).1
    rw [show d + 1 + (R.1 - (d + 1)) = R.1 by omega] at mm
    have r := sp90_r (S0 := bgS so R nm d) (b := d) hm hc hcf hQ6 hO d1 hd hsl (bgS_1 h100) (spP_k (so := so) (Q := R) h100 d).2.1 (by rw [← spP_s]; omega) (fun i hi => hld d i d1 hi) h19 0 (Nat.zero_le _) ⟨hq, e3.symm, by
      show Int32.toInt 0 = ((bgS so R nm d).1.2.1 d : Int)
      rw [bgS_0 h100]; decide, ht⟩
    exact absurd r.1 (by decide)
  · intro P_1 F_11 gm_1 el_1 l2_1 x1 x2 x3 x4 x5 x6 x7 x8 h1 h2 h3 h4 h5 h6 h7 h8 h9 h10 h11 h12 h13 h14 h15 h16 h17 h18 h19
    intro d hd hd2 hq ht
    have q3 := hq.1
    have q3' : (fI (F_11 q1) 3).toInt = (R.1 : Int) := q3
    rw [h13] at q3'
    have d1 : d < R.1 := by omega
    have c9 : gm_1 0 q1 = 9 := rSk_k h3 (show rKd γ0 q1 9 from hc) (by decide) (by decide)
    obtain ⟨lb, lr, rn, md, w1, ⟨w2, -⟩, -⟩ := show rk_9 gm_1 el_1 q1 (F_11 q1) from RS_o h2 c9
    have e3 : x3 = el_1 (gm_1 14 q1) d := by
      rw [h16, ← h15, w1, show l2_1.toInt.toNat = d by rw [hd]; rfl]
      show el_1 lb d = _
      rw [w2]
    have mm := (spP_m (so := so) (Q := R) h100 (R.1 - (d + 1)) (d + 1)).1
    rw [show d + 1 + (R.1 - (d + 1)) = R.1 by omega] at mm
    have r := sp90_r (S0 := bgS so R nm d) (b := d) hm hc hcf hQ6 hO d1 hd hsl (bgS_1 h100) (spP_k (so := so) (Q := R) h100 d).2.1 (by rw [← spP_s]; omega) (fun i hi => hld d i d1 hi) h19 0 (Nat.zero_le _) ⟨hq, e3.symm, by
      show Int32.toInt 0 = ((bgS so R nm d).1.2.1 d : Int)
      rw [bgS_0 h100]; decide, ht⟩
    exact absurd r.1 (by decide)
  · intro P_1 F_11 gm_1 el_1 l2_1 x1 x2 x3 x4 x5 x6 x7 x8 h1 h2 h3 h4 h5 h6 h7 h8 h9 h10 h11 h12 h13 h14 h15 h16 h17 h18 h19
    intro d hd hd2 hq ht
    have q3 := hq.1
    have q3' : (fI (F_11 q1) 3).toInt = (R.1 : Int) := q3
    rw [h13] at q3'
    have d1 : d < R.1 := by omega
    have c9 : gm_1 0 q1 = 9 := rSk_k h3 (show rKd γ0 q1 9 from hc) (by decide) (by decide)
    obtain ⟨lb, lr, rn, md, w1, ⟨w2, -⟩, -⟩ := show rk_9 gm_1 el_1 q1 (F_11 q1) from RS_o h2 c9
    have e3 : x3 = el_1 (gm_1 14 q1) d := by
      rw [h16, ← h15, w1, show l2_1.toInt.toNat = d by rw [hd]; rfl]
      show el_1 lb d = _
      rw [w2]
    have mm := (spP_m (so := so) (Q := R) h100 (R.1 - (d + 1)) (d + 1)).1
    rw [show d + 1 + (R.1 - (d + 1)) = R.1 by omega] at mm
    have r := sp90_r (S0 := bgS so R nm d) (b := d) hm hc hcf hQ6 hO d1 hd hsl (bgS_1 h100) (spP_k (so := so) (Q := R) h100 d).2.1 (by rw [← spP_s]; omega) (fun i hi => hld d i d1 hi) h19 0 (Nat.zero_le _) ⟨hq, e3.symm, by
      show Int32.toInt 0 = ((bgS so R nm d).1.2.1 d : Int)
      rw [bgS_0 h100]; decide, ht⟩
    exact absurd r.1 (by decide)
theorem sp2_r {q0 : Nat} {q1 : Nat} {s1 : List Nat} {s2 : Nat → va_E} {s3 : Nat → Nat → Nat} {s4 : Nat → Nat → Nat} {s5 : Int32} {k : Nat} {e1 : Nat → va_E} {e2 : List Nat} {e3 : Nat → Nat → Nat} {e4 : Nat → Nat → Nat} (hT : RS D I P F γ0 el0) (hm : γ0 0 q0 = 10) (hS : ∀ v, rSd (cB (F (γ0 9 3))) v ↔ Sd R false 2000 v) (hC : ∀ v, v < 2000 → (cB (F (γ0 9 17)) v).toInt = col v) (hcb : ∀ v, -1 ≤ col v) (h : tl_RModel_spill_2 D I γ0 el0 f P F q0 q1 s1 s2 s3 s4 s5 k e1 e2 e3 e4) : ∀ i : Nat, s5.toInt = (i : Int) → i ≤ 2000 → (fI (s2 q0) 11).toInt = ((sl + cntP (unc R col) i : Nat) : Int) → (∀ v, v < i → (unc R col v → (cB (s2 (γ0 9 19)) v).toInt = ((sl + cntP (unc R col) v : Nat) : Int)) ∧ (¬ unc R col v → (cB (s2 (γ0 9 19)) v).toInt = -1)) → (∀ v, v < i → 100 ≤ v → ¬ unc R col v) → (∀ a, a ≠ γ0 9 19 → a ≠ q0 → s2 a = F a) → (fI (s2 q0) 14).toInt = (fI (F q0) 14).toInt → e2 = s1 ∧ e3 = s3 ∧ e4 = s4 ∧ (k = 43 → ∃ v, 100 ≤ v ∧ unc R col v) ∧ (k = 71 → (∀ v, 100 ≤ v → ¬ unc R col v) ∧ (fI (e1 q0) 11).toInt = ((sl + cntP (unc R col) 100 : Nat) : Int) ∧ (∀ v, v < 2000 → (unc R col v → (cB (e1 (γ0 9 19)) v).toInt = ((sl + cntP (unc R col) v : Nat) : Int)) ∧ (¬ unc R col v → (cB (e1 (γ0 9 19)) v).toInt = -1)) ∧ (∀ a, a ≠ γ0 9 19 → a ≠ q0 → e1 a = F a) ∧ (fI (e1 q0) 14).toInt = (fI (F q0) 14).toInt) := by
  obtain ⟨k3, k5, k15, k16, k17, k18, k19, k11⟩ := md_kd9 hT hm
  have n3 : γ0 9 3 ≠ γ0 9 19 := fun e => by rw [e, k19] at k3; cases k3
  have n17 : γ0 9 17 ≠ γ0 9 19 := fun e => by rw [e, k19] at k17; cases k17
  have m3 : γ0 9 3 ≠ q0 := fun e => by rw [e, hm] at k3; cases k3
  have m17 : γ0 9 17 ≠ q0 := fun e => by rw [e, hm] at k17; cases k17
  have m19 : γ0 9 19 ≠ q0 := fun e => by rw [e, hm] at k19; cases k19
  have usd : ∀ v, unc R col v → v < 2000 := fun v h => h.1.1
  have c_y : ∀ {v}, unc R col v → cntP (unc R col) (v + 1) = cntP (unc R col) v + 1 := fun {v} h => by
    show cntP (unc R col) v + @ite Nat (unc R col v) (Classical.propDecidable _) 1 0 = _
    rw [if_pos h]
  have c_n : ∀ {v}, ¬ unc R col v → cntP (unc R col) (v + 1) = cntP (unc R col) v := fun {v} h => by
    show cntP (unc R col) v + @ite Nat (unc R col v) (Classical.propDecidable _) 1 0 = _
    rw [if_neg h, Nat.add_zero]
  refine h (fun s1 s2 s3 s4 s5 k e1 e2 e3 e4 => ∀ i : Nat, s5.toInt = (i : Int) → i ≤ 2000 → (fI (s2 q0) 11).toInt = ((sl + cntP (unc R col) i : Nat) : Int) → (∀ v, v < i → (unc R col v → (cB (s2 (γ0 9 19)) v).toInt = ((sl + cntP (unc R col) v : Nat) : Int)) ∧ (¬ unc R col v → (cB (s2 (γ0 9 19)) v).toInt = -1)) → (∀ v, v < i → 100 ≤ v → ¬ unc R col v) → (∀ a, a ≠ γ0 9 19 → a ≠ q0 → s2 a = F a) → (fI (s2 q0) 14).toInt = (fI (F q0) 14).toInt → e2 = s1 ∧ e3 = s3 ∧ e4 = s4 ∧ (k = 43 → ∃ v, 100 ≤ v ∧ unc R col v) ∧ (k = 71 → (∀ v, 100 ≤ v → ¬ unc R col v) ∧ (fI (e1 q0) 11).toInt = ((sl + cntP (unc R col) 100 : Nat) : Int) ∧ (∀ v, v < 2000 → (unc R col v → (cB (e1 (γ0 9 19)) v).toInt = ((sl + cntP (unc R col) v : Nat) : Int)) ∧ (¬ unc R col v → (cB (e1 (γ0 9 19)) v).toInt = -1)) ∧ (∀ a, a ≠ γ0 9 19 → a ≠ q0 → e1 a = F a) ∧ (fI (e1 q0) 14).toInt = (fI (F q0) 14).toInt)) ?_ ?_ ?_ ?_ ?_
  · intro P_1 F_1 gm_1 el_1 l2_1 h1 h2 h3 h4 h5 h6 h7 h8 h9 h10 h11 h12 h13
    intro i hi hi2 hs hv hu hf h14
    have n9 : gm_1 9 = γ0 9 := rSk_9 h3
    have e : i = 2000 := by omega
    rw [e] at hs hv hu
    have hz : ∀ v, 100 ≤ v → ¬ unc R col v := fun v h1 h2 => hu v (usd v h2) h1 h2
    refine ⟨rfl, rfl, rfl, fun z => (nomatch z), fun _ => ⟨hz, ?_, hv, hf, h14⟩⟩
    rw [hs, cntP_zz (T := unc R col) (n := 100) (m := 2000) (by decide) hz]
  · intro P_1 F_1 gm_1 el_1 l2_1 x1 x2 x3 x4 x5 x6 k e1 e2 e3 e4 h1 h2 h3 h4 h5 h6 h7 h8 h9 h10 h11 h12 h13 h14 h15 h16 h17 h18 h19 h20 h21 h22 h23 h24 ih
    intro i hi hi2 hs hv hu hf h14
    have n9 : gm_1 9 = γ0 9 := rSk_9 h3
    have hi3 : i < 2000 := by omega
    have en := nnE hi
    rw [n9] at h15 h17 h18 h20
    rw [en] at h16 h21
    have f3 := h17
    have s4 : cB (F (γ0 9 3)) = x4 := by rw [← hf _ n3 m3, ← f3 _ n3]; exact cB_of h20
    have c1 : cB (F_1 (γ0 9 19)) = x1 := cB_of h15
    have c2 : cB (x3 (γ0 9 19)) = x2 := cB_of h18
    have b1 := h22.1
    have b2 := h22.2
    have sd : Sd R false 2000 i ↔ x5.toInt ≠ 0 := by
      rw [← hS i, s4]
      exact ⟨fun z => by have := z.2; rw [← h21] at this; omega, fun z => ⟨hi3, by rw [← h21]; omega⟩⟩
    have fr3 : (∀ a, a ≠ γ0 9 19 → a ≠ q0 → x3 a = F a) := fun a ha hq => (f3 a ha).trans (hf a ha hq)
    have q3 : x3 q0 = F_1 q0 := f3 q0 m19.symm
    have old : ¬ unc R col i → (∀ v, v < (i + 1) → (unc R col v → (cB (x3 (γ0 9 19)) v).toInt = ((sl + cntP (unc R col) v : Nat) : Int)) ∧ (¬ unc R col v → (cB (x3 (γ0 9 19)) v).toInt = -1)) := fun nu v hv2 => by
      rw [c2, h16]
      by_cases e : v = i
      · rw [e, updE]; exact ⟨fun z => absurd z nu, fun _ => by decide⟩
      · rw [updN e, ← c1]; exact hv v (by omega)
    have nu : ¬ unc R col i := fun z => sd.mp z.1 h23
    refine ih (i + 1) (by omega) (by omega) (by rw [c_n nu, q3]; exact hs) (old nu) (fun v h1 h2 h3 => ?_) fr3 (by rw [q3]; exact h14)
    by_cases e : v = i
    · rw [e] at h3; exact nu h3
    · exact hu v (by omega) h2 h3
  · intro P_1 F_1 gm_1 el_1 l2_1 x1 x2 x3 x4 x5 x6 x7 x8 x9 x10 x11 x12 x13 k e1 e2 e3 e4 h1 h2 h3 h4 h5 h6 h7 h8 h9 h10 h11 h12 h13 h14 h15 h16 h17 h18 h19 h20 h21 h22 h23 h24 h25 h26 h27 h28 h29 h30 h31 h32 h33 h34 h35 h36 h37 h38 h39 h40 ih
    intro i hi hi2 hs hv hu hf h14
    have n9 : gm_1 9 = γ0 9 := rSk_9 h3
    have hi3 : i < 2000 := by omega
    have en := nnE hi
    rw [n9] at h15 h17 h18 h20
    rw [en] at h16 h21
    have f3 := h17
    have s4 : cB (F (γ0 9 3)) = x4 := by rw [← hf _ n3 m3, ← f3 _ n3]; exact cB_of h20
    have c1 : cB (F_1 (γ0 9 19)) = x1 := cB_of h15
    have c2 : cB (x3 (γ0 9 19)) = x2 := cB_of h18
    have b1 := h22.1
    have b2 := h22.2
    have sd : Sd R false 2000 i ↔ x5.toInt ≠ 0 := by
      rw [← hS i, s4]
      exact ⟨fun z => by have := z.2; rw [← h21] at this; omega, fun z => ⟨hi3, by rw [← h21]; omega⟩⟩
    have fr3 : (∀ a, a ≠ γ0 9 19 → a ≠ q0 → x3 a = F a) := fun a ha hq => (f3 a ha).trans (hf a ha hq)
    have q3 : x3 q0 = F_1 q0 := f3 q0 m19.symm
    have old : ¬ unc R col i → (∀ v, v < (i + 1) → (unc R col v → (cB (x3 (γ0 9 19)) v).toInt = ((sl + cntP (unc R col) v : Nat) : Int)) ∧ (¬ unc R col v → (cB (x3 (γ0 9 19)) v).toInt = -1)) := fun nu v hv2 => by
      rw [c2, h16]
      by_cases e : v = i
      · rw [e, updE]; exact ⟨fun z => absurd z nu, fun _ => by decide⟩
      · rw [updN e, ← c1]; exact hv v (by omega)
    rw [n9] at h25
    rw [en] at h26
    have s6 : cB (F (γ0 9 17)) = x6 := by rw [← hf _ n17 m17, ← f3 _ n17]; exact cB_of h25
    have cv := hC i hi3
    rw [s6, ← h26] at cv
    have cb := hcb i
    have un : unc R col i := ⟨sd.mpr h23, by omega⟩
    rw [n9] at h34 h35
    rw [en] at h33
    have f10 := h34
    have f12 := h38
    have c12 : cB (x12 (γ0 9 19)) = x9 := by rw [f12 _ m19]; exact cB_of h35
    have q10 : x10 q0 = F_1 q0 := (f10 q0 m19.symm).trans q3
    have x8s : x8.toInt = ((sl + cntP (unc R col) i : Nat) : Int) := by rw [← h31, q3]; exact hs
    have m10 : gm_1 0 q0 = 10 := rSk_k h3 (show rKd γ0 q0 10 from hm) (by decide) (by decide)
    obtain ⟨r28, r35, v9, v10, v11, v12, v13, v14, v23, v24, v25, v26, v27, v30, v32, v33, v34, he, -⟩ := rk10_m (show rk_10 gm_1 (F_1 q0) from RS_o h2 m10)
    refine ih (i + 1) (by omega) (by omega) ?_ (fun v hv2 => ?_) (fun v h1 h2 h3 => ?_) (fun a ha hq => ?_) ?_
    · rw [c_y un, h39, q10, he]
      show x11.toInt = _
      omega
    · rw [c12, h33]
      by_cases e : v = i
      · rw [e, updE]; exact ⟨fun _ => x8s, fun z => absurd un z⟩
      · rw [updN e, h16, updN e, ← c1]; exact hv v (by omega)
    · by_cases e : v = i
      · omega
      · exact hu v (by omega) h2 h3
    · rw [f12 a hq, f10 a ha]; exact fr3 a ha hq
    · rw [h39, q10, he]
      show v14.toInt = _
      rw [he] at h14
      exact h14
  · intro P_1 F_1 gm_1 el_1 l2_1 x1 x2 x3 x4 x5 x6 x7 h1 h2 h3 h4 h5 h6 h7 h8 h9 h10 h11 h12 h13 h14 h15 h16 h17 h18 h19 h20 h21 h22 h23 h24 h25 h26 h27 h28 h29
    intro i hi hi2 hs hv hu hf h14
    have n9 : gm_1 9 = γ0 9 := rSk_9 h3
    have hi3 : i < 2000 := by omega
    have en := nnE hi
    rw [n9] at h15 h17 h18 h20
    rw [en] at h16 h21
    have f3 := h17
    have s4 : cB (F (γ0 9 3)) = x4 := by rw [← hf _ n3 m3, ← f3 _ n3]; exact cB_of h20
    have c1 : cB (F_1 (γ0 9 19)) = x1 := cB_of h15
    have c2 : cB (x3 (γ0 9 19)) = x2 := cB_of h18
    have b1 := h22.1
    have b2 := h22.2
    have sd : Sd R false 2000 i ↔ x5.toInt ≠ 0 := by
      rw [← hS i, s4]
      exact ⟨fun z => by have := z.2; rw [← h21] at this; omega, fun z => ⟨hi3, by rw [← h21]; omega⟩⟩
    have fr3 : (∀ a, a ≠ γ0 9 19 → a ≠ q0 → x3 a = F a) := fun a ha hq => (f3 a ha).trans (hf a ha hq)
    have q3 : x3 q0 = F_1 q0 := f3 q0 m19.symm
    have old : ¬ unc R col i → (∀ v, v < (i + 1) → (unc R col v → (cB (x3 (γ0 9 19)) v).toInt = ((sl + cntP (unc R col) v : Nat) : Int)) ∧ (¬ unc R col v → (cB (x3 (γ0 9 19)) v).toInt = -1)) := fun nu v hv2 => by
      rw [c2, h16]
      by_cases e : v = i
      · rw [e, updE]; exact ⟨fun z => absurd z nu, fun _ => by decide⟩
      · rw [updN e, ← c1]; exact hv v (by omega)
    rw [n9] at h25
    rw [en] at h26
    have s6 : cB (F (γ0 9 17)) = x6 := by rw [← hf _ n17 m17, ← f3 _ n17]; exact cB_of h25
    have cv := hC i hi3
    rw [s6, ← h26] at cv
    have cb := hcb i
    have un : unc R col i := ⟨sd.mpr h23, by omega⟩
    exact ⟨rfl, rfl, rfl, fun _ => ⟨i, by omega, un⟩, fun z => (nomatch z)⟩
  · intro P_1 F_1 gm_1 el_1 l2_1 x1 x2 x3 x4 x5 x6 x7 x8 k e1 e2 e3 e4 h1 h2 h3 h4 h5 h6 h7 h8 h9 h10 h11 h12 h13 h14 h15 h16 h17 h18 h19 h20 h21 h22 h23 h24 h25 h26 h27 h28 h29 ih
    intro i hi hi2 hs hv hu hf h14
    have n9 : gm_1 9 = γ0 9 := rSk_9 h3
    have hi3 : i < 2000 := by omega
    have en := nnE hi
    rw [n9] at h15 h17 h18 h20
    rw [en] at h16 h21
    have f3 := h17
    have s4 : cB (F (γ0 9 3)) = x4 := by rw [← hf _ n3 m3, ← f3 _ n3]; exact cB_of h20
    have c1 : cB (F_1 (γ0 9 19)) = x1 := cB_of h15
    have c2 : cB (x3 (γ0 9 19)) = x2 := cB_of h18
    have b1 := h22.1
    have b2 := h22.2
    have sd : Sd R false 2000 i ↔ x5.toInt ≠ 0 := by
      rw [← hS i, s4]
      exact ⟨fun z => by have := z.2; rw [← h21] at this; omega, fun z => ⟨hi3, by rw [← h21]; omega⟩⟩
    have fr3 : (∀ a, a ≠ γ0 9 19 → a ≠ q0 → x3 a = F a) := fun a ha hq => (f3 a ha).trans (hf a ha hq)
    have q3 : x3 q0 = F_1 q0 := f3 q0 m19.symm
    have old : ¬ unc R col i → (∀ v, v < (i + 1) → (unc R col v → (cB (x3 (γ0 9 19)) v).toInt = ((sl + cntP (unc R col) v : Nat) : Int)) ∧ (¬ unc R col v → (cB (x3 (γ0 9 19)) v).toInt = -1)) := fun nu v hv2 => by
      rw [c2, h16]
      by_cases e : v = i
      · rw [e, updE]; exact ⟨fun z => absurd z nu, fun _ => by decide⟩
      · rw [updN e, ← c1]; exact hv v (by omega)
    rw [n9] at h25
    rw [en] at h26
    have s6 : cB (F (γ0 9 17)) = x6 := by rw [← hf _ n17 m17, ← f3 _ n17]; exact cB_of h25
    have cv := hC i hi3
    rw [s6, ← h26] at cv
    have cb := hcb i
    have nu : ¬ unc R col i := fun z => by have := z.2; omega
    refine ih (i + 1) (by omega) (by omega) (by rw [c_n nu, q3]; exact hs) (old nu) (fun v h1 h2 h3 => ?_) fr3 (by rw [q3]; exact h14)
    by_cases e : v = i
    · rw [e] at h3; exact nu h3
    · exact hu v (by omega) h2 h3
section CRW
variable {γ el : Nat → Nat → Nat}
theorem crw4 {q0 : Nat} {s1 : Int32} {s2 : Int32} {k : Nat} {e1 : Int32} (hT : RS D I P F γ el) (hc : γ 0 q0 = 9) (hcf : γ 1 q0 = f) (hQ6 : γ 6 f = Q.1) (hq : rfX γ el F q0 Q) (hl : lsm Q ≤ 1000000) (h : tl_RCode_countRows_4 D I γ el F q0 s1 s2 k e1) : ∀ b : Nat, s1.toInt = (b : Int) → b ≤ Q.1 → 0 ≤ s2.toInt → s2.toInt ≤ (fsm Q.2.1 b : Int) → e1.toInt ≤ (lsm Q : Int) := by
  have q3 := hq.1
  obtain ⟨lb, lr, rn, md, w1, ⟨w2, -⟩, -⟩ := show rk_9 γ el q0 (F q0) from RS_o hT hc
  refine h (fun s1 s2 _ e1 => ∀ b : Nat, s1.toInt = (b : Int) → b ≤ Q.1 → 0 ≤ s2.toInt → s2.toInt ≤ (fsm Q.2.1 b : Int) → e1.toInt ≤ (lsm Q : Int)) ?_ ?_
  · intro l2_1 l1_1 x1 h1 h2 h3
    intro b hb hb2 h0 hs
    rw [h2] at q3
    rw [show b = Q.1 by omega] at hs
    exact hs
  · intro l2_1 l1_1 x1 x2 x3 x4 x5 x6 x7 x8 k e1 h1 h2 h3 h4 h5 h6 h7 h8 h9 h10 h11 h12 ih
    intro b hb hb2 h0 hs
    rw [h2] at q3
    have b1 : b < Q.1 := by omega
    have bk := hB2_ hT hc hcf hQ6 b b1
    obtain ⟨ll, nn, pp, ss, v1, ⟨g1, g2, g3⟩, -⟩ := show rk_2 γ (el (γ 14 q0) b) (F (el (γ 14 q0) b)) from RS_o hT bk
    have e3 : x3 = el (γ 14 q0) b := by
      rw [h5, ← h4, w1, show l2_1.toInt.toNat = b by rw [hb]; rfl]
      show el lb b = _
      rw [w2]
    have e5 : x5 = rwL γ el q0 b := by
      rw [← h8, e3, v1]
      show ll = γ 14 (el (γ 14 q0) b)
      rw [g1]
    rw [e5] at h9
    have m := (hq.2.1 b b1).1
    have fb : fsm Q.2.1 (b + 1) = fsm Q.2.1 b + Q.2.1 b := rfl
    have fm := fsm_mo (l := Q.2.1) (show b + 1 ≤ Q.1 from b1)
    have lq : fsm Q.2.1 Q.1 = lsm Q := rfl
    have a7 := px_add h11 (by omega) (by omega)
    exact ih (b + 1) (by omega) b1 (by omega) (by omega)
theorem crw_tr {q0 : Nat} {o1 : Int32} (hT : RS D I P F γ el) (hc : γ 0 q0 = 9) (hcf : γ 1 q0 = f) (hQ6 : γ 6 f = Q.1) (hq : rfX γ el F q0 Q) (hl : lsm Q ≤ 1000000) (h : tr_RCode_countRows D I γ el F q0 o1) : o1.toInt ≤ (lsm Q : Int) := by
  refine h (fun o1 => o1.toInt ≤ (lsm Q : Int)) ?_
  · intro x1 h1
    exact crw4 hT hc hcf hQ6 hq hl h1 0 (by decide) (Nat.zero_le _) (by decide) (show Int32.toInt 0 ≤ (0 : Int) by decide)
end CRW
theorem rfX_val {γ el : Nat → Nat → Nat} {c n : Nat} (h : rfX γ el F c Q) : rfX (gVal γ 7 f n) el F c Q := by
  have e2 : gVal γ 7 f n 2 = γ 2 := by funext a; exact if_neg (fun z => absurd z.1 (by decide))
  have e14 : gVal γ 7 f n 14 = γ 14 := by funext a; exact if_neg (fun z => absurd z.1 (by decide))
  have e15 : gVal γ 7 f n 15 = γ 15 := by funext a; exact if_neg (fun z => absurd z.1 (by decide))
  have eL : ∀ i, rwL (gVal γ 7 f n) el c i = rwL γ el c i := fun i => by unfold rwL; rw [e14]
  have eA : ∀ i j, rAt (gVal γ 7 f n) el c i j = rAt γ el c i j := fun i j => by unfold rAt; rw [eL, e2, e14, e15]
  obtain ⟨a1, a2, a3⟩ := h
  refine ⟨a1, fun i hi => ?_, fun i hi k hk => ?_⟩
  · rw [eL, e2, e14]; exact a2 i hi
  · rw [eL, e2] at hk
    rw [eA]; exact a3 i hi k hk
theorem sp73_T {q0 : Nat} {F_1 : Nat → va_E} {q1 : Nat} {s1 : List Nat} {s2 : Nat → va_E} {s3 : Nat → Nat → Nat} {s4 : Nat → Nat → Nat} {s5 : Int32} {k : Nat} {e1 : Nat → va_E} {e2 : List Nat} {e3 : Nat → Nat → Nat} {e4 : Nat → Nat → Nat} (hm : γ0 0 q0 = 10) (hc : γ0 0 q1 = 9) (hcf : γ0 1 q1 = f) (hQ6 : γ0 6 f = R.1) (h : tl_RModel_spill_73 D I γ0 el0 f P F q0 F_1 q1 s1 s2 s3 s4 s5 k e1 e2 e3 e4) : k = 431 → RS D I e2 e1 e3 e4 ∧ e3 0 q1 = 9 ∧ e3 1 q1 = f ∧ e3 6 f = R.1 := by
  refine h (fun s1 s2 s3 s4 s5 k e1 e2 e3 e4 => k = 431 → RS D I e2 e1 e3 e4 ∧ e3 0 q1 = 9 ∧ e3 1 q1 = f ∧ e3 6 f = R.1) ?_ ?_ ?_ ?_ ?_
  · intro P_1 F_11 gm_1 el_1 l2_1 x1 h1 h2 h3 h4 h5 h6 h7 h8 h9 h10 h11 h12 h13 h14
    exact fun _ => ⟨h2, rSk_k h3 (show rKd γ0 q1 9 from hc) (by decide) (by decide), rSk_1 h3 (show rKd γ0 q1 9 from hc) (by decide) hcf, (h4).trans hQ6⟩
  · intro P_1 F_11 gm_1 el_1 l2_1 x1 x2 x3 x4 x5 x6 x7 x8 x9 k e1 e2 e3 e4 h1 h2 h3 h4 h5 h6 h7 h8 h9 h10 h11 h12 h13 h14 h15 h16 h17 h18 h19 h20 ih
    exact ih
  · intro P_1 F_11 gm_1 el_1 l2_1 x1 x2 x3 x4 x5 x6 x7 x8 h1 h2 h3 h4 h5 h6 h7 h8 h9 h10 h11 h12 h13 h14 h15 h16 h17 h18 h19
    exact fun z => (nomatch z)
  · intro P_1 F_11 gm_1 el_1 l2_1 x1 x2 x3 x4 x5 x6 x7 x8 h1 h2 h3 h4 h5 h6 h7 h8 h9 h10 h11 h12 h13 h14 h15 h16 h17 h18 h19
    exact fun z => (nomatch z)
  · intro P_1 F_11 gm_1 el_1 l2_1 x1 x2 x3 x4 x5 x6 x7 x8 h1 h2 h3 h4 h5 h6 h7 h8 h9 h10 h11 h12 h13 h14 h15 h16 h17 h18 h19
    exact fun z => (nomatch z)
theorem gx_cnt {q0 : Nat} {F_1 : Nat → va_E} {q1 : Nat} {s1 : List Nat} {s2 : Nat → va_E} {s3 : Nat → Nat → Nat} {s4 : Nat → Nat → Nat} {s5 : Int32} {e1 : Nat → va_E} {e2 : List Nat} {e3 : Nat → Nat → Nat} {e4 : Nat → Nat → Nat} {Q2 : gPg} {x : Int32} (hm : γ0 0 q0 = 10) (hc : γ0 0 q1 = 9) (hcf : γ0 1 q1 = f) (hQ6 : γ0 6 f = R.1) (h : tl_RModel_spill_73 D I γ0 el0 f P F q0 F_1 q1 s1 s2 s3 s4 s5 431 e1 e2 e3 e4) (hq : rfX e3 e4 e1 q1 Q2) (hl : lsm Q2 ≤ 920) (he : Q2.1 = R.1) (h2 : tr_RCode_countRows D I e3 e4 e1 q1 x) : x.toInt ≤ 4000 := by
  obtain ⟨t1, t2, t3, t4⟩ := sp73_T hm hc hcf hQ6 h rfl
  have q := crw_tr t1 t2 t3 (t4.trans he.symm) hq (by omega) h2
  omega
theorem spi_r {q0 : Nat} {q1 : Nat} {o1 : Int32} {o2 : List Nat} {o3 : Nat → va_E} {o4 : Nat → Nat → Nat} {o5 : Nat → Nat → Nat} (hT : RS D I P F γ0 el0) (hm : γ0 0 q0 = 10) (hc : γ0 0 q1 = 9) (hcf : γ0 1 q1 = f) (hQ6 : γ0 6 f = R.1) (hq : rfX γ0 el0 F q1 R) (hO : qOk R) (hI : gvI R nm) (hS : ∀ v, rSd (cB (F (γ0 9 3))) v ↔ Sd R false 2000 v) (hC : ∀ v, v < 2000 → (cB (F (γ0 9 17)) v).toInt = col v) (hcb : ∀ v, -1 ≤ col v) (hsl : (fI (F q0) 11).toInt = (sl : Int)) (hsl2 : sl ≤ 100) (hnm : (fI (F q0) 14).toInt = (nm : Int)) (hld : ∀ b i, b < R.1 → i < R.2.1 b → R.2.2.1 b i 0 = 17 → 100 ≤ R.2.2.1 b i 1) (h : tr_RModel_spill D I γ0 el0 f P F q0 q1 o1 o2 o3 o4 o5) : (o1.toInt = 0 ∧ ∃ v, 100 ≤ v ∧ unc R col v) ∨ (o1.toInt ≠ 0 ∧ (∀ v, 100 ≤ v → ¬ unc R col v) ∧ rfX o4 o5 o3 q1 (spP (soU (unc R col) sl) R nm R.1).1 ∧ (fI (o3 q0) 14).toInt = ((spP (soU (unc R col) sl) R nm R.1).2 : Int) ∧ (fI (o3 q0) 11).toInt = ((sl + cntP (unc R col) 100 : Nat) : Int)) := by
  obtain ⟨k3, k5, k15, k16, k17, k18, k19, k11⟩ := md_kd9 hT hm
  obtain ⟨qi1, qi2, qi3, qi4⟩ := spP_i (so := (soU (unc R col) sl)) hI
  refine h (fun o1 o2 o3 o4 o5 => (o1.toInt = 0 ∧ ∃ v, 100 ≤ v ∧ unc R col v) ∨ (o1.toInt ≠ 0 ∧ (∀ v, 100 ≤ v → ¬ unc R col v) ∧ rfX o4 o5 o3 q1 (spP (soU (unc R col) sl) R nm R.1).1 ∧ (fI (o3 q0) 14).toInt = ((spP (soU (unc R col) sl) R nm R.1).2 : Int) ∧ (fI (o3 q0) 11).toInt = ((sl + cntP (unc R col) 100 : Nat) : Int))) ?_ ?_ ?_ ?_ ?_ ?_
  · intro x1 x2 x3 x4 x5 x6 x7 x8 x9 x10 x11 x12 x13 h1 h2 h3 h4 h5 h6 h7 h8
    have eg := h1
    have ee := h2
    subst eg
    subst ee
    obtain ⟨w1, w2, w3, w4, w5⟩ := sp2_r (R := R) (col := col) (sl := sl) hT hm hS hC hcb h3 0 (by decide) (Nat.zero_le _) hsl (fun v hv => absurd hv (Nat.not_lt_zero v)) (fun v hv => absurd hv (Nat.not_lt_zero v)) (fun _ _ _ => rfl) rfl
    obtain ⟨u1, u2, u3, u4, u5⟩ := w5 rfl
    have cu := cntP_le (T := (unc R col)) 100
    have sR : slR (cB (x3 (x1 9 19))) (soU (unc R col) sl) := fun v hv => by
      obtain ⟨p1, p2⟩ := u3 v hv
      by_cases e : unc R col v
      · have v1 : v < 100 := Classical.byContradiction fun n => u1 v (by omega) e
        have m1 := cntP_mo (T := (unc R col)) (U := (unc R col)) v (fun _ _ z => z)
        have le := cntP_le (T := (unc R col)) v
        refine Or.inr ⟨by rw [p1 e]; omega, by rw [p1 e]; omega, ?_⟩
        rw [p1 e]
        unfold slf
        rw [if_pos (by omega), Int.toNat_natCast, soU_p e]
      · refine Or.inl ⟨by rw [p2 e]; decide, ?_⟩
        unfold slf
        by_cases z : 0 ≤ (v : Int) ∧ (v : Int) < 100
        · rw [if_pos z, Int.toNat_natCast, soU_0 e]
        · rw [if_neg z]
    have m19 : x1 9 19 ≠ q0 := fun e => by rw [e, hm] at k19; cases k19
    have q3 : rfX x1 x2 x3 q1 R := rfX_fr hT hc hcf hQ6 hq (fun a ha => u4 a (fun e => by rw [e, k19] at ha; omega) (fun e => by rw [e, hm] at ha; omega))
    have q8 : rfX x8 x6 x3 q1 R := by
      rw [h5, w2, w3]
      exact rfX_val q3
    have r := sp73_r (so := (soU (unc R col) sl)) (nm := nm) hm hc hcf hQ6 hO sR hI.2.1 qi3 (fun b i hb hi h17 => by
      unfold slf
      rw [if_neg (fun z => by have := hld b i hb hi h17; omega)]) h6 0 (by decide) (Nat.zero_le _) (rfX_A q8 (mid_bg hI.2.1)) (by
      show (fI (x3 q0) 14).toInt = (nm : Int)
      rw [u5]; exact hnm)
    obtain ⟨-, r1, r2, r3⟩ := r
    have jj := h6
    exact absurd (gx_cnt (R := R) hm hc hcf hQ6 jj r1 qi4 (spP_k (so := (soU (unc R col) sl)) (Q := R) hI.2.1 R.1).1 h7) (by omega)
  · intro x1 x2 x3 x4 x5 x6 x7 x8 x9 x10 x11 x12 x13 h1 h2 h3 h4 h5 h6 h7 h8
    have eg := h1
    have ee := h2
    subst eg
    subst ee
    obtain ⟨w1, w2, w3, w4, w5⟩ := sp2_r (R := R) (col := col) (sl := sl) hT hm hS hC hcb h3 0 (by decide) (Nat.zero_le _) hsl (fun v hv => absurd hv (Nat.not_lt_zero v)) (fun v hv => absurd hv (Nat.not_lt_zero v)) (fun _ _ _ => rfl) rfl
    obtain ⟨u1, u2, u3, u4, u5⟩ := w5 rfl
    have cu := cntP_le (T := (unc R col)) 100
    have sR : slR (cB (x3 (x1 9 19))) (soU (unc R col) sl) := fun v hv => by
      obtain ⟨p1, p2⟩ := u3 v hv
      by_cases e : unc R col v
      · have v1 : v < 100 := Classical.byContradiction fun n => u1 v (by omega) e
        have m1 := cntP_mo (T := (unc R col)) (U := (unc R col)) v (fun _ _ z => z)
        have le := cntP_le (T := (unc R col)) v
        refine Or.inr ⟨by rw [p1 e]; omega, by rw [p1 e]; omega, ?_⟩
        rw [p1 e]
        unfold slf
        rw [if_pos (by omega), Int.toNat_natCast, soU_p e]
      · refine Or.inl ⟨by rw [p2 e]; decide, ?_⟩
        unfold slf
        by_cases z : 0 ≤ (v : Int) ∧ (v : Int) < 100
        · rw [if_pos z, Int.toNat_natCast, soU_0 e]
        · rw [if_neg z]
    have m19 : x1 9 19 ≠ q0 := fun e => by rw [e, hm] at k19; cases k19
    have q3 : rfX x1 x2 x3 q1 R := rfX_fr hT hc hcf hQ6 hq (fun a ha => u4 a (fun e => by rw [e, k19] at ha; omega) (fun e => by rw [e, hm] at ha; omega))
    have q8 : rfX x8 x6 x3 q1 R := by
      rw [h5, w2, w3]
      exact rfX_val q3
    have r := sp73_r (so := (soU (unc R col) sl)) (nm := nm) hm hc hcf hQ6 hO sR hI.2.1 qi3 (fun b i hb hi h17 => by
      unfold slf
      rw [if_neg (fun z => by have := hld b i hb hi h17; omega)]) h6 0 (by decide) (Nat.zero_le _) (rfX_A q8 (mid_bg hI.2.1)) (by
      show (fI (x3 q0) 14).toInt = (nm : Int)
      rw [u5]; exact hnm)
    obtain ⟨-, r1, r2, r3⟩ := r
    exact Or.inr ⟨by decide, u1, r1, r2, by rw [r3]; exact u2⟩
  · intro x1 x2 x3 x4 x5 x6 x7 x8 x9 x10 x11 x12 h1 h2 h3 h4 h5 h6
    have eg := h1
    have ee := h2
    subst eg
    subst ee
    obtain ⟨w1, w2, w3, w4, w5⟩ := sp2_r (R := R) (col := col) (sl := sl) hT hm hS hC hcb h3 0 (by decide) (Nat.zero_le _) hsl (fun v hv => absurd hv (Nat.not_lt_zero v)) (fun v hv => absurd hv (Nat.not_lt_zero v)) (fun _ _ _ => rfl) rfl
    obtain ⟨u1, u2, u3, u4, u5⟩ := w5 rfl
    have cu := cntP_le (T := (unc R col)) 100
    have sR : slR (cB (x3 (x1 9 19))) (soU (unc R col) sl) := fun v hv => by
      obtain ⟨p1, p2⟩ := u3 v hv
      by_cases e : unc R col v
      · have v1 : v < 100 := Classical.byContradiction fun n => u1 v (by omega) e
        have m1 := cntP_mo (T := (unc R col)) (U := (unc R col)) v (fun _ _ z => z)
        have le := cntP_le (T := (unc R col)) v
        refine Or.inr ⟨by rw [p1 e]; omega, by rw [p1 e]; omega, ?_⟩
        rw [p1 e]
        unfold slf
        rw [if_pos (by omega), Int.toNat_natCast, soU_p e]
      · refine Or.inl ⟨by rw [p2 e]; decide, ?_⟩
        unfold slf
        by_cases z : 0 ≤ (v : Int) ∧ (v : Int) < 100
        · rw [if_pos z, Int.toNat_natCast, soU_0 e]
        · rw [if_neg z]
    have m19 : x1 9 19 ≠ q0 := fun e => by rw [e, hm] at k19; cases k19
    have q3 : rfX x1 x2 x3 q1 R := rfX_fr hT hc hcf hQ6 hq (fun a ha => u4 a (fun e => by rw [e, k19] at ha; omega) (fun e => by rw [e, hm] at ha; omega))
    have q8 : rfX x8 x6 x3 q1 R := by
      rw [h5, w2, w3]
      exact rfX_val q3
    have r := sp73_r (so := (soU (unc R col) sl)) (nm := nm) hm hc hcf hQ6 hO sR hI.2.1 qi3 (fun b i hb hi h17 => by
      unfold slf
      rw [if_neg (fun z => by have := hld b i hb hi h17; omega)]) h6 0 (by decide) (Nat.zero_le _) (rfX_A q8 (mid_bg hI.2.1)) (by
      show (fI (x3 q0) 14).toInt = (nm : Int)
      rw [u5]; exact hnm)
    exact absurd r.1 (by decide)
  · intro x1 x2 x3 x4 x5 x6 x7 x8 x9 x10 x11 x12 h1 h2 h3 h4 h5 h6
    have eg := h1
    have ee := h2
    subst eg
    subst ee
    obtain ⟨w1, w2, w3, w4, w5⟩ := sp2_r (R := R) (col := col) (sl := sl) hT hm hS hC hcb h3 0 (by decide) (Nat.zero_le _) hsl (fun v hv => absurd hv (Nat.not_lt_zero v)) (fun v hv => absurd hv (Nat.not_lt_zero v)) (fun _ _ _ => rfl) rfl
    obtain ⟨u1, u2, u3, u4, u5⟩ := w5 rfl
    have cu := cntP_le (T := (unc R col)) 100
    have sR : slR (cB (x3 (x1 9 19))) (soU (unc R col) sl) := fun v hv => by
      obtain ⟨p1, p2⟩ := u3 v hv
      by_cases e : unc R col v
      · have v1 : v < 100 := Classical.byContradiction fun n => u1 v (by omega) e
        have m1 := cntP_mo (T := (unc R col)) (U := (unc R col)) v (fun _ _ z => z)
        have le := cntP_le (T := (unc R col)) v
        refine Or.inr ⟨by rw [p1 e]; omega, by rw [p1 e]; omega, ?_⟩
        rw [p1 e]
        unfold slf
        rw [if_pos (by omega), Int.toNat_natCast, soU_p e]
      · refine Or.inl ⟨by rw [p2 e]; decide, ?_⟩
        unfold slf
        by_cases z : 0 ≤ (v : Int) ∧ (v : Int) < 100
        · rw [if_pos z, Int.toNat_natCast, soU_0 e]
        · rw [if_neg z]
    have m19 : x1 9 19 ≠ q0 := fun e => by rw [e, hm] at k19; cases k19
    have q3 : rfX x1 x2 x3 q1 R := rfX_fr hT hc hcf hQ6 hq (fun a ha => u4 a (fun e => by rw [e, k19] at ha; omega) (fun e => by rw [e, hm] at ha; omega))
    have q8 : rfX x8 x6 x3 q1 R := by
      rw [h5, w2, w3]
      exact rfX_val q3
    have r := sp73_r (so := (soU (unc R col) sl)) (nm := nm) hm hc hcf hQ6 hO sR hI.2.1 qi3 (fun b i hb hi h17 => by
      unfold slf
      rw [if_neg (fun z => by have := hld b i hb hi h17; omega)]) h6 0 (by decide) (Nat.zero_le _) (rfX_A q8 (mid_bg hI.2.1)) (by
      show (fI (x3 q0) 14).toInt = (nm : Int)
      rw [u5]; exact hnm)
    exact absurd r.1 (by decide)
  · intro x1 x2 x3 x4 x5 x6 x7 x8 x9 x10 x11 x12 h1 h2 h3 h4 h5 h6
    have eg := h1
    have ee := h2
    subst eg
    subst ee
    obtain ⟨w1, w2, w3, w4, w5⟩ := sp2_r (R := R) (col := col) (sl := sl) hT hm hS hC hcb h3 0 (by decide) (Nat.zero_le _) hsl (fun v hv => absurd hv (Nat.not_lt_zero v)) (fun v hv => absurd hv (Nat.not_lt_zero v)) (fun _ _ _ => rfl) rfl
    obtain ⟨u1, u2, u3, u4, u5⟩ := w5 rfl
    have cu := cntP_le (T := (unc R col)) 100
    have sR : slR (cB (x3 (x1 9 19))) (soU (unc R col) sl) := fun v hv => by
      obtain ⟨p1, p2⟩ := u3 v hv
      by_cases e : unc R col v
      · have v1 : v < 100 := Classical.byContradiction fun n => u1 v (by omega) e
        have m1 := cntP_mo (T := (unc R col)) (U := (unc R col)) v (fun _ _ z => z)
        have le := cntP_le (T := (unc R col)) v
        refine Or.inr ⟨by rw [p1 e]; omega, by rw [p1 e]; omega, ?_⟩
        rw [p1 e]
        unfold slf
        rw [if_pos (by omega), Int.toNat_natCast, soU_p e]
      · refine Or.inl ⟨by rw [p2 e]; decide, ?_⟩
        unfold slf
        by_cases z : 0 ≤ (v : Int) ∧ (v : Int) < 100
        · rw [if_pos z, Int.toNat_natCast, soU_0 e]
        · rw [if_neg z]
    have m19 : x1 9 19 ≠ q0 := fun e => by rw [e, hm] at k19; cases k19
    have q3 : rfX x1 x2 x3 q1 R := rfX_fr hT hc hcf hQ6 hq (fun a ha => u4 a (fun e => by rw [e, k19] at ha; omega) (fun e => by rw [e, hm] at ha; omega))
    have q8 : rfX x8 x6 x3 q1 R := by
      rw [h5, w2, w3]
      exact rfX_val q3
    have r := sp73_r (so := (soU (unc R col) sl)) (nm := nm) hm hc hcf hQ6 hO sR hI.2.1 qi3 (fun b i hb hi h17 => by
      unfold slf
      rw [if_neg (fun z => by have := hld b i hb hi h17; omega)]) h6 0 (by decide) (Nat.zero_le _) (rfX_A q8 (mid_bg hI.2.1)) (by
      show (fI (x3 q0) 14).toInt = (nm : Int)
      rw [u5]; exact hnm)
    exact absurd r.1 (by decide)
  · intro x1 x2 x3 x4 x5 x6 h1 h2 h3
    have eg := h1
    have ee := h2
    subst eg
    subst ee
    obtain ⟨w1, w2, w3, w4, w5⟩ := sp2_r (R := R) (col := col) (sl := sl) hT hm hS hC hcb h3 0 (by decide) (Nat.zero_le _) hsl (fun v hv => absurd hv (Nat.not_lt_zero v)) (fun v hv => absurd hv (Nat.not_lt_zero v)) (fun _ _ _ => rfl) rfl
    exact Or.inl ⟨by decide, w4 rfl⟩
end GXR
