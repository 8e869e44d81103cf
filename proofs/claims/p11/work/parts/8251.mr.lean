section MRR
variable {D : va_G} {I : FieldType → ClassId} {P : List Nat} {F : Nat → va_E} {γ el : Nat → Nat → Nat} {f b j : Nat} {Q : gPg}
theorem rr20_tl {a2 : Int32} {a1 : Int32} {q0 : Nat} {c1 : Nat} {s1 : Nat → va_E} {s2 : Int32} {k : Nat} {e1 : Nat → va_E} (hc : γ 0 q0 = 9) (hcf : γ 1 q0 = f) (hQ6 : γ 6 f = Q.1) (hB2 : ∀ i, i < Q.1 → γ 0 (el (γ 14 q0) i) = 2) (hO : qOk Q) (hw : 0 ≤ a1.toInt) (hv : 0 ≤ a2.toInt) (hb : b < Q.1) (hc1 : c1 = el (γ 14 q0) b) (h : tl_RModel_rename_20 D I γ el P F a2 a1 q0 c1 s1 s2 k e1) : ∀ j : Nat, s2.toInt = (j : Int) → j ≤ Q.2.1 b → rfX γ el s1 q0 (pgRm Q a1.toInt a2.toInt b j) → rfX γ el e1 q0 (pgRm Q a1.toInt a2.toInt b (Q.2.1 b)) := by
  refine h (fun s1 s2 _ e1 => ∀ j : Nat, s2.toInt = (j : Int) → j ≤ Q.2.1 b → rfX γ el s1 q0 (pgRm Q a1.toInt a2.toInt b j) → rfX γ el e1 q0 (pgRm Q a1.toInt a2.toInt b (Q.2.1 b))) ?_ ?_ ?_ ?_ ?_ ?_ ?_ ?_ ?_ ?_ ?_ ?_ ?_ ?_ ?_ ?_ ?_ ?_ ?_ ?_ ?_ ?_ ?_ ?_ ?_ ?_ ?_ ?_ ?_ ?_ ?_ ?_ ?_ ?_ ?_ ?_ ?_ ?_ ?_ ?_ ?_ ?_ ?_ ?_ ?_ ?_ ?_ ?_ ?_ ?_ ?_ ?_ ?_ ?_ ?_
  · intro F_2 l5_2 x1 x2 h1 h2 h3 h4 h5 h6 h7 h8 h9 h10
    intro j hj hj2 hx
    have hB := hB2 b hb
    rw [← hc1] at hB
    obtain ⟨ll, nn, pp, ss, v1, ⟨g1, g2, g3⟩, v3, v4, v5, -⟩ := show rk_2 γ c1 (F_2 c1) from RS_o h2 hB
    have ex1 : x1 = rwL γ el q0 b := by
      rw [← h7, v1]
      show ll = γ 14 (el (γ 14 q0) b)
      rw [← hc1, g1]
    have m : γ 2 (rwL γ el q0 b) + 1 = Q.2.1 b := (hx.2.1 b hb).1
    rw [ex1] at h8
    rw [show Q.2.1 b = j by omega]
    exact hx
  · intro F_2 l5_2 x1 x2 x3 x4 x5 x6 x7 x8 x9 x10 k e1 h1 h2 h3 h4 h5 h6 h7 h8 h9 h10 h11 h12 h13 h14 h15 h16 h17 h18 h19 h20 h21 h22 h23 h24 h25 h26 ih
    intro j hj hj2 hx
    have hB := hB2 b hb
    rw [← hc1] at hB
    obtain ⟨ll, nn, pp, ss, v1, ⟨g1, g2, g3⟩, v3, v4, v5, -⟩ := show rk_2 γ c1 (F_2 c1) from RS_o h2 hB
    have ex1 : x1 = rwL γ el q0 b := by
      rw [← h7, v1]
      show ll = γ 14 (el (γ 14 q0) b)
      rw [← hc1, g1]
    have m : γ 2 (rwL γ el q0 b) + 1 = Q.2.1 b := (hx.2.1 b hb).1
    rw [ex1] at h8
    have e3 : x3 = rAt γ el q0 b j := by
      rw [← h13, v1]
      show nn = _
      rw [show rAt γ el q0 b j = γ 15 (el (γ 14 q0) b) from if_neg (show ¬ j < γ 2 (rwL γ el q0 b) by omega), ← hc1, g2]
    have hj3 : j < Q.2.1 b := by omega
    have k3 := (rAt_k (j := j) h2 hc hcf (show b < γ 6 f by omega)).1
    rw [← e3] at k3
    have s3 : rwS (F_2 x3) := rwS_1 (RS_o h2 k3)
    have hl := hx.2.2 b hb j (show j ≤ γ 2 (rwL γ el q0 b) by omega)
    rw [← e3] at hl
    unfold lnQ at hl
    rw [pgRm_l] at hl
    have uA := uA_tr h17
    have uB := uB_tr h21
    have uS := ss_tr h24
    have f0 : fI (F_2 x3) 0 = fI (F_2 x3) 0 := rfl
    have f1 : fI (F_2 x3) 1 = fI (F_2 x3) 1 := rfl
    have f2 : fI (F_2 x3) 2 = fI (F_2 x3) 2 := rfl
    have f3 : fI (F_2 x3) 3 = fI (F_2 x3) 3 := rfl
    have f4 : fI (F_2 x3) 4 = fI (F_2 x3) 4 := rfl
    have f5 : fI (F_2 x3) 5 = fI (F_2 x3) 5 := rfl
    have f6 : fI (F_2 x3) 6 = fI (F_2 x3) 6 := rfl
    have r14 : fI (F_2 x3) 0 = x4 := h14
    have r15 : fI (F_2 x3) 5 = x5 := h15
    have r19 : fI (F_2 x3) 6 = x7 := h19
    have nl := rn_ln hw hv (qk_l hO hb hj3) hl f0 f4 f5 f6 (by unfold chA; rw [r14, r15]; exact Or.inr ⟨by omega, f2⟩) (by unfold chB; rw [r14, r19]; exact Or.inr ⟨by omega, f3⟩) (by unfold chT; rw [r14]; exact Or.inr ⟨by omega, f1⟩)
    have pt := rfX_put (F1 := F_2) (Q := pgRm Q a1.toInt a2.toInt b j) (b := b) (j := j) (l := rnL a1.toInt a2.toInt (Q.2.2.1 b j)) h2 hc hcf hQ6 hx hB2 hb hj3 (by rw [← e3]; exact fun x hx2 => rfl) (by rw [pgRm_l]; rfl) (by rw [← e3]; exact nl)
    rw [pgRm_s] at pt
    exact ih (j + 1) (by omega) hj3 pt
  · intro F_2 l5_2 x1 x2 x3 x4 x5 x6 x7 x8 x9 x10 x11 k e1 h1 h2 h3 h4 h5 h6 h7 h8 h9 h10 h11 h12 h13 h14 h15 h16 h17 h18 h19 h20 h21 h22 h23 h24 h25 h26 h27 h28 ih
    intro j hj hj2 hx
    have hB := hB2 b hb
    rw [← hc1] at hB
    obtain ⟨ll, nn, pp, ss, v1, ⟨g1, g2, g3⟩, v3, v4, v5, -⟩ := show rk_2 γ c1 (F_2 c1) from RS_o h2 hB
    have ex1 : x1 = rwL γ el q0 b := by
      rw [← h7, v1]
      show ll = γ 14 (el (γ 14 q0) b)
      rw [← hc1, g1]
    have m : γ 2 (rwL γ el q0 b) + 1 = Q.2.1 b := (hx.2.1 b hb).1
    rw [ex1] at h8
    have e3 : x3 = rAt γ el q0 b j := by
      rw [← h13, v1]
      show nn = _
      rw [show rAt γ el q0 b j = γ 15 (el (γ 14 q0) b) from if_neg (show ¬ j < γ 2 (rwL γ el q0 b) by omega), ← hc1, g2]
    have hj3 : j < Q.2.1 b := by omega
    have k3 := (rAt_k (j := j) h2 hc hcf (show b < γ 6 f by omega)).1
    rw [← e3] at k3
    have s3 : rwS (F_2 x3) := rwS_1 (RS_o h2 k3)
    have hl := hx.2.2 b hb j (show j ≤ γ 2 (rwL γ el q0 b) by omega)
    rw [← e3] at hl
    unfold lnQ at hl
    rw [pgRm_l] at hl
    have uA := uA_tr h17
    have uB := uB_tr h21
    have uS := ss_tr h24
    have f0 : fI (F_2 x3) 0 = fI (F_2 x3) 0 := rfl
    have f1 : fI (F_2 x3) 1 = fI (F_2 x3) 1 := rfl
    have f2 : fI (F_2 x3) 2 = fI (F_2 x3) 2 := rfl
    have f3 : fI (F_2 x3) 3 = fI (F_2 x3) 3 := rfl
    have f4 : fI (F_2 x3) 4 = fI (F_2 x3) 4 := rfl
    have f5 : fI (F_2 x3) 5 = fI (F_2 x3) 5 := rfl
    have f6 : fI (F_2 x3) 6 = fI (F_2 x3) 6 := rfl
    have r14 : fI (F_2 x3) 0 = x4 := h14
    have r15 : fI (F_2 x3) 5 = x5 := h15
    have r19 : fI (F_2 x3) 6 = x7 := h19
    have r26 : fI (F_2 x3) 1 = x10 := h26
    have nl := rn_ln hw hv (qk_l hO hb hj3) hl f0 f4 f5 f6 (by unfold chA; rw [r14, r15]; exact Or.inr ⟨by omega, f2⟩) (by unfold chB; rw [r14, r19]; exact Or.inr ⟨by omega, f3⟩) (by unfold chT; rw [r14, r26]; first | exact Or.inr ⟨by omega, f1.trans r26⟩ | exact Or.inr ⟨by omega, rfl⟩)
    have pt := rfX_put (F1 := F_2) (Q := pgRm Q a1.toInt a2.toInt b j) (b := b) (j := j) (l := rnL a1.toInt a2.toInt (Q.2.2.1 b j)) h2 hc hcf hQ6 hx hB2 hb hj3 (by rw [← e3]; exact fun x hx2 => rfl) (by rw [pgRm_l]; rfl) (by rw [← e3]; exact nl)
    rw [pgRm_s] at pt
    exact ih (j + 1) (by omega) hj3 pt
  · intro F_2 l5_2 x1 x2 x3 x4 x5 x6 x7 x8 x9 x10 x11 x12 k e1 h1 h2 h3 h4 h5 h6 h7 h8 h9 h10 h11 h12 h13 h14 h15 h16 h17 h18 h19 h20 h21 h22 h23 h24 h25 h26 h27 h28 h29 h30 ih
    intro j hj hj2 hx
    have hB := hB2 b hb
    rw [← hc1] at hB
    obtain ⟨ll, nn, pp, ss, v1, ⟨g1, g2, g3⟩, v3, v4, v5, -⟩ := show rk_2 γ c1 (F_2 c1) from RS_o h2 hB
    have ex1 : x1 = rwL γ el q0 b := by
      rw [← h7, v1]
      show ll = γ 14 (el (γ 14 q0) b)
      rw [← hc1, g1]
    have m : γ 2 (rwL γ el q0 b) + 1 = Q.2.1 b := (hx.2.1 b hb).1
    rw [ex1] at h8
    have e3 : x3 = rAt γ el q0 b j := by
      rw [← h13, v1]
      show nn = _
      rw [show rAt γ el q0 b j = γ 15 (el (γ 14 q0) b) from if_neg (show ¬ j < γ 2 (rwL γ el q0 b) by omega), ← hc1, g2]
    have hj3 : j < Q.2.1 b := by omega
    have k3 := (rAt_k (j := j) h2 hc hcf (show b < γ 6 f by omega)).1
    rw [← e3] at k3
    have s3 : rwS (F_2 x3) := rwS_1 (RS_o h2 k3)
    have hl := hx.2.2 b hb j (show j ≤ γ 2 (rwL γ el q0 b) by omega)
    rw [← e3] at hl
    unfold lnQ at hl
    rw [pgRm_l] at hl
    have uA := uA_tr h17
    have uB := uB_tr h21
    have uS := ss_tr h24
    obtain ⟨z1, z10, z11, z12, z13, z14, z15, z16⟩ := cw_1 s3 h29
    have f0 : fI (x11 x3) 0 = fI (F_2 x3) 0 := by rw [z10]
    have f1 : fI (x11 x3) 1 = a2 := by rw [z11]
    have f2 : fI (x11 x3) 2 = fI (F_2 x3) 2 := by rw [z12]
    have f3 : fI (x11 x3) 3 = fI (F_2 x3) 3 := by rw [z13]
    have f4 : fI (x11 x3) 4 = fI (F_2 x3) 4 := by rw [z14]
    have f5 : fI (x11 x3) 5 = fI (F_2 x3) 5 := by rw [z15]
    have f6 : fI (x11 x3) 6 = fI (F_2 x3) 6 := by rw [z16]
    have r14 : fI (F_2 x3) 0 = x4 := h14
    have r15 : fI (F_2 x3) 5 = x5 := h15
    have r19 : fI (F_2 x3) 6 = x7 := h19
    have r26 : fI (F_2 x3) 1 = x10 := h26
    have nl := rn_ln hw hv (qk_l hO hb hj3) hl f0 f4 f5 f6 (by unfold chA; rw [r14, r15]; exact Or.inr ⟨by omega, f2⟩) (by unfold chB; rw [r14, r19]; exact Or.inr ⟨by omega, f3⟩) (by unfold chT; rw [r14, r26]; exact Or.inl ⟨by omega, by rw [f1]⟩)
    have pt := rfX_put (F1 := x11) (Q := pgRm Q a1.toInt a2.toInt b j) (b := b) (j := j) (l := rnL a1.toInt a2.toInt (Q.2.2.1 b j)) h2 hc hcf hQ6 hx hB2 hb hj3 (by rw [← e3]; exact fun x hx2 => by rw [h28 x hx2]) (by rw [pgRm_l]; rfl) (by rw [← e3]; exact nl)
    rw [pgRm_s] at pt
    exact ih (j + 1) (by omega) hj3 pt
  · intro F_2 l5_2 x1 x2 x3 x4 x5 x6 x7 x8 x9 x10 x11 k e1 h1 h2 h3 h4 h5 h6 h7 h8 h9 h10 h11 h12 h13 h14 h15 h16 h17 h18 h19 h20 h21 h22 h23 h24 h25 h26 h27 h28 ih
    intro j hj hj2 hx
    have hB := hB2 b hb
    rw [← hc1] at hB
    obtain ⟨ll, nn, pp, ss, v1, ⟨g1, g2, g3⟩, v3, v4, v5, -⟩ := show rk_2 γ c1 (F_2 c1) from RS_o h2 hB
    have ex1 : x1 = rwL γ el q0 b := by
      rw [← h7, v1]
      show ll = γ 14 (el (γ 14 q0) b)
      rw [← hc1, g1]
    have m : γ 2 (rwL γ el q0 b) + 1 = Q.2.1 b := (hx.2.1 b hb).1
    rw [ex1] at h8
    have e3 : x3 = rAt γ el q0 b j := by
      rw [← h13, v1]
      show nn = _
      rw [show rAt γ el q0 b j = γ 15 (el (γ 14 q0) b) from if_neg (show ¬ j < γ 2 (rwL γ el q0 b) by omega), ← hc1, g2]
    have hj3 : j < Q.2.1 b := by omega
    have k3 := (rAt_k (j := j) h2 hc hcf (show b < γ 6 f by omega)).1
    rw [← e3] at k3
    have s3 : rwS (F_2 x3) := rwS_1 (RS_o h2 k3)
    have hl := hx.2.2 b hb j (show j ≤ γ 2 (rwL γ el q0 b) by omega)
    rw [← e3] at hl
    unfold lnQ at hl
    rw [pgRm_l] at hl
    have uA := uA_tr h17
    have uB := uB_tr h21
    have uS := ss_tr h26
    have f0 : fI (F_2 x3) 0 = fI (F_2 x3) 0 := rfl
    have f1 : fI (F_2 x3) 1 = fI (F_2 x3) 1 := rfl
    have f2 : fI (F_2 x3) 2 = fI (F_2 x3) 2 := rfl
    have f3 : fI (F_2 x3) 3 = fI (F_2 x3) 3 := rfl
    have f4 : fI (F_2 x3) 4 = fI (F_2 x3) 4 := rfl
    have f5 : fI (F_2 x3) 5 = fI (F_2 x3) 5 := rfl
    have f6 : fI (F_2 x3) 6 = fI (F_2 x3) 6 := rfl
    have r14 : fI (F_2 x3) 0 = x4 := h14
    have r15 : fI (F_2 x3) 5 = x5 := h15
    have r19 : fI (F_2 x3) 6 = x7 := h19
    have r23 : fI (F_2 x3) 3 = x9 := h23
    have nl := rn_ln hw hv (qk_l hO hb hj3) hl f0 f4 f5 f6 (by unfold chA; rw [r14, r15]; exact Or.inr ⟨by omega, f2⟩) (by unfold chB; rw [r14, r19, r23]; first | exact Or.inr ⟨by omega, f3.trans r23⟩ | exact Or.inr ⟨by omega, rfl⟩) (by unfold chT; rw [r14]; exact Or.inr ⟨by omega, f1⟩)
    have pt := rfX_put (F1 := F_2) (Q := pgRm Q a1.toInt a2.toInt b j) (b := b) (j := j) (l := rnL a1.toInt a2.toInt (Q.2.2.1 b j)) h2 hc hcf hQ6 hx hB2 hb hj3 (by rw [← e3]; exact fun x hx2 => rfl) (by rw [pgRm_l]; rfl) (by rw [← e3]; exact nl)
    rw [pgRm_s] at pt
    exact ih (j + 1) (by omega) hj3 pt
  · intro F_2 l5_2 x1 x2 x3 x4 x5 x6 x7 x8 x9 x10 x11 x12 k e1 h1 h2 h3 h4 h5 h6 h7 h8 h9 h10 h11 h12 h13 h14 h15 h16 h17 h18 h19 h20 h21 h22 h23 h24 h25 h26 h27 h28 h29 h30 ih
    intro j hj hj2 hx
    have hB := hB2 b hb
    rw [← hc1] at hB
    obtain ⟨ll, nn, pp, ss, v1, ⟨g1, g2, g3⟩, v3, v4, v5, -⟩ := show rk_2 γ c1 (F_2 c1) from RS_o h2 hB
    have ex1 : x1 = rwL γ el q0 b := by
      rw [← h7, v1]
      show ll = γ 14 (el (γ 14 q0) b)
      rw [← hc1, g1]
    have m : γ 2 (rwL γ el q0 b) + 1 = Q.2.1 b := (hx.2.1 b hb).1
    rw [ex1] at h8
    have e3 : x3 = rAt γ el q0 b j := by
      rw [← h13, v1]
      show nn = _
      rw [show rAt γ el q0 b j = γ 15 (el (γ 14 q0) b) from if_neg (show ¬ j < γ 2 (rwL γ el q0 b) by omega), ← hc1, g2]
    have hj3 : j < Q.2.1 b := by omega
    have k3 := (rAt_k (j := j) h2 hc hcf (show b < γ 6 f by omega)).1
    rw [← e3] at k3
    have s3 : rwS (F_2 x3) := rwS_1 (RS_o h2 k3)
    have hl := hx.2.2 b hb j (show j ≤ γ 2 (rwL γ el q0 b) by omega)
    rw [← e3] at hl
    unfold lnQ at hl
    rw [pgRm_l] at hl
    have uA := uA_tr h17
    have uB := uB_tr h21
    have uS := ss_tr h26
    have f0 : fI (F_2 x3) 0 = fI (F_2 x3) 0 := rfl
    have f1 : fI (F_2 x3) 1 = fI (F_2 x3) 1 := rfl
    have f2 : fI (F_2 x3) 2 = fI (F_2 x3) 2 := rfl
    have f3 : fI (F_2 x3) 3 = fI (F_2 x3) 3 := rfl
    have f4 : fI (F_2 x3) 4 = fI (F_2 x3) 4 := rfl
    have f5 : fI (F_2 x3) 5 = fI (F_2 x3) 5 := rfl
    have f6 : fI (F_2 x3) 6 = fI (F_2 x3) 6 := rfl
    have r14 : fI (F_2 x3) 0 = x4 := h14
    have r15 : fI (F_2 x3) 5 = x5 := h15
    have r19 : fI (F_2 x3) 6 = x7 := h19
    have r23 : fI (F_2 x3) 3 = x9 := h23
    have r28 : fI (F_2 x3) 1 = x11 := h28
    have nl := rn_ln hw hv (qk_l hO hb hj3) hl f0 f4 f5 f6 (by unfold chA; rw [r14, r15]; exact Or.inr ⟨by omega, f2⟩) (by unfold chB; rw [r14, r19, r23]; first | exact Or.inr ⟨by omega, f3.trans r23⟩ | exact Or.inr ⟨by omega, rfl⟩) (by unfold chT; rw [r14, r28]; first | exact Or.inr ⟨by omega, f1.trans r28⟩ | exact Or.inr ⟨by omega, rfl⟩)
    have pt := rfX_put (F1 := F_2) (Q := pgRm Q a1.toInt a2.toInt b j) (b := b) (j := j) (l := rnL a1.toInt a2.toInt (Q.2.2.1 b j)) h2 hc hcf hQ6 hx hB2 hb hj3 (by rw [← e3]; exact fun x hx2 => rfl) (by rw [pgRm_l]; rfl) (by rw [← e3]; exact nl)
    rw [pgRm_s] at pt
    exact ih (j + 1) (by omega) hj3 pt
  · intro F_2 l5_2 x1 x2 x3 x4 x5 x6 x7 x8 x9 x10 x11 x12 x13 k e1 h1 h2 h3 h4 h5 h6 h7 h8 h9 h10 h11 h12 h13 h14 h15 h16 h17 h18 h19 h20 h21 h22 h23 h24 h25 h26 h27 h28 h29 h30 h31 h32 ih
    intro j hj hj2 hx
    have hB := hB2 b hb
    rw [← hc1] at hB
    obtain ⟨ll, nn, pp, ss, v1, ⟨g1, g2, g3⟩, v3, v4, v5, -⟩ := show rk_2 γ c1 (F_2 c1) from RS_o h2 hB
    have ex1 : x1 = rwL γ el q0 b := by
      rw [← h7, v1]
      show ll = γ 14 (el (γ 14 q0) b)
      rw [← hc1, g1]
    have m : γ 2 (rwL γ el q0 b) + 1 = Q.2.1 b := (hx.2.1 b hb).1
    rw [ex1] at h8
    have e3 : x3 = rAt γ el q0 b j := by
      rw [← h13, v1]
      show nn = _
      rw [show rAt γ el q0 b j = γ 15 (el (γ 14 q0) b) from if_neg (show ¬ j < γ 2 (rwL γ el q0 b) by omega), ← hc1, g2]
    have hj3 : j < Q.2.1 b := by omega
    have k3 := (rAt_k (j := j) h2 hc hcf (show b < γ 6 f by omega)).1
    rw [← e3] at k3
    have s3 : rwS (F_2 x3) := rwS_1 (RS_o h2 k3)
    have hl := hx.2.2 b hb j (show j ≤ γ 2 (rwL γ el q0 b) by omega)
    rw [← e3] at hl
    unfold lnQ at hl
    rw [pgRm_l] at hl
    have uA := uA_tr h17
    have uB := uB_tr h21
    have uS := ss_tr h26
    obtain ⟨z1, z10, z11, z12, z13, z14, z15, z16⟩ := cw_1 s3 h31
    have f0 : fI (x12 x3) 0 = fI (F_2 x3) 0 := by rw [z10]
    have f1 : fI (x12 x3) 1 = a2 := by rw [z11]
    have f2 : fI (x12 x3) 2 = fI (F_2 x3) 2 := by rw [z12]
    have f3 : fI (x12 x3) 3 = fI (F_2 x3) 3 := by rw [z13]
    have f4 : fI (x12 x3) 4 = fI (F_2 x3) 4 := by rw [z14]
    have f5 : fI (x12 x3) 5 = fI (F_2 x3) 5 := by rw [z15]
    have f6 : fI (x12 x3) 6 = fI (F_2 x3) 6 := by rw [z16]
    have r14 : fI (F_2 x3) 0 = x4 := h14
    have r15 : fI (F_2 x3) 5 = x5 := h15
    have r19 : fI (F_2 x3) 6 = x7 := h19
    have r23 : fI (F_2 x3) 3 = x9 := h23
    have r28 : fI (F_2 x3) 1 = x11 := h28
    have nl := rn_ln hw hv (qk_l hO hb hj3) hl f0 f4 f5 f6 (by unfold chA; rw [r14, r15]; exact Or.inr ⟨by omega, f2⟩) (by unfold chB; rw [r14, r19, r23]; first | exact Or.inr ⟨by omega, f3.trans r23⟩ | exact Or.inr ⟨by omega, rfl⟩) (by unfold chT; rw [r14, r28]; exact Or.inl ⟨by omega, by rw [f1]⟩)
    have pt := rfX_put (F1 := x12) (Q := pgRm Q a1.toInt a2.toInt b j) (b := b) (j := j) (l := rnL a1.toInt a2.toInt (Q.2.2.1 b j)) h2 hc hcf hQ6 hx hB2 hb hj3 (by rw [← e3]; exact fun x hx2 => by rw [h30 x hx2]) (by rw [pgRm_l]; rfl) (by rw [← e3]; exact nl)
    rw [pgRm_s] at pt
    exact ih (j + 1) (by omega) hj3 pt
  · intro F_2 l5_2 x1 x2 x3 x4 x5 x6 x7 x8 x9 x10 x11 x12 k e1 h1 h2 h3 h4 h5 h6 h7 h8 h9 h10 h11 h12 h13 h14 h15 h16 h17 h18 h19 h20 h21 h22 h23 h24 h25 h26 h27 h28 h29 h30 h31 ih
    intro j hj hj2 hx
    have hB := hB2 b hb
    rw [← hc1] at hB
    obtain ⟨ll, nn, pp, ss, v1, ⟨g1, g2, g3⟩, v3, v4, v5, -⟩ := show rk_2 γ c1 (F_2 c1) from RS_o h2 hB
    have ex1 : x1 = rwL γ el q0 b := by
      rw [← h7, v1]
      show ll = γ 14 (el (γ 14 q0) b)
      rw [← hc1, g1]
    have m : γ 2 (rwL γ el q0 b) + 1 = Q.2.1 b := (hx.2.1 b hb).1
    rw [ex1] at h8
    have e3 : x3 = rAt γ el q0 b j := by
      rw [← h13, v1]
      show nn = _
      rw [show rAt γ el q0 b j = γ 15 (el (γ 14 q0) b) from if_neg (show ¬ j < γ 2 (rwL γ el q0 b) by omega), ← hc1, g2]
    have hj3 : j < Q.2.1 b := by omega
    have k3 := (rAt_k (j := j) h2 hc hcf (show b < γ 6 f by omega)).1
    rw [← e3] at k3
    have s3 : rwS (F_2 x3) := rwS_1 (RS_o h2 k3)
    have hl := hx.2.2 b hb j (show j ≤ γ 2 (rwL γ el q0 b) by omega)
    rw [← e3] at hl
    unfold lnQ at hl
    rw [pgRm_l] at hl
    have uA := uA_tr h17
    have uB := uB_tr h21
    have uS := ss_tr h29
    obtain ⟨z1, z10, z11, z12, z13, z14, z15, z16⟩ := cw_3 s3 h26
    have f0 : fI (x10 x3) 0 = fI (F_2 x3) 0 := by rw [z10]
    have f1 : fI (x10 x3) 1 = fI (F_2 x3) 1 := by rw [z11]
    have f2 : fI (x10 x3) 2 = fI (F_2 x3) 2 := by rw [z12]
    have f3 : fI (x10 x3) 3 = a2 := by rw [z13]
    have f4 : fI (x10 x3) 4 = fI (F_2 x3) 4 := by rw [z14]
    have f5 : fI (x10 x3) 5 = fI (F_2 x3) 5 := by rw [z15]
    have f6 : fI (x10 x3) 6 = fI (F_2 x3) 6 := by rw [z16]
    have r14 : fI (F_2 x3) 0 = x4 := h14
    have r15 : fI (F_2 x3) 5 = x5 := h15
    have r19 : fI (F_2 x3) 6 = x7 := h19
    have r23 : fI (F_2 x3) 3 = x9 := h23
    have r27 : fI (F_2 x3) 0 = x4 := by rw [← h27, z10]
    have nl := rn_ln hw hv (qk_l hO hb hj3) hl f0 f4 f5 f6 (by unfold chA; rw [r14, r15]; exact Or.inr ⟨by omega, f2⟩) (by unfold chB; rw [r14, r19, r23]; exact Or.inl ⟨by omega, by rw [f3]⟩) (by unfold chT; rw [r14]; exact Or.inr ⟨by omega, f1⟩)
    have pt := rfX_put (F1 := x10) (Q := pgRm Q a1.toInt a2.toInt b j) (b := b) (j := j) (l := rnL a1.toInt a2.toInt (Q.2.2.1 b j)) h2 hc hcf hQ6 hx hB2 hb hj3 (by rw [← e3]; exact fun x hx2 => by rw [h25 x hx2]) (by rw [pgRm_l]; rfl) (by rw [← e3]; exact nl)
    rw [pgRm_s] at pt
    exact ih (j + 1) (by omega) hj3 pt
  · intro F_2 l5_2 x1 x2 x3 x4 x5 x6 x7 x8 x9 x10 x11 x12 x13 k e1 h1 h2 h3 h4 h5 h6 h7 h8 h9 h10 h11 h12 h13 h14 h15 h16 h17 h18 h19 h20 h21 h22 h23 h24 h25 h26 h27 h28 h29 h30 h31 h32 h33 ih
    intro j hj hj2 hx
    have hB := hB2 b hb
    rw [← hc1] at hB
    obtain ⟨ll, nn, pp, ss, v1, ⟨g1, g2, g3⟩, v3, v4, v5, -⟩ := show rk_2 γ c1 (F_2 c1) from RS_o h2 hB
    have ex1 : x1 = rwL γ el q0 b := by
      rw [← h7, v1]
      show ll = γ 14 (el (γ 14 q0) b)
      rw [← hc1, g1]
    have m : γ 2 (rwL γ el q0 b) + 1 = Q.2.1 b := (hx.2.1 b hb).1
    rw [ex1] at h8
    have e3 : x3 = rAt γ el q0 b j := by
      rw [← h13, v1]
      show nn = _
      rw [show rAt γ el q0 b j = γ 15 (el (γ 14 q0) b) from if_neg (show ¬ j < γ 2 (rwL γ el q0 b) by omega), ← hc1, g2]
    have hj3 : j < Q.2.1 b := by omega
    have k3 := (rAt_k (j := j) h2 hc hcf (show b < γ 6 f by omega)).1
    rw [← e3] at k3
    have s3 : rwS (F_2 x3) := rwS_1 (RS_o h2 k3)
    have hl := hx.2.2 b hb j (show j ≤ γ 2 (rwL γ el q0 b) by omega)
    rw [← e3] at hl
    unfold lnQ at hl
    rw [pgRm_l] at hl
    have uA := uA_tr h17
    have uB := uB_tr h21
    have uS := ss_tr h29
    obtain ⟨z1, z10, z11, z12, z13, z14, z15, z16⟩ := cw_3 s3 h26
    have f0 : fI (x10 x3) 0 = fI (F_2 x3) 0 := by rw [z10]
    have f1 : fI (x10 x3) 1 = fI (F_2 x3) 1 := by rw [z11]
    have f2 : fI (x10 x3) 2 = fI (F_2 x3) 2 := by rw [z12]
    have f3 : fI (x10 x3) 3 = a2 := by rw [z13]
    have f4 : fI (x10 x3) 4 = fI (F_2 x3) 4 := by rw [z14]
    have f5 : fI (x10 x3) 5 = fI (F_2 x3) 5 := by rw [z15]
    have f6 : fI (x10 x3) 6 = fI (F_2 x3) 6 := by rw [z16]
    have r14 : fI (F_2 x3) 0 = x4 := h14
    have r15 : fI (F_2 x3) 5 = x5 := h15
    have r19 : fI (F_2 x3) 6 = x7 := h19
    have r23 : fI (F_2 x3) 3 = x9 := h23
    have r27 : fI (F_2 x3) 0 = x4 := by rw [← h27, z10]
    have r31 : fI (F_2 x3) 1 = x12 := by rw [← h31, z11]
    have nl := rn_ln hw hv (qk_l hO hb hj3) hl f0 f4 f5 f6 (by unfold chA; rw [r14, r15]; exact Or.inr ⟨by omega, f2⟩) (by unfold chB; rw [r14, r19, r23]; exact Or.inl ⟨by omega, by rw [f3]⟩) (by unfold chT; rw [r14, r31]; first | exact Or.inr ⟨by omega, f1.trans r31⟩ | exact Or.inr ⟨by omega, rfl⟩)
    have pt := rfX_put (F1 := x10) (Q := pgRm Q a1.toInt a2.toInt b j) (b := b) (j := j) (l := rnL a1.toInt a2.toInt (Q.2.2.1 b j)) h2 hc hcf hQ6 hx hB2 hb hj3 (by rw [← e3]; exact fun x hx2 => by rw [h25 x hx2]) (by rw [pgRm_l]; rfl) (by rw [← e3]; exact nl)
    rw [pgRm_s] at pt
    exact ih (j + 1) (by omega) hj3 pt
  · intro F_2 l5_2 x1 x2 x3 x4 x5 x6 x7 x8 x9 x10 x11 x12 x13 x14 k e1 h1 h2 h3 h4 h5 h6 h7 h8 h9 h10 h11 h12 h13 h14 h15 h16 h17 h18 h19 h20 h21 h22 h23 h24 h25 h26 h27 h28 h29 h30 h31 h32 h33 h34 h35 ih
    intro j hj hj2 hx
    have hB := hB2 b hb
    rw [← hc1] at hB
    obtain ⟨ll, nn, pp, ss, v1, ⟨g1, g2, g3⟩, v3, v4, v5, -⟩ := show rk_2 γ c1 (F_2 c1) from RS_o h2 hB
    have ex1 : x1 = rwL γ el q0 b := by
      rw [← h7, v1]
      show ll = γ 14 (el (γ 14 q0) b)
      rw [← hc1, g1]
    have m : γ 2 (rwL γ el q0 b) + 1 = Q.2.1 b := (hx.2.1 b hb).1
    rw [ex1] at h8
    have e3 : x3 = rAt γ el q0 b j := by
      rw [← h13, v1]
      show nn = _
      rw [show rAt γ el q0 b j = γ 15 (el (γ 14 q0) b) from if_neg (show ¬ j < γ 2 (rwL γ el q0 b) by omega), ← hc1, g2]
    have hj3 : j < Q.2.1 b := by omega
    have k3 := (rAt_k (j := j) h2 hc hcf (show b < γ 6 f by omega)).1
    rw [← e3] at k3
    have s3 : rwS (F_2 x3) := rwS_1 (RS_o h2 k3)
    have hl := hx.2.2 b hb j (show j ≤ γ 2 (rwL γ el q0 b) by omega)
    rw [← e3] at hl
    unfold lnQ at hl
    rw [pgRm_l] at hl
    have uA := uA_tr h17
    have uB := uB_tr h21
    have uS := ss_tr h29
    obtain ⟨z1, z10, z11, z12, z13, z14, z15, z16⟩ := cw_3 s3 h26
    obtain ⟨z2, z20, z21, z22, z23, z24, z25, z26⟩ := cw_1 z1 h34
    have f0 : fI (x13 x3) 0 = fI (F_2 x3) 0 := by rw [z20, z10]
    have f1 : fI (x13 x3) 1 = a2 := by rw [z21]
    have f2 : fI (x13 x3) 2 = fI (F_2 x3) 2 := by rw [z22, z12]
    have f3 : fI (x13 x3) 3 = a2 := by rw [z23, z13]
    have f4 : fI (x13 x3) 4 = fI (F_2 x3) 4 := by rw [z24, z14]
    have f5 : fI (x13 x3) 5 = fI (F_2 x3) 5 := by rw [z25, z15]
    have f6 : fI (x13 x3) 6 = fI (F_2 x3) 6 := by rw [z26, z16]
    have r14 : fI (F_2 x3) 0 = x4 := h14
    have r15 : fI (F_2 x3) 5 = x5 := h15
    have r19 : fI (F_2 x3) 6 = x7 := h19
    have r23 : fI (F_2 x3) 3 = x9 := h23
    have r27 : fI (F_2 x3) 0 = x4 := by rw [← h27, z10]
    have r31 : fI (F_2 x3) 1 = x12 := by rw [← h31, z11]
    have nl := rn_ln hw hv (qk_l hO hb hj3) hl f0 f4 f5 f6 (by unfold chA; rw [r14, r15]; exact Or.inr ⟨by omega, f2⟩) (by unfold chB; rw [r14, r19, r23]; exact Or.inl ⟨by omega, by rw [f3]⟩) (by unfold chT; rw [r14, r31]; exact Or.inl ⟨by omega, by rw [f1]⟩)
    have pt := rfX_put (F1 := x13) (Q := pgRm Q a1.toInt a2.toInt b j) (b := b) (j := j) (l := rnL a1.toInt a2.toInt (Q.2.2.1 b j)) h2 hc hcf hQ6 hx hB2 hb hj3 (by rw [← e3]; exact fun x hx2 => by rw [h33 x hx2, h25 x hx2]) (by rw [pgRm_l]; rfl) (by rw [← e3]; exact nl)
    rw [pgRm_s] at pt
    exact ih (j + 1) (by omega) hj3 pt
  · intro F_2 l5_2 x1 x2 x3 x4 x5 x6 x7 x8 x9 x10 x11 k e1 h1 h2 h3 h4 h5 h6 h7 h8 h9 h10 h11 h12 h13 h14 h15 h16 h17 h18 h19 h20 h21 h22 h23 h24 h25 h26 h27 h28 ih
    intro j hj hj2 hx
    have hB := hB2 b hb
    rw [← hc1] at hB
    obtain ⟨ll, nn, pp, ss, v1, ⟨g1, g2, g3⟩, v3, v4, v5, -⟩ := show rk_2 γ c1 (F_2 c1) from RS_o h2 hB
    have ex1 : x1 = rwL γ el q0 b := by
      rw [← h7, v1]
      show ll = γ 14 (el (γ 14 q0) b)
      rw [← hc1, g1]
    have m : γ 2 (rwL γ el q0 b) + 1 = Q.2.1 b := (hx.2.1 b hb).1
    rw [ex1] at h8
    have e3 : x3 = rAt γ el q0 b j := by
      rw [← h13, v1]
      show nn = _
      rw [show rAt γ el q0 b j = γ 15 (el (γ 14 q0) b) from if_neg (show ¬ j < γ 2 (rwL γ el q0 b) by omega), ← hc1, g2]
    have hj3 : j < Q.2.1 b := by omega
    have k3 := (rAt_k (j := j) h2 hc hcf (show b < γ 6 f by omega)).1
    rw [← e3] at k3
    have s3 : rwS (F_2 x3) := rwS_1 (RS_o h2 k3)
    have hl := hx.2.2 b hb j (show j ≤ γ 2 (rwL γ el q0 b) by omega)
    rw [← e3] at hl
    unfold lnQ at hl
    rw [pgRm_l] at hl
    have uA := uA_tr h17
    have uB := uB_tr h23
    have uS := ss_tr h26
    have f0 : fI (F_2 x3) 0 = fI (F_2 x3) 0 := rfl
    have f1 : fI (F_2 x3) 1 = fI (F_2 x3) 1 := rfl
    have f2 : fI (F_2 x3) 2 = fI (F_2 x3) 2 := rfl
    have f3 : fI (F_2 x3) 3 = fI (F_2 x3) 3 := rfl
    have f4 : fI (F_2 x3) 4 = fI (F_2 x3) 4 := rfl
    have f5 : fI (F_2 x3) 5 = fI (F_2 x3) 5 := rfl
    have f6 : fI (F_2 x3) 6 = fI (F_2 x3) 6 := rfl
    have r14 : fI (F_2 x3) 0 = x4 := h14
    have r15 : fI (F_2 x3) 5 = x5 := h15
    have r19 : fI (F_2 x3) 2 = x7 := h19
    have r21 : fI (F_2 x3) 6 = x8 := h21
    have nl := rn_ln hw hv (qk_l hO hb hj3) hl f0 f4 f5 f6 (by unfold chA; rw [r14, r15, r19]; first | exact Or.inr ⟨by omega, f2.trans r19⟩ | exact Or.inr ⟨by omega, rfl⟩) (by unfold chB; rw [r14, r21]; exact Or.inr ⟨by omega, f3⟩) (by unfold chT; rw [r14]; exact Or.inr ⟨by omega, f1⟩)
    have pt := rfX_put (F1 := F_2) (Q := pgRm Q a1.toInt a2.toInt b j) (b := b) (j := j) (l := rnL a1.toInt a2.toInt (Q.2.2.1 b j)) h2 hc hcf hQ6 hx hB2 hb hj3 (by rw [← e3]; exact fun x hx2 => rfl) (by rw [pgRm_l]; rfl) (by rw [← e3]; exact nl)
    rw [pgRm_s] at pt
    exact ih (j + 1) (by omega) hj3 pt
  · intro F_2 l5_2 x1 x2 x3 x4 x5 x6 x7 x8 x9 x10 x11 x12 k e1 h1 h2 h3 h4 h5 h6 h7 h8 h9 h10 h11 h12 h13 h14 h15 h16 h17 h18 h19 h20 h21 h22 h23 h24 h25 h26 h27 h28 h29 h30 ih
    intro j hj hj2 hx
    have hB := hB2 b hb
    rw [← hc1] at hB
    obtain ⟨ll, nn, pp, ss, v1, ⟨g1, g2, g3⟩, v3, v4, v5, -⟩ := show rk_2 γ c1 (F_2 c1) from RS_o h2 hB
    have ex1 : x1 = rwL γ el q0 b := by
      rw [← h7, v1]
      show ll = γ 14 (el (γ 14 q0) b)
      rw [← hc1, g1]
    have m : γ 2 (rwL γ el q0 b) + 1 = Q.2.1 b := (hx.2.1 b hb).1
    rw [ex1] at h8
    have e3 : x3 = rAt γ el q0 b j := by
      rw [← h13, v1]
      show nn = _
      rw [show rAt γ el q0 b j = γ 15 (el (γ 14 q0) b) from if_neg (show ¬ j < γ 2 (rwL γ el q0 b) by omega), ← hc1, g2]
    have hj3 : j < Q.2.1 b := by omega
    have k3 := (rAt_k (j := j) h2 hc hcf (show b < γ 6 f by omega)).1
    rw [← e3] at k3
    have s3 : rwS (F_2 x3) := rwS_1 (RS_o h2 k3)
    have hl := hx.2.2 b hb j (show j ≤ γ 2 (rwL γ el q0 b) by omega)
    rw [← e3] at hl
    unfold lnQ at hl
    rw [pgRm_l] at hl
    have uA := uA_tr h17
    have uB := uB_tr h23
    have uS := ss_tr h26
    have f0 : fI (F_2 x3) 0 = fI (F_2 x3) 0 := rfl
    have f1 : fI (F_2 x3) 1 = fI (F_2 x3) 1 := rfl
    have f2 : fI (F_2 x3) 2 = fI (F_2 x3) 2 := rfl
    have f3 : fI (F_2 x3) 3 = fI (F_2 x3) 3 := rfl
    have f4 : fI (F_2 x3) 4 = fI (F_2 x3) 4 := rfl
    have f5 : fI (F_2 x3) 5 = fI (F_2 x3) 5 := rfl
    have f6 : fI (F_2 x3) 6 = fI (F_2 x3) 6 := rfl
    have r14 : fI (F_2 x3) 0 = x4 := h14
    have r15 : fI (F_2 x3) 5 = x5 := h15
    have r19 : fI (F_2 x3) 2 = x7 := h19
    have r21 : fI (F_2 x3) 6 = x8 := h21
    have r28 : fI (F_2 x3) 1 = x11 := h28
    have nl := rn_ln hw hv (qk_l hO hb hj3) hl f0 f4 f5 f6 (by unfold chA; rw [r14, r15, r19]; first | exact Or.inr ⟨by omega, f2.trans r19⟩ | exact Or.inr ⟨by omega, rfl⟩) (by unfold chB; rw [r14, r21]; exact Or.inr ⟨by omega, f3⟩) (by unfold chT; rw [r14, r28]; first | exact Or.inr ⟨by omega, f1.trans r28⟩ | exact Or.inr ⟨by omega, rfl⟩)
    have pt := rfX_put (F1 := F_2) (Q := pgRm Q a1.toInt a2.toInt b j) (b := b) (j := j) (l := rnL a1.toInt a2.toInt (Q.2.2.1 b j)) h2 hc hcf hQ6 hx hB2 hb hj3 (by rw [← e3]; exact fun x hx2 => rfl) (by rw [pgRm_l]; rfl) (by rw [← e3]; exact nl)
    rw [pgRm_s] at pt
    exact ih (j + 1) (by omega) hj3 pt
  · intro F_2 l5_2 x1 x2 x3 x4 x5 x6 x7 x8 x9 x10 x11 x12 x13 k e1 h1 h2 h3 h4 h5 h6 h7 h8 h9 h10 h11 h12 h13 h14 h15 h16 h17 h18 h19 h20 h21 h22 h23 h24 h25 h26 h27 h28 h29 h30 h31 h32 ih
    intro j hj hj2 hx
    have hB := hB2 b hb
    rw [← hc1] at hB
    obtain ⟨ll, nn, pp, ss, v1, ⟨g1, g2, g3⟩, v3, v4, v5, -⟩ := show rk_2 γ c1 (F_2 c1) from RS_o h2 hB
    have ex1 : x1 = rwL γ el q0 b := by
      rw [← h7, v1]
      show ll = γ 14 (el (γ 14 q0) b)
      rw [← hc1, g1]
    have m : γ 2 (rwL γ el q0 b) + 1 = Q.2.1 b := (hx.2.1 b hb).1
    rw [ex1] at h8
    have e3 : x3 = rAt γ el q0 b j := by
      rw [← h13, v1]
      show nn = _
      rw [show rAt γ el q0 b j = γ 15 (el (γ 14 q0) b) from if_neg (show ¬ j < γ 2 (rwL γ el q0 b) by omega), ← hc1, g2]
    have hj3 : j < Q.2.1 b := by omega
    have k3 := (rAt_k (j := j) h2 hc hcf (show b < γ 6 f by omega)).1
    rw [← e3] at k3
    have s3 : rwS (F_2 x3) := rwS_1 (RS_o h2 k3)
    have hl := hx.2.2 b hb j (show j ≤ γ 2 (rwL γ el q0 b) by omega)
    rw [← e3] at hl
    unfold lnQ at hl
    rw [pgRm_l] at hl
    have uA := uA_tr h17
    have uB := uB_tr h23
    have uS := ss_tr h26
    obtain ⟨z1, z10, z11, z12, z13, z14, z15, z16⟩ := cw_1 s3 h31
    have f0 : fI (x12 x3) 0 = fI (F_2 x3) 0 := by rw [z10]
    have f1 : fI (x12 x3) 1 = a2 := by rw [z11]
    have f2 : fI (x12 x3) 2 = fI (F_2 x3) 2 := by rw [z12]
    have f3 : fI (x12 x3) 3 = fI (F_2 x3) 3 := by rw [z13]
    have f4 : fI (x12 x3) 4 = fI (F_2 x3) 4 := by rw [z14]
    have f5 : fI (x12 x3) 5 = fI (F_2 x3) 5 := by rw [z15]
    have f6 : fI (x12 x3) 6 = fI (F_2 x3) 6 := by rw [z16]
    have r14 : fI (F_2 x3) 0 = x4 := h14
    have r15 : fI (F_2 x3) 5 = x5 := h15
    have r19 : fI (F_2 x3) 2 = x7 := h19
    have r21 : fI (F_2 x3) 6 = x8 := h21
    have r28 : fI (F_2 x3) 1 = x11 := h28
    have nl := rn_ln hw hv (qk_l hO hb hj3) hl f0 f4 f5 f6 (by unfold chA; rw [r14, r15, r19]; first | exact Or.inr ⟨by omega, f2.trans r19⟩ | exact Or.inr ⟨by omega, rfl⟩) (by unfold chB; rw [r14, r21]; exact Or.inr ⟨by omega, f3⟩) (by unfold chT; rw [r14, r28]; exact Or.inl ⟨by omega, by rw [f1]⟩)
    have pt := rfX_put (F1 := x12) (Q := pgRm Q a1.toInt a2.toInt b j) (b := b) (j := j) (l := rnL a1.toInt a2.toInt (Q.2.2.1 b j)) h2 hc hcf hQ6 hx hB2 hb hj3 (by rw [← e3]; exact fun x hx2 => by rw [h30 x hx2]) (by rw [pgRm_l]; rfl) (by rw [← e3]; exact nl)
    rw [pgRm_s] at pt
    exact ih (j + 1) (by omega) hj3 pt
  · intro F_2 l5_2 x1 x2 x3 x4 x5 x6 x7 x8 x9 x10 x11 x12 k e1 h1 h2 h3 h4 h5 h6 h7 h8 h9 h10 h11 h12 h13 h14 h15 h16 h17 h18 h19 h20 h21 h22 h23 h24 h25 h26 h27 h28 h29 h30 ih
    intro j hj hj2 hx
    have hB := hB2 b hb
    rw [← hc1] at hB
    obtain ⟨ll, nn, pp, ss, v1, ⟨g1, g2, g3⟩, v3, v4, v5, -⟩ := show rk_2 γ c1 (F_2 c1) from RS_o h2 hB
    have ex1 : x1 = rwL γ el q0 b := by
      rw [← h7, v1]
      show ll = γ 14 (el (γ 14 q0) b)
      rw [← hc1, g1]
    have m : γ 2 (rwL γ el q0 b) + 1 = Q.2.1 b := (hx.2.1 b hb).1
    rw [ex1] at h8
    have e3 : x3 = rAt γ el q0 b j := by
      rw [← h13, v1]
      show nn = _
      rw [show rAt γ el q0 b j = γ 15 (el (γ 14 q0) b) from if_neg (show ¬ j < γ 2 (rwL γ el q0 b) by omega), ← hc1, g2]
    have hj3 : j < Q.2.1 b := by omega
    have k3 := (rAt_k (j := j) h2 hc hcf (show b < γ 6 f by omega)).1
    rw [← e3] at k3
    have s3 : rwS (F_2 x3) := rwS_1 (RS_o h2 k3)
    have hl := hx.2.2 b hb j (show j ≤ γ 2 (rwL γ el q0 b) by omega)
    rw [← e3] at hl
    unfold lnQ at hl
    rw [pgRm_l] at hl
    have uA := uA_tr h17
    have uB := uB_tr h23
    have uS := ss_tr h28
    have f0 : fI (F_2 x3) 0 = fI (F_2 x3) 0 := rfl
    have f1 : fI (F_2 x3) 1 = fI (F_2 x3) 1 := rfl
    have f2 : fI (F_2 x3) 2 = fI (F_2 x3) 2 := rfl
    have f3 : fI (F_2 x3) 3 = fI (F_2 x3) 3 := rfl
    have f4 : fI (F_2 x3) 4 = fI (F_2 x3) 4 := rfl
    have f5 : fI (F_2 x3) 5 = fI (F_2 x3) 5 := rfl
    have f6 : fI (F_2 x3) 6 = fI (F_2 x3) 6 := rfl
    have r14 : fI (F_2 x3) 0 = x4 := h14
    have r15 : fI (F_2 x3) 5 = x5 := h15
    have r19 : fI (F_2 x3) 2 = x7 := h19
    have r21 : fI (F_2 x3) 6 = x8 := h21
    have r25 : fI (F_2 x3) 3 = x10 := h25
    have nl := rn_ln hw hv (qk_l hO hb hj3) hl f0 f4 f5 f6 (by unfold chA; rw [r14, r15, r19]; first | exact Or.inr ⟨by omega, f2.trans r19⟩ | exact Or.inr ⟨by omega, rfl⟩) (by unfold chB; rw [r14, r21, r25]; first | exact Or.inr ⟨by omega, f3.trans r25⟩ | exact Or.inr ⟨by omega, rfl⟩) (by unfold chT; rw [r14]; exact Or.inr ⟨by omega, f1⟩)
    have pt := rfX_put (F1 := F_2) (Q := pgRm Q a1.toInt a2.toInt b j) (b := b) (j := j) (l := rnL a1.toInt a2.toInt (Q.2.2.1 b j)) h2 hc hcf hQ6 hx hB2 hb hj3 (by rw [← e3]; exact fun x hx2 => rfl) (by rw [pgRm_l]; rfl) (by rw [← e3]; exact nl)
    rw [pgRm_s] at pt
    exact ih (j + 1) (by omega) hj3 pt
  · intro F_2 l5_2 x1 x2 x3 x4 x5 x6 x7 x8 x9 x10 x11 x12 x13 k e1 h1 h2 h3 h4 h5 h6 h7 h8 h9 h10 h11 h12 h13 h14 h15 h16 h17 h18 h19 h20 h21 h22 h23 h24 h25 h26 h27 h28 h29 h30 h31 h32 ih
    intro j hj hj2 hx
    have hB := hB2 b hb
    rw [← hc1] at hB
    obtain ⟨ll, nn, pp, ss, v1, ⟨g1, g2, g3⟩, v3, v4, v5, -⟩ := show rk_2 γ c1 (F_2 c1) from RS_o h2 hB
    have ex1 : x1 = rwL γ el q0 b := by
      rw [← h7, v1]
      show ll = γ 14 (el (γ 14 q0) b)
      rw [← hc1, g1]
    have m : γ 2 (rwL γ el q0 b) + 1 = Q.2.1 b := (hx.2.1 b hb).1
    rw [ex1] at h8
    have e3 : x3 = rAt γ el q0 b j := by
      rw [← h13, v1]
      show nn = _
      rw [show rAt γ el q0 b j = γ 15 (el (γ 14 q0) b) from if_neg (show ¬ j < γ 2 (rwL γ el q0 b) by omega), ← hc1, g2]
    have hj3 : j < Q.2.1 b := by omega
    have k3 := (rAt_k (j := j) h2 hc hcf (show b < γ 6 f by omega)).1
    rw [← e3] at k3
    have s3 : rwS (F_2 x3) := rwS_1 (RS_o h2 k3)
    have hl := hx.2.2 b hb j (show j ≤ γ 2 (rwL γ el q0 b) by omega)
    rw [← e3] at hl
    unfold lnQ at hl
    rw [pgRm_l] at hl
    have uA := uA_tr h17
    have uB := uB_tr h23
    have uS := ss_tr h28
    have f0 : fI (F_2 x3) 0 = fI (F_2 x3) 0 := rfl
    have f1 : fI (F_2 x3) 1 = fI (F_2 x3) 1 := rfl
    have f2 : fI (F_2 x3) 2 = fI (F_2 x3) 2 := rfl
    have f3 : fI (F_2 x3) 3 = fI (F_2 x3) 3 := rfl
    have f4 : fI (F_2 x3) 4 = fI (F_2 x3) 4 := rfl
    have f5 : fI (F_2 x3) 5 = fI (F_2 x3) 5 := rfl
    have f6 : fI (F_2 x3) 6 = fI (F_2 x3) 6 := rfl
    have r14 : fI (F_2 x3) 0 = x4 := h14
    have r15 : fI (F_2 x3) 5 = x5 := h15
    have r19 : fI (F_2 x3) 2 = x7 := h19
    have r21 : fI (F_2 x3) 6 = x8 := h21
    have r25 : fI (F_2 x3) 3 = x10 := h25
    have r30 : fI (F_2 x3) 1 = x12 := h30
    have nl := rn_ln hw hv (qk_l hO hb hj3) hl f0 f4 f5 f6 (by unfold chA; rw [r14, r15, r19]; first | exact Or.inr ⟨by omega, f2.trans r19⟩ | exact Or.inr ⟨by omega, rfl⟩) (by unfold chB; rw [r14, r21, r25]; first | exact Or.inr ⟨by omega, f3.trans r25⟩ | exact Or.inr ⟨by omega, rfl⟩) (by unfold chT; rw [r14, r30]; first | exact Or.inr ⟨by omega, f1.trans r30⟩ | exact Or.inr ⟨by omega, rfl⟩)
    have pt := rfX_put (F1 := F_2) (Q := pgRm Q a1.toInt a2.toInt b j) (b := b) (j := j) (l := rnL a1.toInt a2.toInt (Q.2.2.1 b j)) h2 hc hcf hQ6 hx hB2 hb hj3 (by rw [← e3]; exact fun x hx2 => rfl) (by rw [pgRm_l]; rfl) (by rw [← e3]; exact nl)
    rw [pgRm_s] at pt
    exact ih (j + 1) (by omega) hj3 pt
  · intro F_2 l5_2 x1 x2 x3 x4 x5 x6 x7 x8 x9 x10 x11 x12 x13 x14 k e1 h1 h2 h3 h4 h5 h6 h7 h8 h9 h10 h11 h12 h13 h14 h15 h16 h17 h18 h19 h20 h21 h22 h23 h24 h25 h26 h27 h28 h29 h30 h31 h32 h33 h34 ih
    intro j hj hj2 hx
    have hB := hB2 b hb
    rw [← hc1] at hB
    obtain ⟨ll, nn, pp, ss, v1, ⟨g1, g2, g3⟩, v3, v4, v5, -⟩ := show rk_2 γ c1 (F_2 c1) from RS_o h2 hB
    have ex1 : x1 = rwL γ el q0 b := by
      rw [← h7, v1]
      show ll = γ 14 (el (γ 14 q0) b)
      rw [← hc1, g1]
    have m : γ 2 (rwL γ el q0 b) + 1 = Q.2.1 b := (hx.2.1 b hb).1
    rw [ex1] at h8
    have e3 : x3 = rAt γ el q0 b j := by
      rw [← h13, v1]
      show nn = _
      rw [show rAt γ el q0 b j = γ 15 (el (γ 14 q0) b) from if_neg (show ¬ j < γ 2 (rwL γ el q0 b) by omega), ← hc1, g2]
    have hj3 : j < Q.2.1 b := by omega
    have k3 := (rAt_k (j := j) h2 hc hcf (show b < γ 6 f by omega)).1
    rw [← e3] at k3
    have s3 : rwS (F_2 x3) := rwS_1 (RS_o h2 k3)
    have hl := hx.2.2 b hb j (show j ≤ γ 2 (rwL γ el q0 b) by omega)
    rw [← e3] at hl
    unfold lnQ at hl
    rw [pgRm_l] at hl
    have uA := uA_tr h17
    have uB := uB_tr h23
    have uS := ss_tr h28
    obtain ⟨z1, z10, z11, z12, z13, z14, z15, z16⟩ := cw_1 s3 h33
    have f0 : fI (x13 x3) 0 = fI (F_2 x3) 0 := by rw [z10]
    have f1 : fI (x13 x3) 1 = a2 := by rw [z11]
    have f2 : fI (x13 x3) 2 = fI (F_2 x3) 2 := by rw [z12]
    have f3 : fI (x13 x3) 3 = fI (F_2 x3) 3 := by rw [z13]
    have f4 : fI (x13 x3) 4 = fI (F_2 x3) 4 := by rw [z14]
    have f5 : fI (x13 x3) 5 = fI (F_2 x3) 5 := by rw [z15]
    have f6 : fI (x13 x3) 6 = fI (F_2 x3) 6 := by rw [z16]
    have r14 : fI (F_2 x3) 0 = x4 := h14
    have r15 : fI (F_2 x3) 5 = x5 := h15
    have r19 : fI (F_2 x3) 2 = x7 := h19
    have r21 : fI (F_2 x3) 6 = x8 := h21
    have r25 : fI (F_2 x3) 3 = x10 := h25
    have r30 : fI (F_2 x3) 1 = x12 := h30
    have nl := rn_ln hw hv (qk_l hO hb hj3) hl f0 f4 f5 f6 (by unfold chA; rw [r14, r15, r19]; first | exact Or.inr ⟨by omega, f2.trans r19⟩ | exact Or.inr ⟨by omega, rfl⟩) (by unfold chB; rw [r14, r21, r25]; first | exact Or.inr ⟨by omega, f3.trans r25⟩ | exact Or.inr ⟨by omega, rfl⟩) (by unfold chT; rw [r14, r30]; exact Or.inl ⟨by omega, by rw [f1]⟩)
    have pt := rfX_put (F1 := x13) (Q := pgRm Q a1.toInt a2.toInt b j) (b := b) (j := j) (l := rnL a1.toInt a2.toInt (Q.2.2.1 b j)) h2 hc hcf hQ6 hx hB2 hb hj3 (by rw [← e3]; exact fun x hx2 => by rw [h32 x hx2]) (by rw [pgRm_l]; rfl) (by rw [← e3]; exact nl)
    rw [pgRm_s] at pt
    exact ih (j + 1) (by omega) hj3 pt
  · intro F_2 l5_2 x1 x2 x3 x4 x5 x6 x7 x8 x9 x10 x11 x12 x13 k e1 h1 h2 h3 h4 h5 h6 h7 h8 h9 h10 h11 h12 h13 h14 h15 h16 h17 h18 h19 h20 h21 h22 h23 h24 h25 h26 h27 h28 h29 h30 h31 h32 h33 ih
    intro j hj hj2 hx
    have hB := hB2 b hb
    rw [← hc1] at hB
    obtain ⟨ll, nn, pp, ss, v1, ⟨g1, g2, g3⟩, v3, v4, v5, -⟩ := show rk_2 γ c1 (F_2 c1) from RS_o h2 hB
    have ex1 : x1 = rwL γ el q0 b := by
      rw [← h7, v1]
      show ll = γ 14 (el (γ 14 q0) b)
      rw [← hc1, g1]
    have m : γ 2 (rwL γ el q0 b) + 1 = Q.2.1 b := (hx.2.1 b hb).1
    rw [ex1] at h8
    have e3 : x3 = rAt γ el q0 b j := by
      rw [← h13, v1]
      show nn = _
      rw [show rAt γ el q0 b j = γ 15 (el (γ 14 q0) b) from if_neg (show ¬ j < γ 2 (rwL γ el q0 b) by omega), ← hc1, g2]
    have hj3 : j < Q.2.1 b := by omega
    have k3 := (rAt_k (j := j) h2 hc hcf (show b < γ 6 f by omega)).1
    rw [← e3] at k3
    have s3 : rwS (F_2 x3) := rwS_1 (RS_o h2 k3)
    have hl := hx.2.2 b hb j (show j ≤ γ 2 (rwL γ el q0 b) by omega)
    rw [← e3] at hl
    unfold lnQ at hl
    rw [pgRm_l] at hl
    have uA := uA_tr h17
    have uB := uB_tr h23
    have uS := ss_tr h31
    obtain ⟨z1, z10, z11, z12, z13, z14, z15, z16⟩ := cw_3 s3 h28
    have f0 : fI (x11 x3) 0 = fI (F_2 x3) 0 := by rw [z10]
    have f1 : fI (x11 x3) 1 = fI (F_2 x3) 1 := by rw [z11]
    have f2 : fI (x11 x3) 2 = fI (F_2 x3) 2 := by rw [z12]
    have f3 : fI (x11 x3) 3 = a2 := by rw [z13]
    have f4 : fI (x11 x3) 4 = fI (F_2 x3) 4 := by rw [z14]
    have f5 : fI (x11 x3) 5 = fI (F_2 x3) 5 := by rw [z15]
    have f6 : fI (x11 x3) 6 = fI (F_2 x3) 6 := by rw [z16]
    have r14 : fI (F_2 x3) 0 = x4 := h14
    have r15 : fI (F_2 x3) 5 = x5 := h15
    have r19 : fI (F_2 x3) 2 = x7 := h19
    have r21 : fI (F_2 x3) 6 = x8 := h21
    have r25 : fI (F_2 x3) 3 = x10 := h25
    have r29 : fI (F_2 x3) 0 = x4 := by rw [← h29, z10]
    have nl := rn_ln hw hv (qk_l hO hb hj3) hl f0 f4 f5 f6 (by unfold chA; rw [r14, r15, r19]; first | exact Or.inr ⟨by omega, f2.trans r19⟩ | exact Or.inr ⟨by omega, rfl⟩) (by unfold chB; rw [r14, r21, r25]; exact Or.inl ⟨by omega, by rw [f3]⟩) (by unfold chT; rw [r14]; exact Or.inr ⟨by omega, f1⟩)
    have pt := rfX_put (F1 := x11) (Q := pgRm Q a1.toInt a2.toInt b j) (b := b) (j := j) (l := rnL a1.toInt a2.toInt (Q.2.2.1 b j)) h2 hc hcf hQ6 hx hB2 hb hj3 (by rw [← e3]; exact fun x hx2 => by rw [h27 x hx2]) (by rw [pgRm_l]; rfl) (by rw [← e3]; exact nl)
    rw [pgRm_s] at pt
    exact ih (j + 1) (by omega) hj3 pt
  · intro F_2 l5_2 x1 x2 x3 x4 x5 x6 x7 x8 x9 x10 x11 x12 x13 x14 k e1 h1 h2 h3 h4 h5 h6 h7 h8 h9 h10 h11 h12 h13 h14 h15 h16 h17 h18 h19 h20 h21 h22 h23 h24 h25 h26 h27 h28 h29 h30 h31 h32 h33 h34 h35 ih
    intro j hj hj2 hx
    have hB := hB2 b hb
    rw [← hc1] at hB
    obtain ⟨ll, nn, pp, ss, v1, ⟨g1, g2, g3⟩, v3, v4, v5, -⟩ := show rk_2 γ c1 (F_2 c1) from RS_o h2 hB
    have ex1 : x1 = rwL γ el q0 b := by
      rw [← h7, v1]
      show ll = γ 14 (el (γ 14 q0) b)
      rw [← hc1, g1]
    have m : γ 2 (rwL γ el q0 b) + 1 = Q.2.1 b := (hx.2.1 b hb).1
    rw [ex1] at h8
    have e3 : x3 = rAt γ el q0 b j := by
      rw [← h13, v1]
      show nn = _
      rw [show rAt γ el q0 b j = γ 15 (el (γ 14 q0) b) from if_neg (show ¬ j < γ 2 (rwL γ el q0 b) by omega), ← hc1, g2]
    have hj3 : j < Q.2.1 b := by omega
    have k3 := (rAt_k (j := j) h2 hc hcf (show b < γ 6 f by omega)).1
    rw [← e3] at k3
    have s3 : rwS (F_2 x3) := rwS_1 (RS_o h2 k3)
    have hl := hx.2.2 b hb j (show j ≤ γ 2 (rwL γ el q0 b) by omega)
    rw [← e3] at hl
    unfold lnQ at hl
    rw [pgRm_l] at hl
    have uA := uA_tr h17
    have uB := uB_tr h23
    have uS := ss_tr h31
    obtain ⟨z1, z10, z11, z12, z13, z14, z15, z16⟩ := cw_3 s3 h28
    have f0 : fI (x11 x3) 0 = fI (F_2 x3) 0 := by rw [z10]
    have f1 : fI (x11 x3) 1 = fI (F_2 x3) 1 := by rw [z11]
    have f2 : fI (x11 x3) 2 = fI (F_2 x3) 2 := by rw [z12]
    have f3 : fI (x11 x3) 3 = a2 := by rw [z13]
    have f4 : fI (x11 x3) 4 = fI (F_2 x3) 4 := by rw [z14]
    have f5 : fI (x11 x3) 5 = fI (F_2 x3) 5 := by rw [z15]
    have f6 : fI (x11 x3) 6 = fI (F_2 x3) 6 := by rw [z16]
    have r14 : fI (F_2 x3) 0 = x4 := h14
    have r15 : fI (F_2 x3) 5 = x5 := h15
    have r19 : fI (F_2 x3) 2 = x7 := h19
    have r21 : fI (F_2 x3) 6 = x8 := h21
    have r25 : fI (F_2 x3) 3 = x10 := h25
    have r29 : fI (F_2 x3) 0 = x4 := by rw [← h29, z10]
    have r33 : fI (F_2 x3) 1 = x13 := by rw [← h33, z11]
    have nl := rn_ln hw hv (qk_l hO hb hj3) hl f0 f4 f5 f6 (by unfold chA; rw [r14, r15, r19]; first | exact Or.inr ⟨by omega, f2.trans r19⟩ | exact Or.inr ⟨by omega, rfl⟩) (by unfold chB; rw [r14, r21, r25]; exact Or.inl ⟨by omega, by rw [f3]⟩) (by unfold chT; rw [r14, r33]; first | exact Or.inr ⟨by omega, f1.trans r33⟩ | exact Or.inr ⟨by omega, rfl⟩)
    have pt := rfX_put (F1 := x11) (Q := pgRm Q a1.toInt a2.toInt b j) (b := b) (j := j) (l := rnL a1.toInt a2.toInt (Q.2.2.1 b j)) h2 hc hcf hQ6 hx hB2 hb hj3 (by rw [← e3]; exact fun x hx2 => by rw [h27 x hx2]) (by rw [pgRm_l]; rfl) (by rw [← e3]; exact nl)
    rw [pgRm_s] at pt
    exact ih (j + 1) (by omega) hj3 pt
  · intro F_2 l5_2 x1 x2 x3 x4 x5 x6 x7 x8 x9 x10 x11 x12 x13 x14 x15 k e1 h1 h2 h3 h4 h5 h6 h7 h8 h9 h10 h11 h12 h13 h14 h15 h16 h17 h18 h19 h20 h21 h22 h23 h24 h25 h26 h27 h28 h29 h30 h31 h32 h33 h34 h35 h36 h37 ih
    intro j hj hj2 hx
    have hB := hB2 b hb
    rw [← hc1] at hB
    obtain ⟨ll, nn, pp, ss, v1, ⟨g1, g2, g3⟩, v3, v4, v5, -⟩ := show rk_2 γ c1 (F_2 c1) from RS_o h2 hB
    have ex1 : x1 = rwL γ el q0 b := by
      rw [← h7, v1]
      show ll = γ 14 (el (γ 14 q0) b)
      rw [← hc1, g1]
    have m : γ 2 (rwL γ el q0 b) + 1 = Q.2.1 b := (hx.2.1 b hb).1
    rw [ex1] at h8
    have e3 : x3 = rAt γ el q0 b j := by
      rw [← h13, v1]
      show nn = _
      rw [show rAt γ el q0 b j = γ 15 (el (γ 14 q0) b) from if_neg (show ¬ j < γ 2 (rwL γ el q0 b) by omega), ← hc1, g2]
    have hj3 : j < Q.2.1 b := by omega
    have k3 := (rAt_k (j := j) h2 hc hcf (show b < γ 6 f by omega)).1
    rw [← e3] at k3
    have s3 : rwS (F_2 x3) := rwS_1 (RS_o h2 k3)
    have hl := hx.2.2 b hb j (show j ≤ γ 2 (rwL γ el q0 b) by omega)
    rw [← e3] at hl
    unfold lnQ at hl
    rw [pgRm_l] at hl
    have uA := uA_tr h17
    have uB := uB_tr h23
    have uS := ss_tr h31
    obtain ⟨z1, z10, z11, z12, z13, z14, z15, z16⟩ := cw_3 s3 h28
    obtain ⟨z2, z20, z21, z22, z23, z24, z25, z26⟩ := cw_1 z1 h36
    have f0 : fI (x14 x3) 0 = fI (F_2 x3) 0 := by rw [z20, z10]
    have f1 : fI (x14 x3) 1 = a2 := by rw [z21]
    have f2 : fI (x14 x3) 2 = fI (F_2 x3) 2 := by rw [z22, z12]
    have f3 : fI (x14 x3) 3 = a2 := by rw [z23, z13]
    have f4 : fI (x14 x3) 4 = fI (F_2 x3) 4 := by rw [z24, z14]
    have f5 : fI (x14 x3) 5 = fI (F_2 x3) 5 := by rw [z25, z15]
    have f6 : fI (x14 x3) 6 = fI (F_2 x3) 6 := by rw [z26, z16]
    have r14 : fI (F_2 x3) 0 = x4 := h14
    have r15 : fI (F_2 x3) 5 = x5 := h15
    have r19 : fI (F_2 x3) 2 = x7 := h19
    have r21 : fI (F_2 x3) 6 = x8 := h21
    have r25 : fI (F_2 x3) 3 = x10 := h25
    have r29 : fI (F_2 x3) 0 = x4 := by rw [← h29, z10]
    have r33 : fI (F_2 x3) 1 = x13 := by rw [← h33, z11]
    have nl := rn_ln hw hv (qk_l hO hb hj3) hl f0 f4 f5 f6 (by unfold chA; rw [r14, r15, r19]; first | exact Or.inr ⟨by omega, f2.trans r19⟩ | exact Or.inr ⟨by omega, rfl⟩) (by unfold chB; rw [r14, r21, r25]; exact Or.inl ⟨by omega, by rw [f3]⟩) (by unfold chT; rw [r14, r33]; exact Or.inl ⟨by omega, by rw [f1]⟩)
    have pt := rfX_put (F1 := x14) (Q := pgRm Q a1.toInt a2.toInt b j) (b := b) (j := j) (l := rnL a1.toInt a2.toInt (Q.2.2.1 b j)) h2 hc hcf hQ6 hx hB2 hb hj3 (by rw [← e3]; exact fun x hx2 => by rw [h35 x hx2, h27 x hx2]) (by rw [pgRm_l]; rfl) (by rw [← e3]; exact nl)
    rw [pgRm_s] at pt
    exact ih (j + 1) (by omega) hj3 pt
  · intro F_2 l5_2 x1 x2 x3 x4 x5 x6 x7 x8 x9 x10 x11 x12 k e1 h1 h2 h3 h4 h5 h6 h7 h8 h9 h10 h11 h12 h13 h14 h15 h16 h17 h18 h19 h20 h21 h22 h23 h24 h25 h26 h27 h28 h29 h30 h31 ih
    intro j hj hj2 hx
    have hB := hB2 b hb
    rw [← hc1] at hB
    obtain ⟨ll, nn, pp, ss, v1, ⟨g1, g2, g3⟩, v3, v4, v5, -⟩ := show rk_2 γ c1 (F_2 c1) from RS_o h2 hB
    have ex1 : x1 = rwL γ el q0 b := by
      rw [← h7, v1]
      show ll = γ 14 (el (γ 14 q0) b)
      rw [← hc1, g1]
    have m : γ 2 (rwL γ el q0 b) + 1 = Q.2.1 b := (hx.2.1 b hb).1
    rw [ex1] at h8
    have e3 : x3 = rAt γ el q0 b j := by
      rw [← h13, v1]
      show nn = _
      rw [show rAt γ el q0 b j = γ 15 (el (γ 14 q0) b) from if_neg (show ¬ j < γ 2 (rwL γ el q0 b) by omega), ← hc1, g2]
    have hj3 : j < Q.2.1 b := by omega
    have k3 := (rAt_k (j := j) h2 hc hcf (show b < γ 6 f by omega)).1
    rw [← e3] at k3
    have s3 : rwS (F_2 x3) := rwS_1 (RS_o h2 k3)
    have hl := hx.2.2 b hb j (show j ≤ γ 2 (rwL γ el q0 b) by omega)
    rw [← e3] at hl
    unfold lnQ at hl
    rw [pgRm_l] at hl
    have uA := uA_tr h17
    have uB := uB_tr h26
    have uS := ss_tr h29
    obtain ⟨z1, z10, z11, z12, z13, z14, z15, z16⟩ := cw_2 s3 h22
    have f0 : fI (x8 x3) 0 = fI (F_2 x3) 0 := by rw [z10]
    have f1 : fI (x8 x3) 1 = fI (F_2 x3) 1 := by rw [z11]
    have f2 : fI (x8 x3) 2 = a2 := by rw [z12]
    have f3 : fI (x8 x3) 3 = fI (F_2 x3) 3 := by rw [z13]
    have f4 : fI (x8 x3) 4 = fI (F_2 x3) 4 := by rw [z14]
    have f5 : fI (x8 x3) 5 = fI (F_2 x3) 5 := by rw [z15]
    have f6 : fI (x8 x3) 6 = fI (F_2 x3) 6 := by rw [z16]
    have r14 : fI (F_2 x3) 0 = x4 := h14
    have r15 : fI (F_2 x3) 5 = x5 := h15
    have r19 : fI (F_2 x3) 2 = x7 := h19
    have r23 : fI (F_2 x3) 0 = x4 := by rw [← h23, z10]
    have r24 : fI (F_2 x3) 6 = x9 := by rw [← h24, z16]
    have nl := rn_ln hw hv (qk_l hO hb hj3) hl f0 f4 f5 f6 (by unfold chA; rw [r14, r15, r19]; exact Or.inl ⟨by omega, by rw [f2]⟩) (by unfold chB; rw [r14, r24]; exact Or.inr ⟨by omega, f3⟩) (by unfold chT; rw [r14]; exact Or.inr ⟨by omega, f1⟩)
    have pt := rfX_put (F1 := x8) (Q := pgRm Q a1.toInt a2.toInt b j) (b := b) (j := j) (l := rnL a1.toInt a2.toInt (Q.2.2.1 b j)) h2 hc hcf hQ6 hx hB2 hb hj3 (by rw [← e3]; exact fun x hx2 => by rw [h21 x hx2]) (by rw [pgRm_l]; rfl) (by rw [← e3]; exact nl)
    rw [pgRm_s] at pt
    exact ih (j + 1) (by omega) hj3 pt
  · intro F_2 l5_2 x1 x2 x3 x4 x5 x6 x7 x8 x9 x10 x11 x12 x13 k e1 h1 h2 h3 h4 h5 h6 h7 h8 h9 h10 h11 h12 h13 h14 h15 h16 h17 h18 h19 h20 h21 h22 h23 h24 h25 h26 h27 h28 h29 h30 h31 h32 h33 ih
    intro j hj hj2 hx
    have hB := hB2 b hb
    rw [← hc1] at hB
    obtain ⟨ll, nn, pp, ss, v1, ⟨g1, g2, g3⟩, v3, v4, v5, -⟩ := show rk_2 γ c1 (F_2 c1) from RS_o h2 hB
    have ex1 : x1 = rwL γ el q0 b := by
      rw [← h7, v1]
      show ll = γ 14 (el (γ 14 q0) b)
      rw [← hc1, g1]
    have m : γ 2 (rwL γ el q0 b) + 1 = Q.2.1 b := (hx.2.1 b hb).1
    rw [ex1] at h8
    have e3 : x3 = rAt γ el q0 b j := by
      rw [← h13, v1]
      show nn = _
      rw [show rAt γ el q0 b j = γ 15 (el (γ 14 q0) b) from if_neg (show ¬ j < γ 2 (rwL γ el q0 b) by omega), ← hc1, g2]
    have hj3 : j < Q.2.1 b := by omega
    have k3 := (rAt_k (j := j) h2 hc hcf (show b < γ 6 f by omega)).1
    rw [← e3] at k3
    have s3 : rwS (F_2 x3) := rwS_1 (RS_o h2 k3)
    have hl := hx.2.2 b hb j (show j ≤ γ 2 (rwL γ el q0 b) by omega)
    rw [← e3] at hl
    unfold lnQ at hl
    rw [pgRm_l] at hl
    have uA := uA_tr h17
    have uB := uB_tr h26
    have uS := ss_tr h29
    obtain ⟨z1, z10, z11, z12, z13, z14, z15, z16⟩ := cw_2 s3 h22
    have f0 : fI (x8 x3) 0 = fI (F_2 x3) 0 := by rw [z10]
    have f1 : fI (x8 x3) 1 = fI (F_2 x3) 1 := by rw [z11]
    have f2 : fI (x8 x3) 2 = a2 := by rw [z12]
    have f3 : fI (x8 x3) 3 = fI (F_2 x3) 3 := by rw [z13]
    have f4 : fI (x8 x3) 4 = fI (F_2 x3) 4 := by rw [z14]
    have f5 : fI (x8 x3) 5 = fI (F_2 x3) 5 := by rw [z15]
    have f6 : fI (x8 x3) 6 = fI (F_2 x3) 6 := by rw [z16]
    have r14 : fI (F_2 x3) 0 = x4 := h14
    have r15 : fI (F_2 x3) 5 = x5 := h15
    have r19 : fI (F_2 x3) 2 = x7 := h19
    have r23 : fI (F_2 x3) 0 = x4 := by rw [← h23, z10]
    have r24 : fI (F_2 x3) 6 = x9 := by rw [← h24, z16]
    have r31 : fI (F_2 x3) 1 = x12 := by rw [← h31, z11]
    have nl := rn_ln hw hv (qk_l hO hb hj3) hl f0 f4 f5 f6 (by unfold chA; rw [r14, r15, r19]; exact Or.inl ⟨by omega, by rw [f2]⟩) (by unfold chB; rw [r14, r24]; exact Or.inr ⟨by omega, f3⟩) (by unfold chT; rw [r14, r31]; first | exact Or.inr ⟨by omega, f1.trans r31⟩ | exact Or.inr ⟨by omega, rfl⟩)
    have pt := rfX_put (F1 := x8) (Q := pgRm Q a1.toInt a2.toInt b j) (b := b) (j := j) (l := rnL a1.toInt a2.toInt (Q.2.2.1 b j)) h2 hc hcf hQ6 hx hB2 hb hj3 (by rw [← e3]; exact fun x hx2 => by rw [h21 x hx2]) (by rw [pgRm_l]; rfl) (by rw [← e3]; exact nl)
    rw [pgRm_s] at pt
    exact ih (j + 1) (by omega) hj3 pt
  · intro F_2 l5_2 x1 x2 x3 x4 x5 x6 x7 x8 x9 x10 x11 x12 x13 x14 k e1 h1 h2 h3 h4 h5 h6 h7 h8 h9 h10 h11 h12 h13 h14 h15 h16 h17 h18 h19 h20 h21 h22 h23 h24 h25 h26 h27 h28 h29 h30 h31 h32 h33 h34 h35 ih
    intro j hj hj2 hx
    have hB := hB2 b hb
    rw [← hc1] at hB
    obtain ⟨ll, nn, pp, ss, v1, ⟨g1, g2, g3⟩, v3, v4, v5, -⟩ := show rk_2 γ c1 (F_2 c1) from RS_o h2 hB
    have ex1 : x1 = rwL γ el q0 b := by
      rw [← h7, v1]
      show ll = γ 14 (el (γ 14 q0) b)
      rw [← hc1, g1]
    have m : γ 2 (rwL γ el q0 b) + 1 = Q.2.1 b := (hx.2.1 b hb).1
    rw [ex1] at h8
    have e3 : x3 = rAt γ el q0 b j := by
      rw [← h13, v1]
      show nn = _
      rw [show rAt γ el q0 b j = γ 15 (el (γ 14 q0) b) from if_neg (show ¬ j < γ 2 (rwL γ el q0 b) by omega), ← hc1, g2]
    have hj3 : j < Q.2.1 b := by omega
    have k3 := (rAt_k (j := j) h2 hc hcf (show b < γ 6 f by omega)).1
    rw [← e3] at k3
    have s3 : rwS (F_2 x3) := rwS_1 (RS_o h2 k3)
    have hl := hx.2.2 b hb j (show j ≤ γ 2 (rwL γ el q0 b) by omega)
    rw [← e3] at hl
    unfold lnQ at hl
    rw [pgRm_l] at hl
    have uA := uA_tr h17
    have uB := uB_tr h26
    have uS := ss_tr h29
    obtain ⟨z1, z10, z11, z12, z13, z14, z15, z16⟩ := cw_2 s3 h22
    obtain ⟨z2, z20, z21, z22, z23, z24, z25, z26⟩ := cw_1 z1 h34
    have f0 : fI (x13 x3) 0 = fI (F_2 x3) 0 := by rw [z20, z10]
    have f1 : fI (x13 x3) 1 = a2 := by rw [z21]
    have f2 : fI (x13 x3) 2 = a2 := by rw [z22, z12]
    have f3 : fI (x13 x3) 3 = fI (F_2 x3) 3 := by rw [z23, z13]
    have f4 : fI (x13 x3) 4 = fI (F_2 x3) 4 := by rw [z24, z14]
    have f5 : fI (x13 x3) 5 = fI (F_2 x3) 5 := by rw [z25, z15]
    have f6 : fI (x13 x3) 6 = fI (F_2 x3) 6 := by rw [z26, z16]
    have r14 : fI (F_2 x3) 0 = x4 := h14
    have r15 : fI (F_2 x3) 5 = x5 := h15
    have r19 : fI (F_2 x3) 2 = x7 := h19
    have r23 : fI (F_2 x3) 0 = x4 := by rw [← h23, z10]
    have r24 : fI (F_2 x3) 6 = x9 := by rw [← h24, z16]
    have r31 : fI (F_2 x3) 1 = x12 := by rw [← h31, z11]
    have nl := rn_ln hw hv (qk_l hO hb hj3) hl f0 f4 f5 f6 (by unfold chA; rw [r14, r15, r19]; exact Or.inl ⟨by omega, by rw [f2]⟩) (by unfold chB; rw [r14, r24]; exact Or.inr ⟨by omega, f3⟩) (by unfold chT; rw [r14, r31]; exact Or.inl ⟨by omega, by rw [f1]⟩)
    have pt := rfX_put (F1 := x13) (Q := pgRm Q a1.toInt a2.toInt b j) (b := b) (j := j) (l := rnL a1.toInt a2.toInt (Q.2.2.1 b j)) h2 hc hcf hQ6 hx hB2 hb hj3 (by rw [← e3]; exact fun x hx2 => by rw [h33 x hx2, h21 x hx2]) (by rw [pgRm_l]; rfl) (by rw [← e3]; exact nl)
    rw [pgRm_s] at pt
    exact ih (j + 1) (by omega) hj3 pt
  · intro F_2 l5_2 x1 x2 x3 x4 x5 x6 x7 x8 x9 x10 x11 x12 x13 k e1 h1 h2 h3 h4 h5 h6 h7 h8 h9 h10 h11 h12 h13 h14 h15 h16 h17 h18 h19 h20 h21 h22 h23 h24 h25 h26 h27 h28 h29 h30 h31 h32 h33 ih
    intro j hj hj2 hx
    have hB := hB2 b hb
    rw [← hc1] at hB
    obtain ⟨ll, nn, pp, ss, v1, ⟨g1, g2, g3⟩, v3, v4, v5, -⟩ := show rk_2 γ c1 (F_2 c1) from RS_o h2 hB
    have ex1 : x1 = rwL γ el q0 b := by
      rw [← h7, v1]
      show ll = γ 14 (el (γ 14 q0) b)
      rw [← hc1, g1]
    have m : γ 2 (rwL γ el q0 b) + 1 = Q.2.1 b := (hx.2.1 b hb).1
    rw [ex1] at h8
    have e3 : x3 = rAt γ el q0 b j := by
      rw [← h13, v1]
      show nn = _
      rw [show rAt γ el q0 b j = γ 15 (el (γ 14 q0) b) from if_neg (show ¬ j < γ 2 (rwL γ el q0 b) by omega), ← hc1, g2]
    have hj3 : j < Q.2.1 b := by omega
    have k3 := (rAt_k (j := j) h2 hc hcf (show b < γ 6 f by omega)).1
    rw [← e3] at k3
    have s3 : rwS (F_2 x3) := rwS_1 (RS_o h2 k3)
    have hl := hx.2.2 b hb j (show j ≤ γ 2 (rwL γ el q0 b) by omega)
    rw [← e3] at hl
    unfold lnQ at hl
    rw [pgRm_l] at hl
    have uA := uA_tr h17
    have uB := uB_tr h26
    have uS := ss_tr h31
    obtain ⟨z1, z10, z11, z12, z13, z14, z15, z16⟩ := cw_2 s3 h22
    have f0 : fI (x8 x3) 0 = fI (F_2 x3) 0 := by rw [z10]
    have f1 : fI (x8 x3) 1 = fI (F_2 x3) 1 := by rw [z11]
    have f2 : fI (x8 x3) 2 = a2 := by rw [z12]
    have f3 : fI (x8 x3) 3 = fI (F_2 x3) 3 := by rw [z13]
    have f4 : fI (x8 x3) 4 = fI (F_2 x3) 4 := by rw [z14]
    have f5 : fI (x8 x3) 5 = fI (F_2 x3) 5 := by rw [z15]
    have f6 : fI (x8 x3) 6 = fI (F_2 x3) 6 := by rw [z16]
    have r14 : fI (F_2 x3) 0 = x4 := h14
    have r15 : fI (F_2 x3) 5 = x5 := h15
    have r19 : fI (F_2 x3) 2 = x7 := h19
    have r23 : fI (F_2 x3) 0 = x4 := by rw [← h23, z10]
    have r24 : fI (F_2 x3) 6 = x9 := by rw [← h24, z16]
    have r28 : fI (F_2 x3) 3 = x11 := by rw [← h28, z13]
    have nl := rn_ln hw hv (qk_l hO hb hj3) hl f0 f4 f5 f6 (by unfold chA; rw [r14, r15, r19]; exact Or.inl ⟨by omega, by rw [f2]⟩) (by unfold chB; rw [r14, r24, r28]; first | exact Or.inr ⟨by omega, f3.trans r28⟩ | exact Or.inr ⟨by omega, rfl⟩) (by unfold chT; rw [r14]; exact Or.inr ⟨by omega, f1⟩)
    have pt := rfX_put (F1 := x8) (Q := pgRm Q a1.toInt a2.toInt b j) (b := b) (j := j) (l := rnL a1.toInt a2.toInt (Q.2.2.1 b j)) h2 hc hcf hQ6 hx hB2 hb hj3 (by rw [← e3]; exact fun x hx2 => by rw [h21 x hx2]) (by rw [pgRm_l]; rfl) (by rw [← e3]; exact nl)
    rw [pgRm_s] at pt
    exact ih (j + 1) (by omega) hj3 pt
  · intro F_2 l5_2 x1 x2 x3 x4 x5 x6 x7 x8 x9 x10 x11 x12 x13 x14 k e1 h1 h2 h3 h4 h5 h6 h7 h8 h9 h10 h11 h12 h13 h14 h15 h16 h17 h18 h19 h20 h21 h22 h23 h24 h25 h26 h27 h28 h29 h30 h31 h32 h33 h34 h35 ih
    intro j hj hj2 hx
    have hB := hB2 b hb
    rw [← hc1] at hB
    obtain ⟨ll, nn, pp, ss, v1, ⟨g1, g2, g3⟩, v3, v4, v5, -⟩ := show rk_2 γ c1 (F_2 c1) from RS_o h2 hB
    have ex1 : x1 = rwL γ el q0 b := by
      rw [← h7, v1]
      show ll = γ 14 (el (γ 14 q0) b)
      rw [← hc1, g1]
    have m : γ 2 (rwL γ el q0 b) + 1 = Q.2.1 b := (hx.2.1 b hb).1
    rw [ex1] at h8
    have e3 : x3 = rAt γ el q0 b j := by
      rw [← h13, v1]
      show nn = _
      rw [show rAt γ el q0 b j = γ 15 (el (γ 14 q0) b) from if_neg (show ¬ j < γ 2 (rwL γ el q0 b) by omega), ← hc1, g2]
    have hj3 : j < Q.2.1 b := by omega
    have k3 := (rAt_k (j := j) h2 hc hcf (show b < γ 6 f by omega)).1
    rw [← e3] at k3
    have s3 : rwS (F_2 x3) := rwS_1 (RS_o h2 k3)
    have hl := hx.2.2 b hb j (show j ≤ γ 2 (rwL γ el q0 b) by omega)
    rw [← e3] at hl
    unfold lnQ at hl
    rw [pgRm_l] at hl
    have uA := uA_tr h17
    have uB := uB_tr h26
    have uS := ss_tr h31
    obtain ⟨z1, z10, z11, z12, z13, z14, z15, z16⟩ := cw_2 s3 h22
    have f0 : fI (x8 x3) 0 = fI (F_2 x3) 0 := by rw [z10]
    have f1 : fI (x8 x3) 1 = fI (F_2 x3) 1 := by rw [z11]
    have f2 : fI (x8 x3) 2 = a2 := by rw [z12]
    have f3 : fI (x8 x3) 3 = fI (F_2 x3) 3 := by rw [z13]
    have f4 : fI (x8 x3) 4 = fI (F_2 x3) 4 := by rw [z14]
    have f5 : fI (x8 x3) 5 = fI (F_2 x3) 5 := by rw [z15]
    have f6 : fI (x8 x3) 6 = fI (F_2 x3) 6 := by rw [z16]
    have r14 : fI (F_2 x3) 0 = x4 := h14
    have r15 : fI (F_2 x3) 5 = x5 := h15
    have r19 : fI (F_2 x3) 2 = x7 := h19
    have r23 : fI (F_2 x3) 0 = x4 := by rw [← h23, z10]
    have r24 : fI (F_2 x3) 6 = x9 := by rw [← h24, z16]
    have r28 : fI (F_2 x3) 3 = x11 := by rw [← h28, z13]
    have r33 : fI (F_2 x3) 1 = x13 := by rw [← h33, z11]
    have nl := rn_ln hw hv (qk_l hO hb hj3) hl f0 f4 f5 f6 (by unfold chA; rw [r14, r15, r19]; exact Or.inl ⟨by omega, by rw [f2]⟩) (by unfold chB; rw [r14, r24, r28]; first | exact Or.inr ⟨by omega, f3.trans r28⟩ | exact Or.inr ⟨by omega, rfl⟩) (by unfold chT; rw [r14, r33]; first | exact Or.inr ⟨by omega, f1.trans r33⟩ | exact Or.inr ⟨by omega, rfl⟩)
    have pt := rfX_put (F1 := x8) (Q := pgRm Q a1.toInt a2.toInt b j) (b := b) (j := j) (l := rnL a1.toInt a2.toInt (Q.2.2.1 b j)) h2 hc hcf hQ6 hx hB2 hb hj3 (by rw [← e3]; exact fun x hx2 => by rw [h21 x hx2]) (by rw [pgRm_l]; rfl) (by rw [← e3]; exact nl)
    rw [pgRm_s] at pt
    exact ih (j + 1) (by omega) hj3 pt
  · intro F_2 l5_2 x1 x2 x3 x4 x5 x6 x7 x8 x9 x10 x11 x12 x13 x14 x15 k e1 h1 h2 h3 h4 h5 h6 h7 h8 h9 h10 h11 h12 h13 h14 h15 h16 h17 h18 h19 h20 h21 h22 h23 h24 h25 h26 h27 h28 h29 h30 h31 h32 h33 h34 h35 h36 h37 ih
    intro j hj hj2 hx
    have hB := hB2 b hb
    rw [← hc1] at hB
    obtain ⟨ll, nn, pp, ss, v1, ⟨g1, g2, g3⟩, v3, v4, v5, -⟩ := show rk_2 γ c1 (F_2 c1) from RS_o h2 hB
    have ex1 : x1 = rwL γ el q0 b := by
      rw [← h7, v1]
      show ll = γ 14 (el (γ 14 q0) b)
      rw [← hc1, g1]
    have m : γ 2 (rwL γ el q0 b) + 1 = Q.2.1 b := (hx.2.1 b hb).1
    rw [ex1] at h8
    have e3 : x3 = rAt γ el q0 b j := by
      rw [← h13, v1]
      show nn = _
      rw [show rAt γ el q0 b j = γ 15 (el (γ 14 q0) b) from if_neg (show ¬ j < γ 2 (rwL γ el q0 b) by omega), ← hc1, g2]
    have hj3 : j < Q.2.1 b := by omega
    have k3 := (rAt_k (j := j) h2 hc hcf (show b < γ 6 f by omega)).1
    rw [← e3] at k3
    have s3 : rwS (F_2 x3) := rwS_1 (RS_o h2 k3)
    have hl := hx.2.2 b hb j (show j ≤ γ 2 (rwL γ el q0 b) by omega)
    rw [← e3] at hl
    unfold lnQ at hl
    rw [pgRm_l] at hl
    have uA := uA_tr h17
    have uB := uB_tr h26
    have uS := ss_tr h31
    obtain ⟨z1, z10, z11, z12, z13, z14, z15, z16⟩ := cw_2 s3 h22
    obtain ⟨z2, z20, z21, z22, z23, z24, z25, z26⟩ := cw_1 z1 h36
    have f0 : fI (x14 x3) 0 = fI (F_2 x3) 0 := by rw [z20, z10]
    have f1 : fI (x14 x3) 1 = a2 := by rw [z21]
    have f2 : fI (x14 x3) 2 = a2 := by rw [z22, z12]
    have f3 : fI (x14 x3) 3 = fI (F_2 x3) 3 := by rw [z23, z13]
    have f4 : fI (x14 x3) 4 = fI (F_2 x3) 4 := by rw [z24, z14]
    have f5 : fI (x14 x3) 5 = fI (F_2 x3) 5 := by rw [z25, z15]
    have f6 : fI (x14 x3) 6 = fI (F_2 x3) 6 := by rw [z26, z16]
    have r14 : fI (F_2 x3) 0 = x4 := h14
    have r15 : fI (F_2 x3) 5 = x5 := h15
    have r19 : fI (F_2 x3) 2 = x7 := h19
    have r23 : fI (F_2 x3) 0 = x4 := by rw [← h23, z10]
    have r24 : fI (F_2 x3) 6 = x9 := by rw [← h24, z16]
    have r28 : fI (F_2 x3) 3 = x11 := by rw [← h28, z13]
    have r33 : fI (F_2 x3) 1 = x13 := by rw [← h33, z11]
    have nl := rn_ln hw hv (qk_l hO hb hj3) hl f0 f4 f5 f6 (by unfold chA; rw [r14, r15, r19]; exact Or.inl ⟨by omega, by rw [f2]⟩) (by unfold chB; rw [r14, r24, r28]; first | exact Or.inr ⟨by omega, f3.trans r28⟩ | exact Or.inr ⟨by omega, rfl⟩) (by unfold chT; rw [r14, r33]; exact Or.inl ⟨by omega, by rw [f1]⟩)
    have pt := rfX_put (F1 := x14) (Q := pgRm Q a1.toInt a2.toInt b j) (b := b) (j := j) (l := rnL a1.toInt a2.toInt (Q.2.2.1 b j)) h2 hc hcf hQ6 hx hB2 hb hj3 (by rw [← e3]; exact fun x hx2 => by rw [h35 x hx2, h21 x hx2]) (by rw [pgRm_l]; rfl) (by rw [← e3]; exact nl)
    rw [pgRm_s] at pt
    exact ih (j + 1) (by omega) hj3 pt
  · intro F_2 l5_2 x1 x2 x3 x4 x5 x6 x7 x8 x9 x10 x11 x12 x13 x14 k e1 h1 h2 h3 h4 h5 h6 h7 h8 h9 h10 h11 h12 h13 h14 h15 h16 h17 h18 h19 h20 h21 h22 h23 h24 h25 h26 h27 h28 h29 h30 h31 h32 h33 h34 h35 h36 ih
    intro j hj hj2 hx
    have hB := hB2 b hb
    rw [← hc1] at hB
    obtain ⟨ll, nn, pp, ss, v1, ⟨g1, g2, g3⟩, v3, v4, v5, -⟩ := show rk_2 γ c1 (F_2 c1) from RS_o h2 hB
    have ex1 : x1 = rwL γ el q0 b := by
      rw [← h7, v1]
      show ll = γ 14 (el (γ 14 q0) b)
      rw [← hc1, g1]
    have m : γ 2 (rwL γ el q0 b) + 1 = Q.2.1 b := (hx.2.1 b hb).1
    rw [ex1] at h8
    have e3 : x3 = rAt γ el q0 b j := by
      rw [← h13, v1]
      show nn = _
      rw [show rAt γ el q0 b j = γ 15 (el (γ 14 q0) b) from if_neg (show ¬ j < γ 2 (rwL γ el q0 b) by omega), ← hc1, g2]
    have hj3 : j < Q.2.1 b := by omega
    have k3 := (rAt_k (j := j) h2 hc hcf (show b < γ 6 f by omega)).1
    rw [← e3] at k3
    have s3 : rwS (F_2 x3) := rwS_1 (RS_o h2 k3)
    have hl := hx.2.2 b hb j (show j ≤ γ 2 (rwL γ el q0 b) by omega)
    rw [← e3] at hl
    unfold lnQ at hl
    rw [pgRm_l] at hl
    have uA := uA_tr h17
    have uB := uB_tr h26
    have uS := ss_tr h34
    obtain ⟨z1, z10, z11, z12, z13, z14, z15, z16⟩ := cw_2 s3 h22
    obtain ⟨z2, z20, z21, z22, z23, z24, z25, z26⟩ := cw_3 z1 h31
    have f0 : fI (x12 x3) 0 = fI (F_2 x3) 0 := by rw [z20, z10]
    have f1 : fI (x12 x3) 1 = fI (F_2 x3) 1 := by rw [z21, z11]
    have f2 : fI (x12 x3) 2 = a2 := by rw [z22, z12]
    have f3 : fI (x12 x3) 3 = a2 := by rw [z23]
    have f4 : fI (x12 x3) 4 = fI (F_2 x3) 4 := by rw [z24, z14]
    have f5 : fI (x12 x3) 5 = fI (F_2 x3) 5 := by rw [z25, z15]
    have f6 : fI (x12 x3) 6 = fI (F_2 x3) 6 := by rw [z26, z16]
    have r14 : fI (F_2 x3) 0 = x4 := h14
    have r15 : fI (F_2 x3) 5 = x5 := h15
    have r19 : fI (F_2 x3) 2 = x7 := h19
    have r23 : fI (F_2 x3) 0 = x4 := by rw [← h23, z10]
    have r24 : fI (F_2 x3) 6 = x9 := by rw [← h24, z16]
    have r28 : fI (F_2 x3) 3 = x11 := by rw [← h28, z13]
    have r32 : fI (F_2 x3) 0 = x4 := by rw [← h32, z20, z10]
    have nl := rn_ln hw hv (qk_l hO hb hj3) hl f0 f4 f5 f6 (by unfold chA; rw [r14, r15, r19]; exact Or.inl ⟨by omega, by rw [f2]⟩) (by unfold chB; rw [r14, r24, r28]; exact Or.inl ⟨by omega, by rw [f3]⟩) (by unfold chT; rw [r14]; exact Or.inr ⟨by omega, f1⟩)
    have pt := rfX_put (F1 := x12) (Q := pgRm Q a1.toInt a2.toInt b j) (b := b) (j := j) (l := rnL a1.toInt a2.toInt (Q.2.2.1 b j)) h2 hc hcf hQ6 hx hB2 hb hj3 (by rw [← e3]; exact fun x hx2 => by rw [h30 x hx2, h21 x hx2]) (by rw [pgRm_l]; rfl) (by rw [← e3]; exact nl)
    rw [pgRm_s] at pt
    exact ih (j + 1) (by omega) hj3 pt
  · intro F_2 l5_2 x1 x2 x3 x4 x5 x6 x7 x8 x9 x10 x11 x12 x13 x14 x15 k e1 h1 h2 h3 h4 h5 h6 h7 h8 h9 h10 h11 h12 h13 h14 h15 h16 h17 h18 h19 h20 h21 h22 h23 h24 h25 h26 h27 h28 h29 h30 h31 h32 h33 h34 h35 h36 h37 h38 ih
    intro j hj hj2 hx
    have hB := hB2 b hb
    rw [← hc1] at hB
    obtain ⟨ll, nn, pp, ss, v1, ⟨g1, g2, g3⟩, v3, v4, v5, -⟩ := show rk_2 γ c1 (F_2 c1) from RS_o h2 hB
    have ex1 : x1 = rwL γ el q0 b := by
      rw [← h7, v1]
      show ll = γ 14 (el (γ 14 q0) b)
      rw [← hc1, g1]
    have m : γ 2 (rwL γ el q0 b) + 1 = Q.2.1 b := (hx.2.1 b hb).1
    rw [ex1] at h8
    have e3 : x3 = rAt γ el q0 b j := by
      rw [← h13, v1]
      show nn = _
      rw [show rAt γ el q0 b j = γ 15 (el (γ 14 q0) b) from if_neg (show ¬ j < γ 2 (rwL γ el q0 b) by omega), ← hc1, g2]
    have hj3 : j < Q.2.1 b := by omega
    have k3 := (rAt_k (j := j) h2 hc hcf (show b < γ 6 f by omega)).1
    rw [← e3] at k3
    have s3 : rwS (F_2 x3) := rwS_1 (RS_o h2 k3)
    have hl := hx.2.2 b hb j (show j ≤ γ 2 (rwL γ el q0 b) by omega)
    rw [← e3] at hl
    unfold lnQ at hl
    rw [pgRm_l] at hl
    have uA := uA_tr h17
    have uB := uB_tr h26
    have uS := ss_tr h34
    obtain ⟨z1, z10, z11, z12, z13, z14, z15, z16⟩ := cw_2 s3 h22
    obtain ⟨z2, z20, z21, z22, z23, z24, z25, z26⟩ := cw_3 z1 h31
    have f0 : fI (x12 x3) 0 = fI (F_2 x3) 0 := by rw [z20, z10]
    have f1 : fI (x12 x3) 1 = fI (F_2 x3) 1 := by rw [z21, z11]
    have f2 : fI (x12 x3) 2 = a2 := by rw [z22, z12]
    have f3 : fI (x12 x3) 3 = a2 := by rw [z23]
    have f4 : fI (x12 x3) 4 = fI (F_2 x3) 4 := by rw [z24, z14]
    have f5 : fI (x12 x3) 5 = fI (F_2 x3) 5 := by rw [z25, z15]
    have f6 : fI (x12 x3) 6 = fI (F_2 x3) 6 := by rw [z26, z16]
    have r14 : fI (F_2 x3) 0 = x4 := h14
    have r15 : fI (F_2 x3) 5 = x5 := h15
    have r19 : fI (F_2 x3) 2 = x7 := h19
    have r23 : fI (F_2 x3) 0 = x4 := by rw [← h23, z10]
    have r24 : fI (F_2 x3) 6 = x9 := by rw [← h24, z16]
    have r28 : fI (F_2 x3) 3 = x11 := by rw [← h28, z13]
    have r32 : fI (F_2 x3) 0 = x4 := by rw [← h32, z20, z10]
    have r36 : fI (F_2 x3) 1 = x14 := by rw [← h36, z21, z11]
    have nl := rn_ln hw hv (qk_l hO hb hj3) hl f0 f4 f5 f6 (by unfold chA; rw [r14, r15, r19]; exact Or.inl ⟨by omega, by rw [f2]⟩) (by unfold chB; rw [r14, r24, r28]; exact Or.inl ⟨by omega, by rw [f3]⟩) (by unfold chT; rw [r14, r36]; first | exact Or.inr ⟨by omega, f1.trans r36⟩ | exact Or.inr ⟨by omega, rfl⟩)
    have pt := rfX_put (F1 := x12) (Q := pgRm Q a1.toInt a2.toInt b j) (b := b) (j := j) (l := rnL a1.toInt a2.toInt (Q.2.2.1 b j)) h2 hc hcf hQ6 hx hB2 hb hj3 (by rw [← e3]; exact fun x hx2 => by rw [h30 x hx2, h21 x hx2]) (by rw [pgRm_l]; rfl) (by rw [← e3]; exact nl)
    rw [pgRm_s] at pt
    exact ih (j + 1) (by omega) hj3 pt
  · intro F_2 l5_2 x1 x2 x3 x4 x5 x6 x7 x8 x9 x10 x11 x12 x13 x14 x15 x16 k e1 h1 h2 h3 h4 h5 h6 h7 h8 h9 h10 h11 h12 h13 h14 h15 h16 h17 h18 h19 h20 h21 h22 h23 h24 h25 h26 h27 h28 h29 h30 h31 h32 h33 h34 h35 h36 h37 h38 h39 h40 ih
    intro j hj hj2 hx
    have hB := hB2 b hb
    rw [← hc1] at hB
    obtain ⟨ll, nn, pp, ss, v1, ⟨g1, g2, g3⟩, v3, v4, v5, -⟩ := show rk_2 γ c1 (F_2 c1) from RS_o h2 hB
    have ex1 : x1 = rwL γ el q0 b := by
      rw [← h7, v1]
      show ll = γ 14 (el (γ 14 q0) b)
      rw [← hc1, g1]
    have m : γ 2 (rwL γ el q0 b) + 1 = Q.2.1 b := (hx.2.1 b hb).1
    rw [ex1] at h8
    have e3 : x3 = rAt γ el q0 b j := by
      rw [← h13, v1]
      show nn = _
      rw [show rAt γ el q0 b j = γ 15 (el (γ 14 q0) b) from if_neg (show ¬ j < γ 2 (rwL γ el q0 b) by omega), ← hc1, g2]
    have hj3 : j < Q.2.1 b := by omega
    have k3 := (rAt_k (j := j) h2 hc hcf (show b < γ 6 f by omega)).1
    rw [← e3] at k3
    have s3 : rwS (F_2 x3) := rwS_1 (RS_o h2 k3)
    have hl := hx.2.2 b hb j (show j ≤ γ 2 (rwL γ el q0 b) by omega)
    rw [← e3] at hl
    unfold lnQ at hl
    rw [pgRm_l] at hl
    have uA := uA_tr h17
    have uB := uB_tr h26
    have uS := ss_tr h34
    obtain ⟨z1, z10, z11, z12, z13, z14, z15, z16⟩ := cw_2 s3 h22
    obtain ⟨z2, z20, z21, z22, z23, z24, z25, z26⟩ := cw_3 z1 h31
    obtain ⟨z3, z30, z31, z32, z33, z34, z35, z36⟩ := cw_1 z2 h39
    have f0 : fI (x15 x3) 0 = fI (F_2 x3) 0 := by rw [z30, z20, z10]
    have f1 : fI (x15 x3) 1 = a2 := by rw [z31]
    have f2 : fI (x15 x3) 2 = a2 := by rw [z32, z22, z12]
    have f3 : fI (x15 x3) 3 = a2 := by rw [z33, z23]
    have f4 : fI (x15 x3) 4 = fI (F_2 x3) 4 := by rw [z34, z24, z14]
    have f5 : fI (x15 x3) 5 = fI (F_2 x3) 5 := by rw [z35, z25, z15]
    have f6 : fI (x15 x3) 6 = fI (F_2 x3) 6 := by rw [z36, z26, z16]
    have r14 : fI (F_2 x3) 0 = x4 := h14
    have r15 : fI (F_2 x3) 5 = x5 := h15
    have r19 : fI (F_2 x3) 2 = x7 := h19
    have r23 : fI (F_2 x3) 0 = x4 := by rw [← h23, z10]
    have r24 : fI (F_2 x3) 6 = x9 := by rw [← h24, z16]
    have r28 : fI (F_2 x3) 3 = x11 := by rw [← h28, z13]
    have r32 : fI (F_2 x3) 0 = x4 := by rw [← h32, z20, z10]
    have r36 : fI (F_2 x3) 1 = x14 := by rw [← h36, z21, z11]
    have nl := rn_ln hw hv (qk_l hO hb hj3) hl f0 f4 f5 f6 (by unfold chA; rw [r14, r15, r19]; exact Or.inl ⟨by omega, by rw [f2]⟩) (by unfold chB; rw [r14, r24, r28]; exact Or.inl ⟨by omega, by rw [f3]⟩) (by unfold chT; rw [r14, r36]; exact Or.inl ⟨by omega, by rw [f1]⟩)
    have pt := rfX_put (F1 := x15) (Q := pgRm Q a1.toInt a2.toInt b j) (b := b) (j := j) (l := rnL a1.toInt a2.toInt (Q.2.2.1 b j)) h2 hc hcf hQ6 hx hB2 hb hj3 (by rw [← e3]; exact fun x hx2 => by rw [h38 x hx2, h30 x hx2, h21 x hx2]) (by rw [pgRm_l]; rfl) (by rw [← e3]; exact nl)
    rw [pgRm_s] at pt
    exact ih (j + 1) (by omega) hj3 pt
  · intro F_2 l5_2 x1 x2 x3 x4 x5 x6 x7 x8 x9 x10 k e1 h1 h2 h3 h4 h5 h6 h7 h8 h9 h10 h11 h12 h13 h14 h15 h16 h17 h18 h19 h20 h21 h22 h23 h24 h25 h26 h27 ih
    intro j hj hj2 hx
    have hB := hB2 b hb
    rw [← hc1] at hB
    obtain ⟨ll, nn, pp, ss, v1, ⟨g1, g2, g3⟩, v3, v4, v5, -⟩ := show rk_2 γ c1 (F_2 c1) from RS_o h2 hB
    have ex1 : x1 = rwL γ el q0 b := by
      rw [← h7, v1]
      show ll = γ 14 (el (γ 14 q0) b)
      rw [← hc1, g1]
    have m : γ 2 (rwL γ el q0 b) + 1 = Q.2.1 b := (hx.2.1 b hb).1
    rw [ex1] at h8
    have e3 : x3 = rAt γ el q0 b j := by
      rw [h13, ex1, show l5_2.toInt.toNat = j by rw [hj]; rfl]
      exact (if_pos (show j < γ 2 (rwL γ el q0 b) by omega)).symm
    have hj3 : j < Q.2.1 b := by omega
    have k3 := (rAt_k (j := j) h2 hc hcf (show b < γ 6 f by omega)).1
    rw [← e3] at k3
    have s3 : rwS (F_2 x3) := rwS_1 (RS_o h2 k3)
    have hl := hx.2.2 b hb j (show j ≤ γ 2 (rwL γ el q0 b) by omega)
    rw [← e3] at hl
    unfold lnQ at hl
    rw [pgRm_l] at hl
    have uA := uA_tr h18
    have uB := uB_tr h22
    have uS := ss_tr h25
    have f0 : fI (F_2 x3) 0 = fI (F_2 x3) 0 := rfl
    have f1 : fI (F_2 x3) 1 = fI (F_2 x3) 1 := rfl
    have f2 : fI (F_2 x3) 2 = fI (F_2 x3) 2 := rfl
    have f3 : fI (F_2 x3) 3 = fI (F_2 x3) 3 := rfl
    have f4 : fI (F_2 x3) 4 = fI (F_2 x3) 4 := rfl
    have f5 : fI (F_2 x3) 5 = fI (F_2 x3) 5 := rfl
    have f6 : fI (F_2 x3) 6 = fI (F_2 x3) 6 := rfl
    have r15 : fI (F_2 x3) 0 = x4 := h15
    have r16 : fI (F_2 x3) 5 = x5 := h16
    have r20 : fI (F_2 x3) 6 = x7 := h20
    have nl := rn_ln hw hv (qk_l hO hb hj3) hl f0 f4 f5 f6 (by unfold chA; rw [r15, r16]; exact Or.inr ⟨by omega, f2⟩) (by unfold chB; rw [r15, r20]; exact Or.inr ⟨by omega, f3⟩) (by unfold chT; rw [r15]; exact Or.inr ⟨by omega, f1⟩)
    have pt := rfX_put (F1 := F_2) (Q := pgRm Q a1.toInt a2.toInt b j) (b := b) (j := j) (l := rnL a1.toInt a2.toInt (Q.2.2.1 b j)) h2 hc hcf hQ6 hx hB2 hb hj3 (by rw [← e3]; exact fun x hx2 => rfl) (by rw [pgRm_l]; rfl) (by rw [← e3]; exact nl)
    rw [pgRm_s] at pt
    exact ih (j + 1) (by omega) hj3 pt
  · intro F_2 l5_2 x1 x2 x3 x4 x5 x6 x7 x8 x9 x10 x11 k e1 h1 h2 h3 h4 h5 h6 h7 h8 h9 h10 h11 h12 h13 h14 h15 h16 h17 h18 h19 h20 h21 h22 h23 h24 h25 h26 h27 h28 h29 ih
    intro j hj hj2 hx
    have hB := hB2 b hb
    rw [← hc1] at hB
    obtain ⟨ll, nn, pp, ss, v1, ⟨g1, g2, g3⟩, v3, v4, v5, -⟩ := show rk_2 γ c1 (F_2 c1) from RS_o h2 hB
    have ex1 : x1 = rwL γ el q0 b := by
      rw [← h7, v1]
      show ll = γ 14 (el (γ 14 q0) b)
      rw [← hc1, g1]
    have m : γ 2 (rwL γ el q0 b) + 1 = Q.2.1 b := (hx.2.1 b hb).1
    rw [ex1] at h8
    have e3 : x3 = rAt γ el q0 b j := by
      rw [h13, ex1, show l5_2.toInt.toNat = j by rw [hj]; rfl]
      exact (if_pos (show j < γ 2 (rwL γ el q0 b) by omega)).symm
    have hj3 : j < Q.2.1 b := by omega
    have k3 := (rAt_k (j := j) h2 hc hcf (show b < γ 6 f by omega)).1
    rw [← e3] at k3
    have s3 : rwS (F_2 x3) := rwS_1 (RS_o h2 k3)
    have hl := hx.2.2 b hb j (show j ≤ γ 2 (rwL γ el q0 b) by omega)
    rw [← e3] at hl
    unfold lnQ at hl
    rw [pgRm_l] at hl
    have uA := uA_tr h18
    have uB := uB_tr h22
    have uS := ss_tr h25
    have f0 : fI (F_2 x3) 0 = fI (F_2 x3) 0 := rfl
    have f1 : fI (F_2 x3) 1 = fI (F_2 x3) 1 := rfl
    have f2 : fI (F_2 x3) 2 = fI (F_2 x3) 2 := rfl
    have f3 : fI (F_2 x3) 3 = fI (F_2 x3) 3 := rfl
    have f4 : fI (F_2 x3) 4 = fI (F_2 x3) 4 := rfl
    have f5 : fI (F_2 x3) 5 = fI (F_2 x3) 5 := rfl
    have f6 : fI (F_2 x3) 6 = fI (F_2 x3) 6 := rfl
    have r15 : fI (F_2 x3) 0 = x4 := h15
    have r16 : fI (F_2 x3) 5 = x5 := h16
    have r20 : fI (F_2 x3) 6 = x7 := h20
    have r27 : fI (F_2 x3) 1 = x10 := h27
    have nl := rn_ln hw hv (qk_l hO hb hj3) hl f0 f4 f5 f6 (by unfold chA; rw [r15, r16]; exact Or.inr ⟨by omega, f2⟩) (by unfold chB; rw [r15, r20]; exact Or.inr ⟨by omega, f3⟩) (by unfold chT; rw [r15, r27]; first | exact Or.inr ⟨by omega, f1.trans r27⟩ | exact Or.inr ⟨by omega, rfl⟩)
    have pt := rfX_put (F1 := F_2) (Q := pgRm Q a1.toInt a2.toInt b j) (b := b) (j := j) (l := rnL a1.toInt a2.toInt (Q.2.2.1 b j)) h2 hc hcf hQ6 hx hB2 hb hj3 (by rw [← e3]; exact fun x hx2 => rfl) (by rw [pgRm_l]; rfl) (by rw [← e3]; exact nl)
    rw [pgRm_s] at pt
    exact ih (j + 1) (by omega) hj3 pt
  · intro F_2 l5_2 x1 x2 x3 x4 x5 x6 x7 x8 x9 x10 x11 x12 k e1 h1 h2 h3 h4 h5 h6 h7 h8 h9 h10 h11 h12 h13 h14 h15 h16 h17 h18 h19 h20 h21 h22 h23 h24 h25 h26 h27 h28 h29 h30 h31 ih
    intro j hj hj2 hx
    have hB := hB2 b hb
    rw [← hc1] at hB
    obtain ⟨ll, nn, pp, ss, v1, ⟨g1, g2, g3⟩, v3, v4, v5, -⟩ := show rk_2 γ c1 (F_2 c1) from RS_o h2 hB
    have ex1 : x1 = rwL γ el q0 b := by
      rw [← h7, v1]
      show ll = γ 14 (el (γ 14 q0) b)
      rw [← hc1, g1]
    have m : γ 2 (rwL γ el q0 b) + 1 = Q.2.1 b := (hx.2.1 b hb).1
    rw [ex1] at h8
    have e3 : x3 = rAt γ el q0 b j := by
      rw [h13, ex1, show l5_2.toInt.toNat = j by rw [hj]; rfl]
      exact (if_pos (show j < γ 2 (rwL γ el q0 b) by omega)).symm
    have hj3 : j < Q.2.1 b := by omega
    have k3 := (rAt_k (j := j) h2 hc hcf (show b < γ 6 f by omega)).1
    rw [← e3] at k3
    have s3 : rwS (F_2 x3) := rwS_1 (RS_o h2 k3)
    have hl := hx.2.2 b hb j (show j ≤ γ 2 (rwL γ el q0 b) by omega)
    rw [← e3] at hl
    unfold lnQ at hl
    rw [pgRm_l] at hl
    have uA := uA_tr h18
    have uB := uB_tr h22
    have uS := ss_tr h25
    obtain ⟨z1, z10, z11, z12, z13, z14, z15, z16⟩ := cw_1 s3 h30
    have f0 : fI (x11 x3) 0 = fI (F_2 x3) 0 := by rw [z10]
    have f1 : fI (x11 x3) 1 = a2 := by rw [z11]
    have f2 : fI (x11 x3) 2 = fI (F_2 x3) 2 := by rw [z12]
    have f3 : fI (x11 x3) 3 = fI (F_2 x3) 3 := by rw [z13]
    have f4 : fI (x11 x3) 4 = fI (F_2 x3) 4 := by rw [z14]
    have f5 : fI (x11 x3) 5 = fI (F_2 x3) 5 := by rw [z15]
    have f6 : fI (x11 x3) 6 = fI (F_2 x3) 6 := by rw [z16]
    have r15 : fI (F_2 x3) 0 = x4 := h15
    have r16 : fI (F_2 x3) 5 = x5 := h16
    have r20 : fI (F_2 x3) 6 = x7 := h20
    have r27 : fI (F_2 x3) 1 = x10 := h27
    have nl := rn_ln hw hv (qk_l hO hb hj3) hl f0 f4 f5 f6 (by unfold chA; rw [r15, r16]; exact Or.inr ⟨by omega, f2⟩) (by unfold chB; rw [r15, r20]; exact Or.inr ⟨by omega, f3⟩) (by unfold chT; rw [r15, r27]; exact Or.inl ⟨by omega, by rw [f1]⟩)
    have pt := rfX_put (F1 := x11) (Q := pgRm Q a1.toInt a2.toInt b j) (b := b) (j := j) (l := rnL a1.toInt a2.toInt (Q.2.2.1 b j)) h2 hc hcf hQ6 hx hB2 hb hj3 (by rw [← e3]; exact fun x hx2 => by rw [h29 x hx2]) (by rw [pgRm_l]; rfl) (by rw [← e3]; exact nl)
    rw [pgRm_s] at pt
    exact ih (j + 1) (by omega) hj3 pt
  · intro F_2 l5_2 x1 x2 x3 x4 x5 x6 x7 x8 x9 x10 x11 k e1 h1 h2 h3 h4 h5 h6 h7 h8 h9 h10 h11 h12 h13 h14 h15 h16 h17 h18 h19 h20 h21 h22 h23 h24 h25 h26 h27 h28 h29 ih
    intro j hj hj2 hx
    have hB := hB2 b hb
    rw [← hc1] at hB
    obtain ⟨ll, nn, pp, ss, v1, ⟨g1, g2, g3⟩, v3, v4, v5, -⟩ := show rk_2 γ c1 (F_2 c1) from RS_o h2 hB
    have ex1 : x1 = rwL γ el q0 b := by
      rw [← h7, v1]
      show ll = γ 14 (el (γ 14 q0) b)
      rw [← hc1, g1]
    have m : γ 2 (rwL γ el q0 b) + 1 = Q.2.1 b := (hx.2.1 b hb).1
    rw [ex1] at h8
    have e3 : x3 = rAt γ el q0 b j := by
      rw [h13, ex1, show l5_2.toInt.toNat = j by rw [hj]; rfl]
      exact (if_pos (show j < γ 2 (rwL γ el q0 b) by omega)).symm
    have hj3 : j < Q.2.1 b := by omega
    have k3 := (rAt_k (j := j) h2 hc hcf (show b < γ 6 f by omega)).1
    rw [← e3] at k3
    have s3 : rwS (F_2 x3) := rwS_1 (RS_o h2 k3)
    have hl := hx.2.2 b hb j (show j ≤ γ 2 (rwL γ el q0 b) by omega)
    rw [← e3] at hl
    unfold lnQ at hl
    rw [pgRm_l] at hl
    have uA := uA_tr h18
    have uB := uB_tr h22
    have uS := ss_tr h27
    have f0 : fI (F_2 x3) 0 = fI (F_2 x3) 0 := rfl
    have f1 : fI (F_2 x3) 1 = fI (F_2 x3) 1 := rfl
    have f2 : fI (F_2 x3) 2 = fI (F_2 x3) 2 := rfl
    have f3 : fI (F_2 x3) 3 = fI (F_2 x3) 3 := rfl
    have f4 : fI (F_2 x3) 4 = fI (F_2 x3) 4 := rfl
    have f5 : fI (F_2 x3) 5 = fI (F_2 x3) 5 := rfl
    have f6 : fI (F_2 x3) 6 = fI (F_2 x3) 6 := rfl
    have r15 : fI (F_2 x3) 0 = x4 := h15
    have r16 : fI (F_2 x3) 5 = x5 := h16
    have r20 : fI (F_2 x3) 6 = x7 := h20
    have r24 : fI (F_2 x3) 3 = x9 := h24
    have nl := rn_ln hw hv (qk_l hO hb hj3) hl f0 f4 f5 f6 (by unfold chA; rw [r15, r16]; exact Or.inr ⟨by omega, f2⟩) (by unfold chB; rw [r15, r20, r24]; first | exact Or.inr ⟨by omega, f3.trans r24⟩ | exact Or.inr ⟨by omega, rfl⟩) (by unfold chT; rw [r15]; exact Or.inr ⟨by omega, f1⟩)
    have pt := rfX_put (F1 := F_2) (Q := pgRm Q a1.toInt a2.toInt b j) (b := b) (j := j) (l := rnL a1.toInt a2.toInt (Q.2.2.1 b j)) h2 hc hcf hQ6 hx hB2 hb hj3 (by rw [← e3]; exact fun x hx2 => rfl) (by rw [pgRm_l]; rfl) (by rw [← e3]; exact nl)
    rw [pgRm_s] at pt
    exact ih (j + 1) (by omega) hj3 pt
  · intro F_2 l5_2 x1 x2 x3 x4 x5 x6 x7 x8 x9 x10 x11 x12 k e1 h1 h2 h3 h4 h5 h6 h7 h8 h9 h10 h11 h12 h13 h14 h15 h16 h17 h18 h19 h20 h21 h22 h23 h24 h25 h26 h27 h28 h29 h30 h31 ih
    intro j hj hj2 hx
    have hB := hB2 b hb
    rw [← hc1] at hB
    obtain ⟨ll, nn, pp, ss, v1, ⟨g1, g2, g3⟩, v3, v4, v5, -⟩ := show rk_2 γ c1 (F_2 c1) from RS_o h2 hB
    have ex1 : x1 = rwL γ el q0 b := by
      rw [← h7, v1]
      show ll = γ 14 (el (γ 14 q0) b)
      rw [← hc1, g1]
    have m : γ 2 (rwL γ el q0 b) + 1 = Q.2.1 b := (hx.2.1 b hb).1
    rw [ex1] at h8
    have e3 : x3 = rAt γ el q0 b j := by
      rw [h13, ex1, show l5_2.toInt.toNat = j by rw [hj]; rfl]
      exact (if_pos (show j < γ 2 (rwL γ el q0 b) by omega)).symm
    have hj3 : j < Q.2.1 b := by omega
    have k3 := (rAt_k (j := j) h2 hc hcf (show b < γ 6 f by omega)).1
    rw [← e3] at k3
    have s3 : rwS (F_2 x3) := rwS_1 (RS_o h2 k3)
    have hl := hx.2.2 b hb j (show j ≤ γ 2 (rwL γ el q0 b) by omega)
    rw [← e3] at hl
    unfold lnQ at hl
    rw [pgRm_l] at hl
    have uA := uA_tr h18
    have uB := uB_tr h22
    have uS := ss_tr h27
    have f0 : fI (F_2 x3) 0 = fI (F_2 x3) 0 := rfl
    have f1 : fI (F_2 x3) 1 = fI (F_2 x3) 1 := rfl
    have f2 : fI (F_2 x3) 2 = fI (F_2 x3) 2 := rfl
    have f3 : fI (F_2 x3) 3 = fI (F_2 x3) 3 := rfl
    have f4 : fI (F_2 x3) 4 = fI (F_2 x3) 4 := rfl
    have f5 : fI (F_2 x3) 5 = fI (F_2 x3) 5 := rfl
    have f6 : fI (F_2 x3) 6 = fI (F_2 x3) 6 := rfl
    have r15 : fI (F_2 x3) 0 = x4 := h15
    have r16 : fI (F_2 x3) 5 = x5 := h16
    have r20 : fI (F_2 x3) 6 = x7 := h20
    have r24 : fI (F_2 x3) 3 = x9 := h24
    have r29 : fI (F_2 x3) 1 = x11 := h29
    have nl := rn_ln hw hv (qk_l hO hb hj3) hl f0 f4 f5 f6 (by unfold chA; rw [r15, r16]; exact Or.inr ⟨by omega, f2⟩) (by unfold chB; rw [r15, r20, r24]; first | exact Or.inr ⟨by omega, f3.trans r24⟩ | exact Or.inr ⟨by omega, rfl⟩) (by unfold chT; rw [r15, r29]; first | exact Or.inr ⟨by omega, f1.trans r29⟩ | exact Or.inr ⟨by omega, rfl⟩)
    have pt := rfX_put (F1 := F_2) (Q := pgRm Q a1.toInt a2.toInt b j) (b := b) (j := j) (l := rnL a1.toInt a2.toInt (Q.2.2.1 b j)) h2 hc hcf hQ6 hx hB2 hb hj3 (by rw [← e3]; exact fun x hx2 => rfl) (by rw [pgRm_l]; rfl) (by rw [← e3]; exact nl)
    rw [pgRm_s] at pt
    exact ih (j + 1) (by omega) hj3 pt
  · intro F_2 l5_2 x1 x2 x3 x4 x5 x6 x7 x8 x9 x10 x11 x12 x13 k e1 h1 h2 h3 h4 h5 h6 h7 h8 h9 h10 h11 h12 h13 h14 h15 h16 h17 h18 h19 h20 h21 h22 h23 h24 h25 h26 h27 h28 h29 h30 h31 h32 h33 ih
    intro j hj hj2 hx
    have hB := hB2 b hb
    rw [← hc1] at hB
    obtain ⟨ll, nn, pp, ss, v1, ⟨g1, g2, g3⟩, v3, v4, v5, -⟩ := show rk_2 γ c1 (F_2 c1) from RS_o h2 hB
    have ex1 : x1 = rwL γ el q0 b := by
      rw [← h7, v1]
      show ll = γ 14 (el (γ 14 q0) b)
      rw [← hc1, g1]
    have m : γ 2 (rwL γ el q0 b) + 1 = Q.2.1 b := (hx.2.1 b hb).1
    rw [ex1] at h8
    have e3 : x3 = rAt γ el q0 b j := by
      rw [h13, ex1, show l5_2.toInt.toNat = j by rw [hj]; rfl]
      exact (if_pos (show j < γ 2 (rwL γ el q0 b) by omega)).symm
    have hj3 : j < Q.2.1 b := by omega
    have k3 := (rAt_k (j := j) h2 hc hcf (show b < γ 6 f by omega)).1
    rw [← e3] at k3
    have s3 : rwS (F_2 x3) := rwS_1 (RS_o h2 k3)
    have hl := hx.2.2 b hb j (show j ≤ γ 2 (rwL γ el q0 b) by omega)
    rw [← e3] at hl
    unfold lnQ at hl
    rw [pgRm_l] at hl
    have uA := uA_tr h18
    have uB := uB_tr h22
    have uS := ss_tr h27
    obtain ⟨z1, z10, z11, z12, z13, z14, z15, z16⟩ := cw_1 s3 h32
    have f0 : fI (x12 x3) 0 = fI (F_2 x3) 0 := by rw [z10]
    have f1 : fI (x12 x3) 1 = a2 := by rw [z11]
    have f2 : fI (x12 x3) 2 = fI (F_2 x3) 2 := by rw [z12]
    have f3 : fI (x12 x3) 3 = fI (F_2 x3) 3 := by rw [z13]
    have f4 : fI (x12 x3) 4 = fI (F_2 x3) 4 := by rw [z14]
    have f5 : fI (x12 x3) 5 = fI (F_2 x3) 5 := by rw [z15]
    have f6 : fI (x12 x3) 6 = fI (F_2 x3) 6 := by rw [z16]
    have r15 : fI (F_2 x3) 0 = x4 := h15
    have r16 : fI (F_2 x3) 5 = x5 := h16
    have r20 : fI (F_2 x3) 6 = x7 := h20
    have r24 : fI (F_2 x3) 3 = x9 := h24
    have r29 : fI (F_2 x3) 1 = x11 := h29
    have nl := rn_ln hw hv (qk_l hO hb hj3) hl f0 f4 f5 f6 (by unfold chA; rw [r15, r16]; exact Or.inr ⟨by omega, f2⟩) (by unfold chB; rw [r15, r20, r24]; first | exact Or.inr ⟨by omega, f3.trans r24⟩ | exact Or.inr ⟨by omega, rfl⟩) (by unfold chT; rw [r15, r29]; exact Or.inl ⟨by omega, by rw [f1]⟩)
    have pt := rfX_put (F1 := x12) (Q := pgRm Q a1.toInt a2.toInt b j) (b := b) (j := j) (l := rnL a1.toInt a2.toInt (Q.2.2.1 b j)) h2 hc hcf hQ6 hx hB2 hb hj3 (by rw [← e3]; exact fun x hx2 => by rw [h31 x hx2]) (by rw [pgRm_l]; rfl) (by rw [← e3]; exact nl)
    rw [pgRm_s] at pt
    exact ih (j + 1) (by omega) hj3 pt
  · intro F_2 l5_2 x1 x2 x3 x4 x5 x6 x7 x8 x9 x10 x11 x12 k e1 h1 h2 h3 h4 h5 h6 h7 h8 h9 h10 h11 h12 h13 h14 h15 h16 h17 h18 h19 h20 h21 h22 h23 h24 h25 h26 h27 h28 h29 h30 h31 h32 ih
    intro j hj hj2 hx
    have hB := hB2 b hb
    rw [← hc1] at hB
    obtain ⟨ll, nn, pp, ss, v1, ⟨g1, g2, g3⟩, v3, v4, v5, -⟩ := show rk_2 γ c1 (F_2 c1) from RS_o h2 hB
    have ex1 : x1 = rwL γ el q0 b := by
      rw [← h7, v1]
      show ll = γ 14 (el (γ 14 q0) b)
      rw [← hc1, g1]
    have m : γ 2 (rwL γ el q0 b) + 1 = Q.2.1 b := (hx.2.1 b hb).1
    rw [ex1] at h8
    have e3 : x3 = rAt γ el q0 b j := by
      rw [h13, ex1, show l5_2.toInt.toNat = j by rw [hj]; rfl]
      exact (if_pos (show j < γ 2 (rwL γ el q0 b) by omega)).symm
    have hj3 : j < Q.2.1 b := by omega
    have k3 := (rAt_k (j := j) h2 hc hcf (show b < γ 6 f by omega)).1
    rw [← e3] at k3
    have s3 : rwS (F_2 x3) := rwS_1 (RS_o h2 k3)
    have hl := hx.2.2 b hb j (show j ≤ γ 2 (rwL γ el q0 b) by omega)
    rw [← e3] at hl
    unfold lnQ at hl
    rw [pgRm_l] at hl
    have uA := uA_tr h18
    have uB := uB_tr h22
    have uS := ss_tr h30
    obtain ⟨z1, z10, z11, z12, z13, z14, z15, z16⟩ := cw_3 s3 h27
    have f0 : fI (x10 x3) 0 = fI (F_2 x3) 0 := by rw [z10]
    have f1 : fI (x10 x3) 1 = fI (F_2 x3) 1 := by rw [z11]
    have f2 : fI (x10 x3) 2 = fI (F_2 x3) 2 := by rw [z12]
    have f3 : fI (x10 x3) 3 = a2 := by rw [z13]
    have f4 : fI (x10 x3) 4 = fI (F_2 x3) 4 := by rw [z14]
    have f5 : fI (x10 x3) 5 = fI (F_2 x3) 5 := by rw [z15]
    have f6 : fI (x10 x3) 6 = fI (F_2 x3) 6 := by rw [z16]
    have r15 : fI (F_2 x3) 0 = x4 := h15
    have r16 : fI (F_2 x3) 5 = x5 := h16
    have r20 : fI (F_2 x3) 6 = x7 := h20
    have r24 : fI (F_2 x3) 3 = x9 := h24
    have r28 : fI (F_2 x3) 0 = x4 := by rw [← h28, z10]
    have nl := rn_ln hw hv (qk_l hO hb hj3) hl f0 f4 f5 f6 (by unfold chA; rw [r15, r16]; exact Or.inr ⟨by omega, f2⟩) (by unfold chB; rw [r15, r20, r24]; exact Or.inl ⟨by omega, by rw [f3]⟩) (by unfold chT; rw [r15]; exact Or.inr ⟨by omega, f1⟩)
    have pt := rfX_put (F1 := x10) (Q := pgRm Q a1.toInt a2.toInt b j) (b := b) (j := j) (l := rnL a1.toInt a2.toInt (Q.2.2.1 b j)) h2 hc hcf hQ6 hx hB2 hb hj3 (by rw [← e3]; exact fun x hx2 => by rw [h26 x hx2]) (by rw [pgRm_l]; rfl) (by rw [← e3]; exact nl)
    rw [pgRm_s] at pt
    exact ih (j + 1) (by omega) hj3 pt
  · intro F_2 l5_2 x1 x2 x3 x4 x5 x6 x7 x8 x9 x10 x11 x12 x13 k e1 h1 h2 h3 h4 h5 h6 h7 h8 h9 h10 h11 h12 h13 h14 h15 h16 h17 h18 h19 h20 h21 h22 h23 h24 h25 h26 h27 h28 h29 h30 h31 h32 h33 h34 ih
    intro j hj hj2 hx
    have hB := hB2 b hb
    rw [← hc1] at hB
    obtain ⟨ll, nn, pp, ss, v1, ⟨g1, g2, g3⟩, v3, v4, v5, -⟩ := show rk_2 γ c1 (F_2 c1) from RS_o h2 hB
    have ex1 : x1 = rwL γ el q0 b := by
      rw [← h7, v1]
      show ll = γ 14 (el (γ 14 q0) b)
      rw [← hc1, g1]
    have m : γ 2 (rwL γ el q0 b) + 1 = Q.2.1 b := (hx.2.1 b hb).1
    rw [ex1] at h8
    have e3 : x3 = rAt γ el q0 b j := by
      rw [h13, ex1, show l5_2.toInt.toNat = j by rw [hj]; rfl]
      exact (if_pos (show j < γ 2 (rwL γ el q0 b) by omega)).symm
    have hj3 : j < Q.2.1 b := by omega
    have k3 := (rAt_k (j := j) h2 hc hcf (show b < γ 6 f by omega)).1
    rw [← e3] at k3
    have s3 : rwS (F_2 x3) := rwS_1 (RS_o h2 k3)
    have hl := hx.2.2 b hb j (show j ≤ γ 2 (rwL γ el q0 b) by omega)
    rw [← e3] at hl
    unfold lnQ at hl
    rw [pgRm_l] at hl
    have uA := uA_tr h18
    have uB := uB_tr h22
    have uS := ss_tr h30
    obtain ⟨z1, z10, z11, z12, z13, z14, z15, z16⟩ := cw_3 s3 h27
    have f0 : fI (x10 x3) 0 = fI (F_2 x3) 0 := by rw [z10]
    have f1 : fI (x10 x3) 1 = fI (F_2 x3) 1 := by rw [z11]
    have f2 : fI (x10 x3) 2 = fI (F_2 x3) 2 := by rw [z12]
    have f3 : fI (x10 x3) 3 = a2 := by rw [z13]
    have f4 : fI (x10 x3) 4 = fI (F_2 x3) 4 := by rw [z14]
    have f5 : fI (x10 x3) 5 = fI (F_2 x3) 5 := by rw [z15]
    have f6 : fI (x10 x3) 6 = fI (F_2 x3) 6 := by rw [z16]
    have r15 : fI (F_2 x3) 0 = x4 := h15
    have r16 : fI (F_2 x3) 5 = x5 := h16
    have r20 : fI (F_2 x3) 6 = x7 := h20
    have r24 : fI (F_2 x3) 3 = x9 := h24
    have r28 : fI (F_2 x3) 0 = x4 := by rw [← h28, z10]
    have r32 : fI (F_2 x3) 1 = x12 := by rw [← h32, z11]
    have nl := rn_ln hw hv (qk_l hO hb hj3) hl f0 f4 f5 f6 (by unfold chA; rw [r15, r16]; exact Or.inr ⟨by omega, f2⟩) (by unfold chB; rw [r15, r20, r24]; exact Or.inl ⟨by omega, by rw [f3]⟩) (by unfold chT; rw [r15, r32]; first | exact Or.inr ⟨by omega, f1.trans r32⟩ | exact Or.inr ⟨by omega, rfl⟩)
    have pt := rfX_put (F1 := x10) (Q := pgRm Q a1.toInt a2.toInt b j) (b := b) (j := j) (l := rnL a1.toInt a2.toInt (Q.2.2.1 b j)) h2 hc hcf hQ6 hx hB2 hb hj3 (by rw [← e3]; exact fun x hx2 => by rw [h26 x hx2]) (by rw [pgRm_l]; rfl) (by rw [← e3]; exact nl)
    rw [pgRm_s] at pt
    exact ih (j + 1) (by omega) hj3 pt
  · intro F_2 l5_2 x1 x2 x3 x4 x5 x6 x7 x8 x9 x10 x11 x12 x13 x14 k e1 h1 h2 h3 h4 h5 h6 h7 h8 h9 h10 h11 h12 h13 h14 h15 h16 h17 h18 h19 h20 h21 h22 h23 h24 h25 h26 h27 h28 h29 h30 h31 h32 h33 h34 h35 h36 ih
    intro j hj hj2 hx
    have hB := hB2 b hb
    rw [← hc1] at hB
    obtain ⟨ll, nn, pp, ss, v1, ⟨g1, g2, g3⟩, v3, v4, v5, -⟩ := show rk_2 γ c1 (F_2 c1) from RS_o h2 hB
    have ex1 : x1 = rwL γ el q0 b := by
      rw [← h7, v1]
      show ll = γ 14 (el (γ 14 q0) b)
      rw [← hc1, g1]
    have m : γ 2 (rwL γ el q0 b) + 1 = Q.2.1 b := (hx.2.1 b hb).1
    rw [ex1] at h8
    have e3 : x3 = rAt γ el q0 b j := by
      rw [h13, ex1, show l5_2.toInt.toNat = j by rw [hj]; rfl]
      exact (if_pos (show j < γ 2 (rwL γ el q0 b) by omega)).symm
    have hj3 : j < Q.2.1 b := by omega
    have k3 := (rAt_k (j := j) h2 hc hcf (show b < γ 6 f by omega)).1
    rw [← e3] at k3
    have s3 : rwS (F_2 x3) := rwS_1 (RS_o h2 k3)
    have hl := hx.2.2 b hb j (show j ≤ γ 2 (rwL γ el q0 b) by omega)
    rw [← e3] at hl
    unfold lnQ at hl
    rw [pgRm_l] at hl
    have uA := uA_tr h18
    have uB := uB_tr h22
    have uS := ss_tr h30
    obtain ⟨z1, z10, z11, z12, z13, z14, z15, z16⟩ := cw_3 s3 h27
    obtain ⟨z2, z20, z21, z22, z23, z24, z25, z26⟩ := cw_1 z1 h35
    have f0 : fI (x13 x3) 0 = fI (F_2 x3) 0 := by rw [z20, z10]
    have f1 : fI (x13 x3) 1 = a2 := by rw [z21]
    have f2 : fI (x13 x3) 2 = fI (F_2 x3) 2 := by rw [z22, z12]
    have f3 : fI (x13 x3) 3 = a2 := by rw [z23, z13]
    have f4 : fI (x13 x3) 4 = fI (F_2 x3) 4 := by rw [z24, z14]
    have f5 : fI (x13 x3) 5 = fI (F_2 x3) 5 := by rw [z25, z15]
    have f6 : fI (x13 x3) 6 = fI (F_2 x3) 6 := by rw [z26, z16]
    have r15 : fI (F_2 x3) 0 = x4 := h15
    have r16 : fI (F_2 x3) 5 = x5 := h16
    have r20 : fI (F_2 x3) 6 = x7 := h20
    have r24 : fI (F_2 x3) 3 = x9 := h24
    have r28 : fI (F_2 x3) 0 = x4 := by rw [← h28, z10]
    have r32 : fI (F_2 x3) 1 = x12 := by rw [← h32, z11]
    have nl := rn_ln hw hv (qk_l hO hb hj3) hl f0 f4 f5 f6 (by unfold chA; rw [r15, r16]; exact Or.inr ⟨by omega, f2⟩) (by unfold chB; rw [r15, r20, r24]; exact Or.inl ⟨by omega, by rw [f3]⟩) (by unfold chT; rw [r15, r32]; exact Or.inl ⟨by omega, by rw [f1]⟩)
    have pt := rfX_put (F1 := x13) (Q := pgRm Q a1.toInt a2.toInt b j) (b := b) (j := j) (l := rnL a1.toInt a2.toInt (Q.2.2.1 b j)) h2 hc hcf hQ6 hx hB2 hb hj3 (by rw [← e3]; exact fun x hx2 => by rw [h34 x hx2, h26 x hx2]) (by rw [pgRm_l]; rfl) (by rw [← e3]; exact nl)
    rw [pgRm_s] at pt
    exact ih (j + 1) (by omega) hj3 pt
  · intro F_2 l5_2 x1 x2 x3 x4 x5 x6 x7 x8 x9 x10 x11 k e1 h1 h2 h3 h4 h5 h6 h7 h8 h9 h10 h11 h12 h13 h14 h15 h16 h17 h18 h19 h20 h21 h22 h23 h24 h25 h26 h27 h28 h29 ih
    intro j hj hj2 hx
    have hB := hB2 b hb
    rw [← hc1] at hB
    obtain ⟨ll, nn, pp, ss, v1, ⟨g1, g2, g3⟩, v3, v4, v5, -⟩ := show rk_2 γ c1 (F_2 c1) from RS_o h2 hB
    have ex1 : x1 = rwL γ el q0 b := by
      rw [← h7, v1]
      show ll = γ 14 (el (γ 14 q0) b)
      rw [← hc1, g1]
    have m : γ 2 (rwL γ el q0 b) + 1 = Q.2.1 b := (hx.2.1 b hb).1
    rw [ex1] at h8
    have e3 : x3 = rAt γ el q0 b j := by
      rw [h13, ex1, show l5_2.toInt.toNat = j by rw [hj]; rfl]
      exact (if_pos (show j < γ 2 (rwL γ el q0 b) by omega)).symm
    have hj3 : j < Q.2.1 b := by omega
    have k3 := (rAt_k (j := j) h2 hc hcf (show b < γ 6 f by omega)).1
    rw [← e3] at k3
    have s3 : rwS (F_2 x3) := rwS_1 (RS_o h2 k3)
    have hl := hx.2.2 b hb j (show j ≤ γ 2 (rwL γ el q0 b) by omega)
    rw [← e3] at hl
    unfold lnQ at hl
    rw [pgRm_l] at hl
    have uA := uA_tr h18
    have uB := uB_tr h24
    have uS := ss_tr h27
    have f0 : fI (F_2 x3) 0 = fI (F_2 x3) 0 := rfl
    have f1 : fI (F_2 x3) 1 = fI (F_2 x3) 1 := rfl
    have f2 : fI (F_2 x3) 2 = fI (F_2 x3) 2 := rfl
    have f3 : fI (F_2 x3) 3 = fI (F_2 x3) 3 := rfl
    have f4 : fI (F_2 x3) 4 = fI (F_2 x3) 4 := rfl
    have f5 : fI (F_2 x3) 5 = fI (F_2 x3) 5 := rfl
    have f6 : fI (F_2 x3) 6 = fI (F_2 x3) 6 := rfl
    have r15 : fI (F_2 x3) 0 = x4 := h15
    have r16 : fI (F_2 x3) 5 = x5 := h16
    have r20 : fI (F_2 x3) 2 = x7 := h20
    have r22 : fI (F_2 x3) 6 = x8 := h22
    have nl := rn_ln hw hv (qk_l hO hb hj3) hl f0 f4 f5 f6 (by unfold chA; rw [r15, r16, r20]; first | exact Or.inr ⟨by omega, f2.trans r20⟩ | exact Or.inr ⟨by omega, rfl⟩) (by unfold chB; rw [r15, r22]; exact Or.inr ⟨by omega, f3⟩) (by unfold chT; rw [r15]; exact Or.inr ⟨by omega, f1⟩)
    have pt := rfX_put (F1 := F_2) (Q := pgRm Q a1.toInt a2.toInt b j) (b := b) (j := j) (l := rnL a1.toInt a2.toInt (Q.2.2.1 b j)) h2 hc hcf hQ6 hx hB2 hb hj3 (by rw [← e3]; exact fun x hx2 => rfl) (by rw [pgRm_l]; rfl) (by rw [← e3]; exact nl)
    rw [pgRm_s] at pt
    exact ih (j + 1) (by omega) hj3 pt
  · intro F_2 l5_2 x1 x2 x3 x4 x5 x6 x7 x8 x9 x10 x11 x12 k e1 h1 h2 h3 h4 h5 h6 h7 h8 h9 h10 h11 h12 h13 h14 h15 h16 h17 h18 h19 h20 h21 h22 h23 h24 h25 h26 h27 h28 h29 h30 h31 ih
    intro j hj hj2 hx
    have hB := hB2 b hb
    rw [← hc1] at hB
    obtain ⟨ll, nn, pp, ss, v1, ⟨g1, g2, g3⟩, v3, v4, v5, -⟩ := show rk_2 γ c1 (F_2 c1) from RS_o h2 hB
    have ex1 : x1 = rwL γ el q0 b := by
      rw [← h7, v1]
      show ll = γ 14 (el (γ 14 q0) b)
      rw [← hc1, g1]
    have m : γ 2 (rwL γ el q0 b) + 1 = Q.2.1 b := (hx.2.1 b hb).1
    rw [ex1] at h8
    have e3 : x3 = rAt γ el q0 b j := by
      rw [h13, ex1, show l5_2.toInt.toNat = j by rw [hj]; rfl]
      exact (if_pos (show j < γ 2 (rwL γ el q0 b) by omega)).symm
    have hj3 : j < Q.2.1 b := by omega
    have k3 := (rAt_k (j := j) h2 hc hcf (show b < γ 6 f by omega)).1
    rw [← e3] at k3
    have s3 : rwS (F_2 x3) := rwS_1 (RS_o h2 k3)
    have hl := hx.2.2 b hb j (show j ≤ γ 2 (rwL γ el q0 b) by omega)
    rw [← e3] at hl
    unfold lnQ at hl
    rw [pgRm_l] at hl
    have uA := uA_tr h18
    have uB := uB_tr h24
    have uS := ss_tr h27
    have f0 : fI (F_2 x3) 0 = fI (F_2 x3) 0 := rfl
    have f1 : fI (F_2 x3) 1 = fI (F_2 x3) 1 := rfl
    have f2 : fI (F_2 x3) 2 = fI (F_2 x3) 2 := rfl
    have f3 : fI (F_2 x3) 3 = fI (F_2 x3) 3 := rfl
    have f4 : fI (F_2 x3) 4 = fI (F_2 x3) 4 := rfl
    have f5 : fI (F_2 x3) 5 = fI (F_2 x3) 5 := rfl
    have f6 : fI (F_2 x3) 6 = fI (F_2 x3) 6 := rfl
    have r15 : fI (F_2 x3) 0 = x4 := h15
    have r16 : fI (F_2 x3) 5 = x5 := h16
    have r20 : fI (F_2 x3) 2 = x7 := h20
    have r22 : fI (F_2 x3) 6 = x8 := h22
    have r29 : fI (F_2 x3) 1 = x11 := h29
    have nl := rn_ln hw hv (qk_l hO hb hj3) hl f0 f4 f5 f6 (by unfold chA; rw [r15, r16, r20]; first | exact Or.inr ⟨by omega, f2.trans r20⟩ | exact Or.inr ⟨by omega, rfl⟩) (by unfold chB; rw [r15, r22]; exact Or.inr ⟨by omega, f3⟩) (by unfold chT; rw [r15, r29]; first | exact Or.inr ⟨by omega, f1.trans r29⟩ | exact Or.inr ⟨by omega, rfl⟩)
    have pt := rfX_put (F1 := F_2) (Q := pgRm Q a1.toInt a2.toInt b j) (b := b) (j := j) (l := rnL a1.toInt a2.toInt (Q.2.2.1 b j)) h2 hc hcf hQ6 hx hB2 hb hj3 (by rw [← e3]; exact fun x hx2 => rfl) (by rw [pgRm_l]; rfl) (by rw [← e3]; exact nl)
    rw [pgRm_s] at pt
    exact ih (j + 1) (by omega) hj3 pt
  · intro F_2 l5_2 x1 x2 x3 x4 x5 x6 x7 x8 x9 x10 x11 x12 x13 k e1 h1 h2 h3 h4 h5 h6 h7 h8 h9 h10 h11 h12 h13 h14 h15 h16 h17 h18 h19 h20 h21 h22 h23 h24 h25 h26 h27 h28 h29 h30 h31 h32 h33 ih
    intro j hj hj2 hx
    have hB := hB2 b hb
    rw [← hc1] at hB
    obtain ⟨ll, nn, pp, ss, v1, ⟨g1, g2, g3⟩, v3, v4, v5, -⟩ := show rk_2 γ c1 (F_2 c1) from RS_o h2 hB
    have ex1 : x1 = rwL γ el q0 b := by
      rw [← h7, v1]
      show ll = γ 14 (el (γ 14 q0) b)
      rw [← hc1, g1]
    have m : γ 2 (rwL γ el q0 b) + 1 = Q.2.1 b := (hx.2.1 b hb).1
    rw [ex1] at h8
    have e3 : x3 = rAt γ el q0 b j := by
      rw [h13, ex1, show l5_2.toInt.toNat = j by rw [hj]; rfl]
      exact (if_pos (show j < γ 2 (rwL γ el q0 b) by omega)).symm
    have hj3 : j < Q.2.1 b := by omega
    have k3 := (rAt_k (j := j) h2 hc hcf (show b < γ 6 f by omega)).1
    rw [← e3] at k3
    have s3 : rwS (F_2 x3) := rwS_1 (RS_o h2 k3)
    have hl := hx.2.2 b hb j (show j ≤ γ 2 (rwL γ el q0 b) by omega)
    rw [← e3] at hl
    unfold lnQ at hl
    rw [pgRm_l] at hl
    have uA := uA_tr h18
    have uB := uB_tr h24
    have uS := ss_tr h27
    obtain ⟨z1, z10, z11, z12, z13, z14, z15, z16⟩ := cw_1 s3 h32
    have f0 : fI (x12 x3) 0 = fI (F_2 x3) 0 := by rw [z10]
    have f1 : fI (x12 x3) 1 = a2 := by rw [z11]
    have f2 : fI (x12 x3) 2 = fI (F_2 x3) 2 := by rw [z12]
    have f3 : fI (x12 x3) 3 = fI (F_2 x3) 3 := by rw [z13]
    have f4 : fI (x12 x3) 4 = fI (F_2 x3) 4 := by rw [z14]
    have f5 : fI (x12 x3) 5 = fI (F_2 x3) 5 := by rw [z15]
    have f6 : fI (x12 x3) 6 = fI (F_2 x3) 6 := by rw [z16]
    have r15 : fI (F_2 x3) 0 = x4 := h15
    have r16 : fI (F_2 x3) 5 = x5 := h16
    have r20 : fI (F_2 x3) 2 = x7 := h20
    have r22 : fI (F_2 x3) 6 = x8 := h22
    have r29 : fI (F_2 x3) 1 = x11 := h29
    have nl := rn_ln hw hv (qk_l hO hb hj3) hl f0 f4 f5 f6 (by unfold chA; rw [r15, r16, r20]; first | exact Or.inr ⟨by omega, f2.trans r20⟩ | exact Or.inr ⟨by omega, rfl⟩) (by unfold chB; rw [r15, r22]; exact Or.inr ⟨by omega, f3⟩) (by unfold chT; rw [r15, r29]; exact Or.inl ⟨by omega, by rw [f1]⟩)
    have pt := rfX_put (F1 := x12) (Q := pgRm Q a1.toInt a2.toInt b j) (b := b) (j := j) (l := rnL a1.toInt a2.toInt (Q.2.2.1 b j)) h2 hc hcf hQ6 hx hB2 hb hj3 (by rw [← e3]; exact fun x hx2 => by rw [h31 x hx2]) (by rw [pgRm_l]; rfl) (by rw [← e3]; exact nl)
    rw [pgRm_s] at pt
    exact ih (j + 1) (by omega) hj3 pt
  · intro F_2 l5_2 x1 x2 x3 x4 x5 x6 x7 x8 x9 x10 x11 x12 k e1 h1 h2 h3 h4 h5 h6 h7 h8 h9 h10 h11 h12 h13 h14 h15 h16 h17 h18 h19 h20 h21 h22 h23 h24 h25 h26 h27 h28 h29 h30 h31 ih
    intro j hj hj2 hx
    have hB := hB2 b hb
    rw [← hc1] at hB
    obtain ⟨ll, nn, pp, ss, v1, ⟨g1, g2, g3⟩, v3, v4, v5, -⟩ := show rk_2 γ c1 (F_2 c1) from RS_o h2 hB
    have ex1 : x1 = rwL γ el q0 b := by
      rw [← h7, v1]
      show ll = γ 14 (el (γ 14 q0) b)
      rw [← hc1, g1]
    have m : γ 2 (rwL γ el q0 b) + 1 = Q.2.1 b := (hx.2.1 b hb).1
    rw [ex1] at h8
    have e3 : x3 = rAt γ el q0 b j := by
      rw [h13, ex1, show l5_2.toInt.toNat = j by rw [hj]; rfl]
      exact (if_pos (show j < γ 2 (rwL γ el q0 b) by omega)).symm
    have hj3 : j < Q.2.1 b := by omega
    have k3 := (rAt_k (j := j) h2 hc hcf (show b < γ 6 f by omega)).1
    rw [← e3] at k3
    have s3 : rwS (F_2 x3) := rwS_1 (RS_o h2 k3)
    have hl := hx.2.2 b hb j (show j ≤ γ 2 (rwL γ el q0 b) by omega)
    rw [← e3] at hl
    unfold lnQ at hl
    rw [pgRm_l] at hl
    have uA := uA_tr h18
    have uB := uB_tr h24
    have uS := ss_tr h29
    have f0 : fI (F_2 x3) 0 = fI (F_2 x3) 0 := rfl
    have f1 : fI (F_2 x3) 1 = fI (F_2 x3) 1 := rfl
    have f2 : fI (F_2 x3) 2 = fI (F_2 x3) 2 := rfl
    have f3 : fI (F_2 x3) 3 = fI (F_2 x3) 3 := rfl
    have f4 : fI (F_2 x3) 4 = fI (F_2 x3) 4 := rfl
    have f5 : fI (F_2 x3) 5 = fI (F_2 x3) 5 := rfl
    have f6 : fI (F_2 x3) 6 = fI (F_2 x3) 6 := rfl
    have r15 : fI (F_2 x3) 0 = x4 := h15
    have r16 : fI (F_2 x3) 5 = x5 := h16
    have r20 : fI (F_2 x3) 2 = x7 := h20
    have r22 : fI (F_2 x3) 6 = x8 := h22
    have r26 : fI (F_2 x3) 3 = x10 := h26
    have nl := rn_ln hw hv (qk_l hO hb hj3) hl f0 f4 f5 f6 (by unfold chA; rw [r15, r16, r20]; first | exact Or.inr ⟨by omega, f2.trans r20⟩ | exact Or.inr ⟨by omega, rfl⟩) (by unfold chB; rw [r15, r22, r26]; first | exact Or.inr ⟨by omega, f3.trans r26⟩ | exact Or.inr ⟨by omega, rfl⟩) (by unfold chT; rw [r15]; exact Or.inr ⟨by omega, f1⟩)
    have pt := rfX_put (F1 := F_2) (Q := pgRm Q a1.toInt a2.toInt b j) (b := b) (j := j) (l := rnL a1.toInt a2.toInt (Q.2.2.1 b j)) h2 hc hcf hQ6 hx hB2 hb hj3 (by rw [← e3]; exact fun x hx2 => rfl) (by rw [pgRm_l]; rfl) (by rw [← e3]; exact nl)
    rw [pgRm_s] at pt
    exact ih (j + 1) (by omega) hj3 pt
  · intro F_2 l5_2 x1 x2 x3 x4 x5 x6 x7 x8 x9 x10 x11 x12 x13 k e1 h1 h2 h3 h4 h5 h6 h7 h8 h9 h10 h11 h12 h13 h14 h15 h16 h17 h18 h19 h20 h21 h22 h23 h24 h25 h26 h27 h28 h29 h30 h31 h32 h33 ih
    intro j hj hj2 hx
    have hB := hB2 b hb
    rw [← hc1] at hB
    obtain ⟨ll, nn, pp, ss, v1, ⟨g1, g2, g3⟩, v3, v4, v5, -⟩ := show rk_2 γ c1 (F_2 c1) from RS_o h2 hB
    have ex1 : x1 = rwL γ el q0 b := by
      rw [← h7, v1]
      show ll = γ 14 (el (γ 14 q0) b)
      rw [← hc1, g1]
    have m : γ 2 (rwL γ el q0 b) + 1 = Q.2.1 b := (hx.2.1 b hb).1
    rw [ex1] at h8
    have e3 : x3 = rAt γ el q0 b j := by
      rw [h13, ex1, show l5_2.toInt.toNat = j by rw [hj]; rfl]
      exact (if_pos (show j < γ 2 (rwL γ el q0 b) by omega)).symm
    have hj3 : j < Q.2.1 b := by omega
    have k3 := (rAt_k (j := j) h2 hc hcf (show b < γ 6 f by omega)).1
    rw [← e3] at k3
    have s3 : rwS (F_2 x3) := rwS_1 (RS_o h2 k3)
    have hl := hx.2.2 b hb j (show j ≤ γ 2 (rwL γ el q0 b) by omega)
    rw [← e3] at hl
    unfold lnQ at hl
    rw [pgRm_l] at hl
    have uA := uA_tr h18
    have uB := uB_tr h24
    have uS := ss_tr h29
    have f0 : fI (F_2 x3) 0 = fI (F_2 x3) 0 := rfl
    have f1 : fI (F_2 x3) 1 = fI (F_2 x3) 1 := rfl
    have f2 : fI (F_2 x3) 2 = fI (F_2 x3) 2 := rfl
    have f3 : fI (F_2 x3) 3 = fI (F_2 x3) 3 := rfl
    have f4 : fI (F_2 x3) 4 = fI (F_2 x3) 4 := rfl
    have f5 : fI (F_2 x3) 5 = fI (F_2 x3) 5 := rfl
    have f6 : fI (F_2 x3) 6 = fI (F_2 x3) 6 := rfl
    have r15 : fI (F_2 x3) 0 = x4 := h15
    have r16 : fI (F_2 x3) 5 = x5 := h16
    have r20 : fI (F_2 x3) 2 = x7 := h20
    have r22 : fI (F_2 x3) 6 = x8 := h22
    have r26 : fI (F_2 x3) 3 = x10 := h26
    have r31 : fI (F_2 x3) 1 = x12 := h31
    have nl := rn_ln hw hv (qk_l hO hb hj3) hl f0 f4 f5 f6 (by unfold chA; rw [r15, r16, r20]; first | exact Or.inr ⟨by omega, f2.trans r20⟩ | exact Or.inr ⟨by omega, rfl⟩) (by unfold chB; rw [r15, r22, r26]; first | exact Or.inr ⟨by omega, f3.trans r26⟩ | exact Or.inr ⟨by omega, rfl⟩) (by unfold chT; rw [r15, r31]; first | exact Or.inr ⟨by omega, f1.trans r31⟩ | exact Or.inr ⟨by omega, rfl⟩)
    have pt := rfX_put (F1 := F_2) (Q := pgRm Q a1.toInt a2.toInt b j) (b := b) (j := j) (l := rnL a1.toInt a2.toInt (Q.2.2.1 b j)) h2 hc hcf hQ6 hx hB2 hb hj3 (by rw [← e3]; exact fun x hx2 => rfl) (by rw [pgRm_l]; rfl) (by rw [← e3]; exact nl)
    rw [pgRm_s] at pt
    exact ih (j + 1) (by omega) hj3 pt
  · intro F_2 l5_2 x1 x2 x3 x4 x5 x6 x7 x8 x9 x10 x11 x12 x13 x14 k e1 h1 h2 h3 h4 h5 h6 h7 h8 h9 h10 h11 h12 h13 h14 h15 h16 h17 h18 h19 h20 h21 h22 h23 h24 h25 h26 h27 h28 h29 h30 h31 h32 h33 h34 h35 ih
    intro j hj hj2 hx
    have hB := hB2 b hb
    rw [← hc1] at hB
    obtain ⟨ll, nn, pp, ss, v1, ⟨g1, g2, g3⟩, v3, v4, v5, -⟩ := show rk_2 γ c1 (F_2 c1) from RS_o h2 hB
    have ex1 : x1 = rwL γ el q0 b := by
      rw [← h7, v1]
      show ll = γ 14 (el (γ 14 q0) b)
      rw [← hc1, g1]
    have m : γ 2 (rwL γ el q0 b) + 1 = Q.2.1 b := (hx.2.1 b hb).1
    rw [ex1] at h8
    have e3 : x3 = rAt γ el q0 b j := by
      rw [h13, ex1, show l5_2.toInt.toNat = j by rw [hj]; rfl]
      exact (if_pos (show j < γ 2 (rwL γ el q0 b) by omega)).symm
    have hj3 : j < Q.2.1 b := by omega
    have k3 := (rAt_k (j := j) h2 hc hcf (show b < γ 6 f by omega)).1
    rw [← e3] at k3
    have s3 : rwS (F_2 x3) := rwS_1 (RS_o h2 k3)
    have hl := hx.2.2 b hb j (show j ≤ γ 2 (rwL γ el q0 b) by omega)
    rw [← e3] at hl
    unfold lnQ at hl
    rw [pgRm_l] at hl
    have uA := uA_tr h18
    have uB := uB_tr h24
    have uS := ss_tr h29
    obtain ⟨z1, z10, z11, z12, z13, z14, z15, z16⟩ := cw_1 s3 h34
    have f0 : fI (x13 x3) 0 = fI (F_2 x3) 0 := by rw [z10]
    have f1 : fI (x13 x3) 1 = a2 := by rw [z11]
    have f2 : fI (x13 x3) 2 = fI (F_2 x3) 2 := by rw [z12]
    have f3 : fI (x13 x3) 3 = fI (F_2 x3) 3 := by rw [z13]
    have f4 : fI (x13 x3) 4 = fI (F_2 x3) 4 := by rw [z14]
    have f5 : fI (x13 x3) 5 = fI (F_2 x3) 5 := by rw [z15]
    have f6 : fI (x13 x3) 6 = fI (F_2 x3) 6 := by rw [z16]
    have r15 : fI (F_2 x3) 0 = x4 := h15
    have r16 : fI (F_2 x3) 5 = x5 := h16
    have r20 : fI (F_2 x3) 2 = x7 := h20
    have r22 : fI (F_2 x3) 6 = x8 := h22
    have r26 : fI (F_2 x3) 3 = x10 := h26
    have r31 : fI (F_2 x3) 1 = x12 := h31
    have nl := rn_ln hw hv (qk_l hO hb hj3) hl f0 f4 f5 f6 (by unfold chA; rw [r15, r16, r20]; first | exact Or.inr ⟨by omega, f2.trans r20⟩ | exact Or.inr ⟨by omega, rfl⟩) (by unfold chB; rw [r15, r22, r26]; first | exact Or.inr ⟨by omega, f3.trans r26⟩ | exact Or.inr ⟨by omega, rfl⟩) (by unfold chT; rw [r15, r31]; exact Or.inl ⟨by omega, by rw [f1]⟩)
    have pt := rfX_put (F1 := x13) (Q := pgRm Q a1.toInt a2.toInt b j) (b := b) (j := j) (l := rnL a1.toInt a2.toInt (Q.2.2.1 b j)) h2 hc hcf hQ6 hx hB2 hb hj3 (by rw [← e3]; exact fun x hx2 => by rw [h33 x hx2]) (by rw [pgRm_l]; rfl) (by rw [← e3]; exact nl)
    rw [pgRm_s] at pt
    exact ih (j + 1) (by omega) hj3 pt
  · intro F_2 l5_2 x1 x2 x3 x4 x5 x6 x7 x8 x9 x10 x11 x12 x13 k e1 h1 h2 h3 h4 h5 h6 h7 h8 h9 h10 h11 h12 h13 h14 h15 h16 h17 h18 h19 h20 h21 h22 h23 h24 h25 h26 h27 h28 h29 h30 h31 h32 h33 h34 ih
    intro j hj hj2 hx
    have hB := hB2 b hb
    rw [← hc1] at hB
    obtain ⟨ll, nn, pp, ss, v1, ⟨g1, g2, g3⟩, v3, v4, v5, -⟩ := show rk_2 γ c1 (F_2 c1) from RS_o h2 hB
    have ex1 : x1 = rwL γ el q0 b := by
      rw [← h7, v1]
      show ll = γ 14 (el (γ 14 q0) b)
      rw [← hc1, g1]
    have m : γ 2 (rwL γ el q0 b) + 1 = Q.2.1 b := (hx.2.1 b hb).1
    rw [ex1] at h8
    have e3 : x3 = rAt γ el q0 b j := by
      rw [h13, ex1, show l5_2.toInt.toNat = j by rw [hj]; rfl]
      exact (if_pos (show j < γ 2 (rwL γ el q0 b) by omega)).symm
    have hj3 : j < Q.2.1 b := by omega
    have k3 := (rAt_k (j := j) h2 hc hcf (show b < γ 6 f by omega)).1
    rw [← e3] at k3
    have s3 : rwS (F_2 x3) := rwS_1 (RS_o h2 k3)
    have hl := hx.2.2 b hb j (show j ≤ γ 2 (rwL γ el q0 b) by omega)
    rw [← e3] at hl
    unfold lnQ at hl
    rw [pgRm_l] at hl
    have uA := uA_tr h18
    have uB := uB_tr h24
    have uS := ss_tr h32
    obtain ⟨z1, z10, z11, z12, z13, z14, z15, z16⟩ := cw_3 s3 h29
    have f0 : fI (x11 x3) 0 = fI (F_2 x3) 0 := by rw [z10]
    have f1 : fI (x11 x3) 1 = fI (F_2 x3) 1 := by rw [z11]
    have f2 : fI (x11 x3) 2 = fI (F_2 x3) 2 := by rw [z12]
    have f3 : fI (x11 x3) 3 = a2 := by rw [z13]
    have f4 : fI (x11 x3) 4 = fI (F_2 x3) 4 := by rw [z14]
    have f5 : fI (x11 x3) 5 = fI (F_2 x3) 5 := by rw [z15]
    have f6 : fI (x11 x3) 6 = fI (F_2 x3) 6 := by rw [z16]
    have r15 : fI (F_2 x3) 0 = x4 := h15
    have r16 : fI (F_2 x3) 5 = x5 := h16
    have r20 : fI (F_2 x3) 2 = x7 := h20
    have r22 : fI (F_2 x3) 6 = x8 := h22
    have r26 : fI (F_2 x3) 3 = x10 := h26
    have r30 : fI (F_2 x3) 0 = x4 := by rw [← h30, z10]
    have nl := rn_ln hw hv (qk_l hO hb hj3) hl f0 f4 f5 f6 (by unfold chA; rw [r15, r16, r20]; first | exact Or.inr ⟨by omega, f2.trans r20⟩ | exact Or.inr ⟨by omega, rfl⟩) (by unfold chB; rw [r15, r22, r26]; exact Or.inl ⟨by omega, by rw [f3]⟩) (by unfold chT; rw [r15]; exact Or.inr ⟨by omega, f1⟩)
    have pt := rfX_put (F1 := x11) (Q := pgRm Q a1.toInt a2.toInt b j) (b := b) (j := j) (l := rnL a1.toInt a2.toInt (Q.2.2.1 b j)) h2 hc hcf hQ6 hx hB2 hb hj3 (by rw [← e3]; exact fun x hx2 => by rw [h28 x hx2]) (by rw [pgRm_l]; rfl) (by rw [← e3]; exact nl)
    rw [pgRm_s] at pt
    exact ih (j + 1) (by omega) hj3 pt
  · intro F_2 l5_2 x1 x2 x3 x4 x5 x6 x7 x8 x9 x10 x11 x12 x13 x14 k e1 h1 h2 h3 h4 h5 h6 h7 h8 h9 h10 h11 h12 h13 h14 h15 h16 h17 h18 h19 h20 h21 h22 h23 h24 h25 h26 h27 h28 h29 h30 h31 h32 h33 h34 h35 h36 ih
    intro j hj hj2 hx
    have hB := hB2 b hb
    rw [← hc1] at hB
    obtain ⟨ll, nn, pp, ss, v1, ⟨g1, g2, g3⟩, v3, v4, v5, -⟩ := show rk_2 γ c1 (F_2 c1) from RS_o h2 hB
    have ex1 : x1 = rwL γ el q0 b := by
      rw [← h7, v1]
      show ll = γ 14 (el (γ 14 q0) b)
      rw [← hc1, g1]
    have m : γ 2 (rwL γ el q0 b) + 1 = Q.2.1 b := (hx.2.1 b hb).1
    rw [ex1] at h8
    have e3 : x3 = rAt γ el q0 b j := by
      rw [h13, ex1, show l5_2.toInt.toNat = j by rw [hj]; rfl]
      exact (if_pos (show j < γ 2 (rwL γ el q0 b) by omega)).symm
    have hj3 : j < Q.2.1 b := by omega
    have k3 := (rAt_k (j := j) h2 hc hcf (show b < γ 6 f by omega)).1
    rw [← e3] at k3
    have s3 : rwS (F_2 x3) := rwS_1 (RS_o h2 k3)
    have hl := hx.2.2 b hb j (show j ≤ γ 2 (rwL γ el q0 b) by omega)
    rw [← e3] at hl
    unfold lnQ at hl
    rw [pgRm_l] at hl
    have uA := uA_tr h18
    have uB := uB_tr h24
    have uS := ss_tr h32
    obtain ⟨z1, z10, z11, z12, z13, z14, z15, z16⟩ := cw_3 s3 h29
    have f0 : fI (x11 x3) 0 = fI (F_2 x3) 0 := by rw [z10]
    have f1 : fI (x11 x3) 1 = fI (F_2 x3) 1 := by rw [z11]
    have f2 : fI (x11 x3) 2 = fI (F_2 x3) 2 := by rw [z12]
    have f3 : fI (x11 x3) 3 = a2 := by rw [z13]
    have f4 : fI (x11 x3) 4 = fI (F_2 x3) 4 := by rw [z14]
    have f5 : fI (x11 x3) 5 = fI (F_2 x3) 5 := by rw [z15]
    have f6 : fI (x11 x3) 6 = fI (F_2 x3) 6 := by rw [z16]
    have r15 : fI (F_2 x3) 0 = x4 := h15
    have r16 : fI (F_2 x3) 5 = x5 := h16
    have r20 : fI (F_2 x3) 2 = x7 := h20
    have r22 : fI (F_2 x3) 6 = x8 := h22
    have r26 : fI (F_2 x3) 3 = x10 := h26
    have r30 : fI (F_2 x3) 0 = x4 := by rw [← h30, z10]
    have r34 : fI (F_2 x3) 1 = x13 := by rw [← h34, z11]
    have nl := rn_ln hw hv (qk_l hO hb hj3) hl f0 f4 f5 f6 (by unfold chA; rw [r15, r16, r20]; first | exact Or.inr ⟨by omega, f2.trans r20⟩ | exact Or.inr ⟨by omega, rfl⟩) (by unfold chB; rw [r15, r22, r26]; exact Or.inl ⟨by omega, by rw [f3]⟩) (by unfold chT; rw [r15, r34]; first | exact Or.inr ⟨by omega, f1.trans r34⟩ | exact Or.inr ⟨by omega, rfl⟩)
    have pt := rfX_put (F1 := x11) (Q := pgRm Q a1.toInt a2.toInt b j) (b := b) (j := j) (l := rnL a1.toInt a2.toInt (Q.2.2.1 b j)) h2 hc hcf hQ6 hx hB2 hb hj3 (by rw [← e3]; exact fun x hx2 => by rw [h28 x hx2]) (by rw [pgRm_l]; rfl) (by rw [← e3]; exact nl)
    rw [pgRm_s] at pt
    exact ih (j + 1) (by omega) hj3 pt
  · intro F_2 l5_2 x1 x2 x3 x4 x5 x6 x7 x8 x9 x10 x11 x12 x13 x14 x15 k e1 h1 h2 h3 h4 h5 h6 h7 h8 h9 h10 h11 h12 h13 h14 h15 h16 h17 h18 h19 h20 h21 h22 h23 h24 h25 h26 h27 h28 h29 h30 h31 h32 h33 h34 h35 h36 h37 h38 ih
    intro j hj hj2 hx
    have hB := hB2 b hb
    rw [← hc1] at hB
    obtain ⟨ll, nn, pp, ss, v1, ⟨g1, g2, g3⟩, v3, v4, v5, -⟩ := show rk_2 γ c1 (F_2 c1) from RS_o h2 hB
    have ex1 : x1 = rwL γ el q0 b := by
      rw [← h7, v1]
      show ll = γ 14 (el (γ 14 q0) b)
      rw [← hc1, g1]
    have m : γ 2 (rwL γ el q0 b) + 1 = Q.2.1 b := (hx.2.1 b hb).1
    rw [ex1] at h8
    have e3 : x3 = rAt γ el q0 b j := by
      rw [h13, ex1, show l5_2.toInt.toNat = j by rw [hj]; rfl]
      exact (if_pos (show j < γ 2 (rwL γ el q0 b) by omega)).symm
    have hj3 : j < Q.2.1 b := by omega
    have k3 := (rAt_k (j := j) h2 hc hcf (show b < γ 6 f by omega)).1
    rw [← e3] at k3
    have s3 : rwS (F_2 x3) := rwS_1 (RS_o h2 k3)
    have hl := hx.2.2 b hb j (show j ≤ γ 2 (rwL γ el q0 b) by omega)
    rw [← e3] at hl
    unfold lnQ at hl
    rw [pgRm_l] at hl
    have uA := uA_tr h18
    have uB := uB_tr h24
    have uS := ss_tr h32
    obtain ⟨z1, z10, z11, z12, z13, z14, z15, z16⟩ := cw_3 s3 h29
    obtain ⟨z2, z20, z21, z22, z23, z24, z25, z26⟩ := cw_1 z1 h37
    have f0 : fI (x14 x3) 0 = fI (F_2 x3) 0 := by rw [z20, z10]
    have f1 : fI (x14 x3) 1 = a2 := by rw [z21]
    have f2 : fI (x14 x3) 2 = fI (F_2 x3) 2 := by rw [z22, z12]
    have f3 : fI (x14 x3) 3 = a2 := by rw [z23, z13]
    have f4 : fI (x14 x3) 4 = fI (F_2 x3) 4 := by rw [z24, z14]
    have f5 : fI (x14 x3) 5 = fI (F_2 x3) 5 := by rw [z25, z15]
    have f6 : fI (x14 x3) 6 = fI (F_2 x3) 6 := by rw [z26, z16]
    have r15 : fI (F_2 x3) 0 = x4 := h15
    have r16 : fI (F_2 x3) 5 = x5 := h16
    have r20 : fI (F_2 x3) 2 = x7 := h20
    have r22 : fI (F_2 x3) 6 = x8 := h22
    have r26 : fI (F_2 x3) 3 = x10 := h26
    have r30 : fI (F_2 x3) 0 = x4 := by rw [← h30, z10]
    have r34 : fI (F_2 x3) 1 = x13 := by rw [← h34, z11]
    have nl := rn_ln hw hv (qk_l hO hb hj3) hl f0 f4 f5 f6 (by unfold chA; rw [r15, r16, r20]; first | exact Or.inr ⟨by omega, f2.trans r20⟩ | exact Or.inr ⟨by omega, rfl⟩) (by unfold chB; rw [r15, r22, r26]; exact Or.inl ⟨by omega, by rw [f3]⟩) (by unfold chT; rw [r15, r34]; exact Or.inl ⟨by omega, by rw [f1]⟩)
    have pt := rfX_put (F1 := x14) (Q := pgRm Q a1.toInt a2.toInt b j) (b := b) (j := j) (l := rnL a1.toInt a2.toInt (Q.2.2.1 b j)) h2 hc hcf hQ6 hx hB2 hb hj3 (by rw [← e3]; exact fun x hx2 => by rw [h36 x hx2, h28 x hx2]) (by rw [pgRm_l]; rfl) (by rw [← e3]; exact nl)
    rw [pgRm_s] at pt
    exact ih (j + 1) (by omega) hj3 pt
  · intro F_2 l5_2 x1 x2 x3 x4 x5 x6 x7 x8 x9 x10 x11 x12 k e1 h1 h2 h3 h4 h5 h6 h7 h8 h9 h10 h11 h12 h13 h14 h15 h16 h17 h18 h19 h20 h21 h22 h23 h24 h25 h26 h27 h28 h29 h30 h31 h32 ih
    intro j hj hj2 hx
    have hB := hB2 b hb
    rw [← hc1] at hB
    obtain ⟨ll, nn, pp, ss, v1, ⟨g1, g2, g3⟩, v3, v4, v5, -⟩ := show rk_2 γ c1 (F_2 c1) from RS_o h2 hB
    have ex1 : x1 = rwL γ el q0 b := by
      rw [← h7, v1]
      show ll = γ 14 (el (γ 14 q0) b)
      rw [← hc1, g1]
    have m : γ 2 (rwL γ el q0 b) + 1 = Q.2.1 b := (hx.2.1 b hb).1
    rw [ex1] at h8
    have e3 : x3 = rAt γ el q0 b j := by
      rw [h13, ex1, show l5_2.toInt.toNat = j by rw [hj]; rfl]
      exact (if_pos (show j < γ 2 (rwL γ el q0 b) by omega)).symm
    have hj3 : j < Q.2.1 b := by omega
    have k3 := (rAt_k (j := j) h2 hc hcf (show b < γ 6 f by omega)).1
    rw [← e3] at k3
    have s3 : rwS (F_2 x3) := rwS_1 (RS_o h2 k3)
    have hl := hx.2.2 b hb j (show j ≤ γ 2 (rwL γ el q0 b) by omega)
    rw [← e3] at hl
    unfold lnQ at hl
    rw [pgRm_l] at hl
    have uA := uA_tr h18
    have uB := uB_tr h27
    have uS := ss_tr h30
    obtain ⟨z1, z10, z11, z12, z13, z14, z15, z16⟩ := cw_2 s3 h23
    have f0 : fI (x8 x3) 0 = fI (F_2 x3) 0 := by rw [z10]
    have f1 : fI (x8 x3) 1 = fI (F_2 x3) 1 := by rw [z11]
    have f2 : fI (x8 x3) 2 = a2 := by rw [z12]
    have f3 : fI (x8 x3) 3 = fI (F_2 x3) 3 := by rw [z13]
    have f4 : fI (x8 x3) 4 = fI (F_2 x3) 4 := by rw [z14]
    have f5 : fI (x8 x3) 5 = fI (F_2 x3) 5 := by rw [z15]
    have f6 : fI (x8 x3) 6 = fI (F_2 x3) 6 := by rw [z16]
    have r15 : fI (F_2 x3) 0 = x4 := h15
    have r16 : fI (F_2 x3) 5 = x5 := h16
    have r20 : fI (F_2 x3) 2 = x7 := h20
    have r24 : fI (F_2 x3) 0 = x4 := by rw [← h24, z10]
    have r25 : fI (F_2 x3) 6 = x9 := by rw [← h25, z16]
    have nl := rn_ln hw hv (qk_l hO hb hj3) hl f0 f4 f5 f6 (by unfold chA; rw [r15, r16, r20]; exact Or.inl ⟨by omega, by rw [f2]⟩) (by unfold chB; rw [r15, r25]; exact Or.inr ⟨by omega, f3⟩) (by unfold chT; rw [r15]; exact Or.inr ⟨by omega, f1⟩)
    have pt := rfX_put (F1 := x8) (Q := pgRm Q a1.toInt a2.toInt b j) (b := b) (j := j) (l := rnL a1.toInt a2.toInt (Q.2.2.1 b j)) h2 hc hcf hQ6 hx hB2 hb hj3 (by rw [← e3]; exact fun x hx2 => by rw [h22 x hx2]) (by rw [pgRm_l]; rfl) (by rw [← e3]; exact nl)
    rw [pgRm_s] at pt
    exact ih (j + 1) (by omega) hj3 pt
  · intro F_2 l5_2 x1 x2 x3 x4 x5 x6 x7 x8 x9 x10 x11 x12 x13 k e1 h1 h2 h3 h4 h5 h6 h7 h8 h9 h10 h11 h12 h13 h14 h15 h16 h17 h18 h19 h20 h21 h22 h23 h24 h25 h26 h27 h28 h29 h30 h31 h32 h33 h34 ih
    intro j hj hj2 hx
    have hB := hB2 b hb
    rw [← hc1] at hB
    obtain ⟨ll, nn, pp, ss, v1, ⟨g1, g2, g3⟩, v3, v4, v5, -⟩ := show rk_2 γ c1 (F_2 c1) from RS_o h2 hB
    have ex1 : x1 = rwL γ el q0 b := by
      rw [← h7, v1]
      show ll = γ 14 (el (γ 14 q0) b)
      rw [← hc1, g1]
    have m : γ 2 (rwL γ el q0 b) + 1 = Q.2.1 b := (hx.2.1 b hb).1
    rw [ex1] at h8
    have e3 : x3 = rAt γ el q0 b j := by
      rw [h13, ex1, show l5_2.toInt.toNat = j by rw [hj]; rfl]
      exact (if_pos (show j < γ 2 (rwL γ el q0 b) by omega)).symm
    have hj3 : j < Q.2.1 b := by omega
    have k3 := (rAt_k (j := j) h2 hc hcf (show b < γ 6 f by omega)).1
    rw [← e3] at k3
    have s3 : rwS (F_2 x3) := rwS_1 (RS_o h2 k3)
    have hl := hx.2.2 b hb j (show j ≤ γ 2 (rwL γ el q0 b) by omega)
    rw [← e3] at hl
    unfold lnQ at hl
    rw [pgRm_l] at hl
    have uA := uA_tr h18
    have uB := uB_tr h27
    have uS := ss_tr h30
    obtain ⟨z1, z10, z11, z12, z13, z14, z15, z16⟩ := cw_2 s3 h23
    have f0 : fI (x8 x3) 0 = fI (F_2 x3) 0 := by rw [z10]
    have f1 : fI (x8 x3) 1 = fI (F_2 x3) 1 := by rw [z11]
    have f2 : fI (x8 x3) 2 = a2 := by rw [z12]
    have f3 : fI (x8 x3) 3 = fI (F_2 x3) 3 := by rw [z13]
    have f4 : fI (x8 x3) 4 = fI (F_2 x3) 4 := by rw [z14]
    have f5 : fI (x8 x3) 5 = fI (F_2 x3) 5 := by rw [z15]
    have f6 : fI (x8 x3) 6 = fI (F_2 x3) 6 := by rw [z16]
    have r15 : fI (F_2 x3) 0 = x4 := h15
    have r16 : fI (F_2 x3) 5 = x5 := h16
    have r20 : fI (F_2 x3) 2 = x7 := h20
    have r24 : fI (F_2 x3) 0 = x4 := by rw [← h24, z10]
    have r25 : fI (F_2 x3) 6 = x9 := by rw [← h25, z16]
    have r32 : fI (F_2 x3) 1 = x12 := by rw [← h32, z11]
    have nl := rn_ln hw hv (qk_l hO hb hj3) hl f0 f4 f5 f6 (by unfold chA; rw [r15, r16, r20]; exact Or.inl ⟨by omega, by rw [f2]⟩) (by unfold chB; rw [r15, r25]; exact Or.inr ⟨by omega, f3⟩) (by unfold chT; rw [r15, r32]; first | exact Or.inr ⟨by omega, f1.trans r32⟩ | exact Or.inr ⟨by omega, rfl⟩)
    have pt := rfX_put (F1 := x8) (Q := pgRm Q a1.toInt a2.toInt b j) (b := b) (j := j) (l := rnL a1.toInt a2.toInt (Q.2.2.1 b j)) h2 hc hcf hQ6 hx hB2 hb hj3 (by rw [← e3]; exact fun x hx2 => by rw [h22 x hx2]) (by rw [pgRm_l]; rfl) (by rw [← e3]; exact nl)
    rw [pgRm_s] at pt
    exact ih (j + 1) (by omega) hj3 pt
  · intro F_2 l5_2 x1 x2 x3 x4 x5 x6 x7 x8 x9 x10 x11 x12 x13 x14 k e1 h1 h2 h3 h4 h5 h6 h7 h8 h9 h10 h11 h12 h13 h14 h15 h16 h17 h18 h19 h20 h21 h22 h23 h24 h25 h26 h27 h28 h29 h30 h31 h32 h33 h34 h35 h36 ih
    intro j hj hj2 hx
    have hB := hB2 b hb
    rw [← hc1] at hB
    obtain ⟨ll, nn, pp, ss, v1, ⟨g1, g2, g3⟩, v3, v4, v5, -⟩ := show rk_2 γ c1 (F_2 c1) from RS_o h2 hB
    have ex1 : x1 = rwL γ el q0 b := by
      rw [← h7, v1]
      show ll = γ 14 (el (γ 14 q0) b)
      rw [← hc1, g1]
    have m : γ 2 (rwL γ el q0 b) + 1 = Q.2.1 b := (hx.2.1 b hb).1
    rw [ex1] at h8
    have e3 : x3 = rAt γ el q0 b j := by
      rw [h13, ex1, show l5_2.toInt.toNat = j by rw [hj]; rfl]
      exact (if_pos (show j < γ 2 (rwL γ el q0 b) by omega)).symm
    have hj3 : j < Q.2.1 b := by omega
    have k3 := (rAt_k (j := j) h2 hc hcf (show b < γ 6 f by omega)).1
    rw [← e3] at k3
    have s3 : rwS (F_2 x3) := rwS_1 (RS_o h2 k3)
    have hl := hx.2.2 b hb j (show j ≤ γ 2 (rwL γ el q0 b) by omega)
    rw [← e3] at hl
    unfold lnQ at hl
    rw [pgRm_l] at hl
    have uA := uA_tr h18
    have uB := uB_tr h27
    have uS := ss_tr h30
    obtain ⟨z1, z10, z11, z12, z13, z14, z15, z16⟩ := cw_2 s3 h23
    obtain ⟨z2, z20, z21, z22, z23, z24, z25, z26⟩ := cw_1 z1 h35
    have f0 : fI (x13 x3) 0 = fI (F_2 x3) 0 := by rw [z20, z10]
    have f1 : fI (x13 x3) 1 = a2 := by rw [z21]
    have f2 : fI (x13 x3) 2 = a2 := by rw [z22, z12]
    have f3 : fI (x13 x3) 3 = fI (F_2 x3) 3 := by rw [z23, z13]
    have f4 : fI (x13 x3) 4 = fI (F_2 x3) 4 := by rw [z24, z14]
    have f5 : fI (x13 x3) 5 = fI (F_2 x3) 5 := by rw [z25, z15]
    have f6 : fI (x13 x3) 6 = fI (F_2 x3) 6 := by rw [z26, z16]
    have r15 : fI (F_2 x3) 0 = x4 := h15
    have r16 : fI (F_2 x3) 5 = x5 := h16
    have r20 : fI (F_2 x3) 2 = x7 := h20
    have r24 : fI (F_2 x3) 0 = x4 := by rw [← h24, z10]
    have r25 : fI (F_2 x3) 6 = x9 := by rw [← h25, z16]
    have r32 : fI (F_2 x3) 1 = x12 := by rw [← h32, z11]
    have nl := rn_ln hw hv (qk_l hO hb hj3) hl f0 f4 f5 f6 (by unfold chA; rw [r15, r16, r20]; exact Or.inl ⟨by omega, by rw [f2]⟩) (by unfold chB; rw [r15, r25]; exact Or.inr ⟨by omega, f3⟩) (by unfold chT; rw [r15, r32]; exact Or.inl ⟨by omega, by rw [f1]⟩)
    have pt := rfX_put (F1 := x13) (Q := pgRm Q a1.toInt a2.toInt b j) (b := b) (j := j) (l := rnL a1.toInt a2.toInt (Q.2.2.1 b j)) h2 hc hcf hQ6 hx hB2 hb hj3 (by rw [← e3]; exact fun x hx2 => by rw [h34 x hx2, h22 x hx2]) (by rw [pgRm_l]; rfl) (by rw [← e3]; exact nl)
    rw [pgRm_s] at pt
    exact ih (j + 1) (by omega) hj3 pt
  · intro F_2 l5_2 x1 x2 x3 x4 x5 x6 x7 x8 x9 x10 x11 x12 x13 k e1 h1 h2 h3 h4 h5 h6 h7 h8 h9 h10 h11 h12 h13 h14 h15 h16 h17 h18 h19 h20 h21 h22 h23 h24 h25 h26 h27 h28 h29 h30 h31 h32 h33 h34 ih
    intro j hj hj2 hx
    have hB := hB2 b hb
    rw [← hc1] at hB
    obtain ⟨ll, nn, pp, ss, v1, ⟨g1, g2, g3⟩, v3, v4, v5, -⟩ := show rk_2 γ c1 (F_2 c1) from RS_o h2 hB
    have ex1 : x1 = rwL γ el q0 b := by
      rw [← h7, v1]
      show ll = γ 14 (el (γ 14 q0) b)
      rw [← hc1, g1]
    have m : γ 2 (rwL γ el q0 b) + 1 = Q.2.1 b := (hx.2.1 b hb).1
    rw [ex1] at h8
    have e3 : x3 = rAt γ el q0 b j := by
      rw [h13, ex1, show l5_2.toInt.toNat = j by rw [hj]; rfl]
      exact (if_pos (show j < γ 2 (rwL γ el q0 b) by omega)).symm
    have hj3 : j < Q.2.1 b := by omega
    have k3 := (rAt_k (j := j) h2 hc hcf (show b < γ 6 f by omega)).1
    rw [← e3] at k3
    have s3 : rwS (F_2 x3) := rwS_1 (RS_o h2 k3)
    have hl := hx.2.2 b hb j (show j ≤ γ 2 (rwL γ el q0 b) by omega)
    rw [← e3] at hl
    unfold lnQ at hl
    rw [pgRm_l] at hl
    have uA := uA_tr h18
    have uB := uB_tr h27
    have uS := ss_tr h32
    obtain ⟨z1, z10, z11, z12, z13, z14, z15, z16⟩ := cw_2 s3 h23
    have f0 : fI (x8 x3) 0 = fI (F_2 x3) 0 := by rw [z10]
    have f1 : fI (x8 x3) 1 = fI (F_2 x3) 1 := by rw [z11]
    have f2 : fI (x8 x3) 2 = a2 := by rw [z12]
    have f3 : fI (x8 x3) 3 = fI (F_2 x3) 3 := by rw [z13]
    have f4 : fI (x8 x3) 4 = fI (F_2 x3) 4 := by rw [z14]
    have f5 : fI (x8 x3) 5 = fI (F_2 x3) 5 := by rw [z15]
    have f6 : fI (x8 x3) 6 = fI (F_2 x3) 6 := by rw [z16]
    have r15 : fI (F_2 x3) 0 = x4 := h15
    have r16 : fI (F_2 x3) 5 = x5 := h16
    have r20 : fI (F_2 x3) 2 = x7 := h20
    have r24 : fI (F_2 x3) 0 = x4 := by rw [← h24, z10]
    have r25 : fI (F_2 x3) 6 = x9 := by rw [← h25, z16]
    have r29 : fI (F_2 x3) 3 = x11 := by rw [← h29, z13]
    have nl := rn_ln hw hv (qk_l hO hb hj3) hl f0 f4 f5 f6 (by unfold chA; rw [r15, r16, r20]; exact Or.inl ⟨by omega, by rw [f2]⟩) (by unfold chB; rw [r15, r25, r29]; first | exact Or.inr ⟨by omega, f3.trans r29⟩ | exact Or.inr ⟨by omega, rfl⟩) (by unfold chT; rw [r15]; exact Or.inr ⟨by omega, f1⟩)
    have pt := rfX_put (F1 := x8) (Q := pgRm Q a1.toInt a2.toInt b j) (b := b) (j := j) (l := rnL a1.toInt a2.toInt (Q.2.2.1 b j)) h2 hc hcf hQ6 hx hB2 hb hj3 (by rw [← e3]; exact fun x hx2 => by rw [h22 x hx2]) (by rw [pgRm_l]; rfl) (by rw [← e3]; exact nl)
    rw [pgRm_s] at pt
    exact ih (j + 1) (by omega) hj3 pt
  · intro F_2 l5_2 x1 x2 x3 x4 x5 x6 x7 x8 x9 x10 x11 x12 x13 x14 k e1 h1 h2 h3 h4 h5 h6 h7 h8 h9 h10 h11 h12 h13 h14 h15 h16 h17 h18 h19 h20 h21 h22 h23 h24 h25 h26 h27 h28 h29 h30 h31 h32 h33 h34 h35 h36 ih
    intro j hj hj2 hx
    have hB := hB2 b hb
    rw [← hc1] at hB
    obtain ⟨ll, nn, pp, ss, v1, ⟨g1, g2, g3⟩, v3, v4, v5, -⟩ := show rk_2 γ c1 (F_2 c1) from RS_o h2 hB
    have ex1 : x1 = rwL γ el q0 b := by
      rw [← h7, v1]
      show ll = γ 14 (el (γ 14 q0) b)
      rw [← hc1, g1]
    have m : γ 2 (rwL γ el q0 b) + 1 = Q.2.1 b := (hx.2.1 b hb).1
    rw [ex1] at h8
    have e3 : x3 = rAt γ el q0 b j := by
      rw [h13, ex1, show l5_2.toInt.toNat = j by rw [hj]; rfl]
      exact (if_pos (show j < γ 2 (rwL γ el q0 b) by omega)).symm
    have hj3 : j < Q.2.1 b := by omega
    have k3 := (rAt_k (j := j) h2 hc hcf (show b < γ 6 f by omega)).1
    rw [← e3] at k3
    have s3 : rwS (F_2 x3) := rwS_1 (RS_o h2 k3)
    have hl := hx.2.2 b hb j (show j ≤ γ 2 (rwL γ el q0 b) by omega)
    rw [← e3] at hl
    unfold lnQ at hl
    rw [pgRm_l] at hl
    have uA := uA_tr h18
    have uB := uB_tr h27
    have uS := ss_tr h32
    obtain ⟨z1, z10, z11, z12, z13, z14, z15, z16⟩ := cw_2 s3 h23
    have f0 : fI (x8 x3) 0 = fI (F_2 x3) 0 := by rw [z10]
    have f1 : fI (x8 x3) 1 = fI (F_2 x3) 1 := by rw [z11]
    have f2 : fI (x8 x3) 2 = a2 := by rw [z12]
    have f3 : fI (x8 x3) 3 = fI (F_2 x3) 3 := by rw [z13]
    have f4 : fI (x8 x3) 4 = fI (F_2 x3) 4 := by rw [z14]
    have f5 : fI (x8 x3) 5 = fI (F_2 x3) 5 := by rw [z15]
    have f6 : fI (x8 x3) 6 = fI (F_2 x3) 6 := by rw [z16]
    have r15 : fI (F_2 x3) 0 = x4 := h15
    have r16 : fI (F_2 x3) 5 = x5 := h16
    have r20 : fI (F_2 x3) 2 = x7 := h20
    have r24 : fI (F_2 x3) 0 = x4 := by rw [← h24, z10]
    have r25 : fI (F_2 x3) 6 = x9 := by rw [← h25, z16]
    have r29 : fI (F_2 x3) 3 = x11 := by rw [← h29, z13]
    have r34 : fI (F_2 x3) 1 = x13 := by rw [← h34, z11]
    have nl := rn_ln hw hv (qk_l hO hb hj3) hl f0 f4 f5 f6 (by unfold chA; rw [r15, r16, r20]; exact Or.inl ⟨by omega, by rw [f2]⟩) (by unfold chB; rw [r15, r25, r29]; first | exact Or.inr ⟨by omega, f3.trans r29⟩ | exact Or.inr ⟨by omega, rfl⟩) (by unfold chT; rw [r15, r34]; first | exact Or.inr ⟨by omega, f1.trans r34⟩ | exact Or.inr ⟨by omega, rfl⟩)
    have pt := rfX_put (F1 := x8) (Q := pgRm Q a1.toInt a2.toInt b j) (b := b) (j := j) (l := rnL a1.toInt a2.toInt (Q.2.2.1 b j)) h2 hc hcf hQ6 hx hB2 hb hj3 (by rw [← e3]; exact fun x hx2 => by rw [h22 x hx2]) (by rw [pgRm_l]; rfl) (by rw [← e3]; exact nl)
    rw [pgRm_s] at pt
    exact ih (j + 1) (by omega) hj3 pt
  · intro F_2 l5_2 x1 x2 x3 x4 x5 x6 x7 x8 x9 x10 x11 x12 x13 x14 x15 k e1 h1 h2 h3 h4 h5 h6 h7 h8 h9 h10 h11 h12 h13 h14 h15 h16 h17 h18 h19 h20 h21 h22 h23 h24 h25 h26 h27 h28 h29 h30 h31 h32 h33 h34 h35 h36 h37 h38 ih
    intro j hj hj2 hx
    have hB := hB2 b hb
    rw [← hc1] at hB
    obtain ⟨ll, nn, pp, ss, v1, ⟨g1, g2, g3⟩, v3, v4, v5, -⟩ := show rk_2 γ c1 (F_2 c1) from RS_o h2 hB
    have ex1 : x1 = rwL γ el q0 b := by
      rw [← h7, v1]
      show ll = γ 14 (el (γ 14 q0) b)
      rw [← hc1, g1]
    have m : γ 2 (rwL γ el q0 b) + 1 = Q.2.1 b := (hx.2.1 b hb).1
    rw [ex1] at h8
    have e3 : x3 = rAt γ el q0 b j := by
      rw [h13, ex1, show l5_2.toInt.toNat = j by rw [hj]; rfl]
      exact (if_pos (show j < γ 2 (rwL γ el q0 b) by omega)).symm
    have hj3 : j < Q.2.1 b := by omega
    have k3 := (rAt_k (j := j) h2 hc hcf (show b < γ 6 f by omega)).1
    rw [← e3] at k3
    have s3 : rwS (F_2 x3) := rwS_1 (RS_o h2 k3)
    have hl := hx.2.2 b hb j (show j ≤ γ 2 (rwL γ el q0 b) by omega)
    rw [← e3] at hl
    unfold lnQ at hl
    rw [pgRm_l] at hl
    have uA := uA_tr h18
    have uB := uB_tr h27
    have uS := ss_tr h32
    obtain ⟨z1, z10, z11, z12, z13, z14, z15, z16⟩ := cw_2 s3 h23
    obtain ⟨z2, z20, z21, z22, z23, z24, z25, z26⟩ := cw_1 z1 h37
    have f0 : fI (x14 x3) 0 = fI (F_2 x3) 0 := by rw [z20, z10]
    have f1 : fI (x14 x3) 1 = a2 := by rw [z21]
    have f2 : fI (x14 x3) 2 = a2 := by rw [z22, z12]
    have f3 : fI (x14 x3) 3 = fI (F_2 x3) 3 := by rw [z23, z13]
    have f4 : fI (x14 x3) 4 = fI (F_2 x3) 4 := by rw [z24, z14]
    have f5 : fI (x14 x3) 5 = fI (F_2 x3) 5 := by rw [z25, z15]
    have f6 : fI (x14 x3) 6 = fI (F_2 x3) 6 := by rw [z26, z16]
    have r15 : fI (F_2 x3) 0 = x4 := h15
    have r16 : fI (F_2 x3) 5 = x5 := h16
    have r20 : fI (F_2 x3) 2 = x7 := h20
    have r24 : fI (F_2 x3) 0 = x4 := by rw [← h24, z10]
    have r25 : fI (F_2 x3) 6 = x9 := by rw [← h25, z16]
    have r29 : fI (F_2 x3) 3 = x11 := by rw [← h29, z13]
    have r34 : fI (F_2 x3) 1 = x13 := by rw [← h34, z11]
    have nl := rn_ln hw hv (qk_l hO hb hj3) hl f0 f4 f5 f6 (by unfold chA; rw [r15, r16, r20]; exact Or.inl ⟨by omega, by rw [f2]⟩) (by unfold chB; rw [r15, r25, r29]; first | exact Or.inr ⟨by omega, f3.trans r29⟩ | exact Or.inr ⟨by omega, rfl⟩) (by unfold chT; rw [r15, r34]; exact Or.inl ⟨by omega, by rw [f1]⟩)
    have pt := rfX_put (F1 := x14) (Q := pgRm Q a1.toInt a2.toInt b j) (b := b) (j := j) (l := rnL a1.toInt a2.toInt (Q.2.2.1 b j)) h2 hc hcf hQ6 hx hB2 hb hj3 (by rw [← e3]; exact fun x hx2 => by rw [h36 x hx2, h22 x hx2]) (by rw [pgRm_l]; rfl) (by rw [← e3]; exact nl)
    rw [pgRm_s] at pt
    exact ih (j + 1) (by omega) hj3 pt
  · intro F_2 l5_2 x1 x2 x3 x4 x5 x6 x7 x8 x9 x10 x11 x12 x13 x14 k e1 h1 h2 h3 h4 h5 h6 h7 h8 h9 h10 h11 h12 h13 h14 h15 h16 h17 h18 h19 h20 h21 h22 h23 h24 h25 h26 h27 h28 h29 h30 h31 h32 h33 h34 h35 h36 h37 ih
    intro j hj hj2 hx
    have hB := hB2 b hb
    rw [← hc1] at hB
    obtain ⟨ll, nn, pp, ss, v1, ⟨g1, g2, g3⟩, v3, v4, v5, -⟩ := show rk_2 γ c1 (F_2 c1) from RS_o h2 hB
    have ex1 : x1 = rwL γ el q0 b := by
      rw [← h7, v1]
      show ll = γ 14 (el (γ 14 q0) b)
      rw [← hc1, g1]
    have m : γ 2 (rwL γ el q0 b) + 1 = Q.2.1 b := (hx.2.1 b hb).1
    rw [ex1] at h8
    have e3 : x3 = rAt γ el q0 b j := by
      rw [h13, ex1, show l5_2.toInt.toNat = j by rw [hj]; rfl]
      exact (if_pos (show j < γ 2 (rwL γ el q0 b) by omega)).symm
    have hj3 : j < Q.2.1 b := by omega
    have k3 := (rAt_k (j := j) h2 hc hcf (show b < γ 6 f by omega)).1
    rw [← e3] at k3
    have s3 : rwS (F_2 x3) := rwS_1 (RS_o h2 k3)
    have hl := hx.2.2 b hb j (show j ≤ γ 2 (rwL γ el q0 b) by omega)
    rw [← e3] at hl
    unfold lnQ at hl
    rw [pgRm_l] at hl
    have uA := uA_tr h18
    have uB := uB_tr h27
    have uS := ss_tr h35
    obtain ⟨z1, z10, z11, z12, z13, z14, z15, z16⟩ := cw_2 s3 h23
    obtain ⟨z2, z20, z21, z22, z23, z24, z25, z26⟩ := cw_3 z1 h32
    have f0 : fI (x12 x3) 0 = fI (F_2 x3) 0 := by rw [z20, z10]
    have f1 : fI (x12 x3) 1 = fI (F_2 x3) 1 := by rw [z21, z11]
    have f2 : fI (x12 x3) 2 = a2 := by rw [z22, z12]
    have f3 : fI (x12 x3) 3 = a2 := by rw [z23]
    have f4 : fI (x12 x3) 4 = fI (F_2 x3) 4 := by rw [z24, z14]
    have f5 : fI (x12 x3) 5 = fI (F_2 x3) 5 := by rw [z25, z15]
    have f6 : fI (x12 x3) 6 = fI (F_2 x3) 6 := by rw [z26, z16]
    have r15 : fI (F_2 x3) 0 = x4 := h15
    have r16 : fI (F_2 x3) 5 = x5 := h16
    have r20 : fI (F_2 x3) 2 = x7 := h20
    have r24 : fI (F_2 x3) 0 = x4 := by rw [← h24, z10]
    have r25 : fI (F_2 x3) 6 = x9 := by rw [← h25, z16]
    have r29 : fI (F_2 x3) 3 = x11 := by rw [← h29, z13]
    have r33 : fI (F_2 x3) 0 = x4 := by rw [← h33, z20, z10]
    have nl := rn_ln hw hv (qk_l hO hb hj3) hl f0 f4 f5 f6 (by unfold chA; rw [r15, r16, r20]; exact Or.inl ⟨by omega, by rw [f2]⟩) (by unfold chB; rw [r15, r25, r29]; exact Or.inl ⟨by omega, by rw [f3]⟩) (by unfold chT; rw [r15]; exact Or.inr ⟨by omega, f1⟩)
    have pt := rfX_put (F1 := x12) (Q := pgRm Q a1.toInt a2.toInt b j) (b := b) (j := j) (l := rnL a1.toInt a2.toInt (Q.2.2.1 b j)) h2 hc hcf hQ6 hx hB2 hb hj3 (by rw [← e3]; exact fun x hx2 => by rw [h31 x hx2, h22 x hx2]) (by rw [pgRm_l]; rfl) (by rw [← e3]; exact nl)
    rw [pgRm_s] at pt
    exact ih (j + 1) (by omega) hj3 pt
  · intro F_2 l5_2 x1 x2 x3 x4 x5 x6 x7 x8 x9 x10 x11 x12 x13 x14 x15 k e1 h1 h2 h3 h4 h5 h6 h7 h8 h9 h10 h11 h12 h13 h14 h15 h16 h17 h18 h19 h20 h21 h22 h23 h24 h25 h26 h27 h28 h29 h30 h31 h32 h33 h34 h35 h36 h37 h38 h39 ih
    intro j hj hj2 hx
    have hB := hB2 b hb
    rw [← hc1] at hB
    obtain ⟨ll, nn, pp, ss, v1, ⟨g1, g2, g3⟩, v3, v4, v5, -⟩ := show rk_2 γ c1 (F_2 c1) from RS_o h2 hB
    have ex1 : x1 = rwL γ el q0 b := by
      rw [← h7, v1]
      show ll = γ 14 (el (γ 14 q0) b)
      rw [← hc1, g1]
    have m : γ 2 (rwL γ el q0 b) + 1 = Q.2.1 b := (hx.2.1 b hb).1
    rw [ex1] at h8
    have e3 : x3 = rAt γ el q0 b j := by
      rw [h13, ex1, show l5_2.toInt.toNat = j by rw [hj]; rfl]
      exact (if_pos (show j < γ 2 (rwL γ el q0 b) by omega)).symm
    have hj3 : j < Q.2.1 b := by omega
    have k3 := (rAt_k (j := j) h2 hc hcf (show b < γ 6 f by omega)).1
    rw [← e3] at k3
    have s3 : rwS (F_2 x3) := rwS_1 (RS_o h2 k3)
    have hl := hx.2.2 b hb j (show j ≤ γ 2 (rwL γ el q0 b) by omega)
    rw [← e3] at hl
    unfold lnQ at hl
    rw [pgRm_l] at hl
    have uA := uA_tr h18
    have uB := uB_tr h27
    have uS := ss_tr h35
    obtain ⟨z1, z10, z11, z12, z13, z14, z15, z16⟩ := cw_2 s3 h23
    obtain ⟨z2, z20, z21, z22, z23, z24, z25, z26⟩ := cw_3 z1 h32
    have f0 : fI (x12 x3) 0 = fI (F_2 x3) 0 := by rw [z20, z10]
    have f1 : fI (x12 x3) 1 = fI (F_2 x3) 1 := by rw [z21, z11]
    have f2 : fI (x12 x3) 2 = a2 := by rw [z22, z12]
    have f3 : fI (x12 x3) 3 = a2 := by rw [z23]
    have f4 : fI (x12 x3) 4 = fI (F_2 x3) 4 := by rw [z24, z14]
    have f5 : fI (x12 x3) 5 = fI (F_2 x3) 5 := by rw [z25, z15]
    have f6 : fI (x12 x3) 6 = fI (F_2 x3) 6 := by rw [z26, z16]
    have r15 : fI (F_2 x3) 0 = x4 := h15
    have r16 : fI (F_2 x3) 5 = x5 := h16
    have r20 : fI (F_2 x3) 2 = x7 := h20
    have r24 : fI (F_2 x3) 0 = x4 := by rw [← h24, z10]
    have r25 : fI (F_2 x3) 6 = x9 := by rw [← h25, z16]
    have r29 : fI (F_2 x3) 3 = x11 := by rw [← h29, z13]
    have r33 : fI (F_2 x3) 0 = x4 := by rw [← h33, z20, z10]
    have r37 : fI (F_2 x3) 1 = x14 := by rw [← h37, z21, z11]
    have nl := rn_ln hw hv (qk_l hO hb hj3) hl f0 f4 f5 f6 (by unfold chA; rw [r15, r16, r20]; exact Or.inl ⟨by omega, by rw [f2]⟩) (by unfold chB; rw [r15, r25, r29]; exact Or.inl ⟨by omega, by rw [f3]⟩) (by unfold chT; rw [r15, r37]; first | exact Or.inr ⟨by omega, f1.trans r37⟩ | exact Or.inr ⟨by omega, rfl⟩)
    have pt := rfX_put (F1 := x12) (Q := pgRm Q a1.toInt a2.toInt b j) (b := b) (j := j) (l := rnL a1.toInt a2.toInt (Q.2.2.1 b j)) h2 hc hcf hQ6 hx hB2 hb hj3 (by rw [← e3]; exact fun x hx2 => by rw [h31 x hx2, h22 x hx2]) (by rw [pgRm_l]; rfl) (by rw [← e3]; exact nl)
    rw [pgRm_s] at pt
    exact ih (j + 1) (by omega) hj3 pt
  · intro F_2 l5_2 x1 x2 x3 x4 x5 x6 x7 x8 x9 x10 x11 x12 x13 x14 x15 x16 k e1 h1 h2 h3 h4 h5 h6 h7 h8 h9 h10 h11 h12 h13 h14 h15 h16 h17 h18 h19 h20 h21 h22 h23 h24 h25 h26 h27 h28 h29 h30 h31 h32 h33 h34 h35 h36 h37 h38 h39 h40 h41 ih
    intro j hj hj2 hx
    have hB := hB2 b hb
    rw [← hc1] at hB
    obtain ⟨ll, nn, pp, ss, v1, ⟨g1, g2, g3⟩, v3, v4, v5, -⟩ := show rk_2 γ c1 (F_2 c1) from RS_o h2 hB
    have ex1 : x1 = rwL γ el q0 b := by
      rw [← h7, v1]
      show ll = γ 14 (el (γ 14 q0) b)
      rw [← hc1, g1]
    have m : γ 2 (rwL γ el q0 b) + 1 = Q.2.1 b := (hx.2.1 b hb).1
    rw [ex1] at h8
    have e3 : x3 = rAt γ el q0 b j := by
      rw [h13, ex1, show l5_2.toInt.toNat = j by rw [hj]; rfl]
      exact (if_pos (show j < γ 2 (rwL γ el q0 b) by omega)).symm
    have hj3 : j < Q.2.1 b := by omega
    have k3 := (rAt_k (j := j) h2 hc hcf (show b < γ 6 f by omega)).1
    rw [← e3] at k3
    have s3 : rwS (F_2 x3) := rwS_1 (RS_o h2 k3)
    have hl := hx.2.2 b hb j (show j ≤ γ 2 (rwL γ el q0 b) by omega)
    rw [← e3] at hl
    unfold lnQ at hl
    rw [pgRm_l] at hl
    have uA := uA_tr h18
    have uB := uB_tr h27
    have uS := ss_tr h35
    obtain ⟨z1, z10, z11, z12, z13, z14, z15, z16⟩ := cw_2 s3 h23
    obtain ⟨z2, z20, z21, z22, z23, z24, z25, z26⟩ := cw_3 z1 h32
    obtain ⟨z3, z30, z31, z32, z33, z34, z35, z36⟩ := cw_1 z2 h40
    have f0 : fI (x15 x3) 0 = fI (F_2 x3) 0 := by rw [z30, z20, z10]
    have f1 : fI (x15 x3) 1 = a2 := by rw [z31]
    have f2 : fI (x15 x3) 2 = a2 := by rw [z32, z22, z12]
    have f3 : fI (x15 x3) 3 = a2 := by rw [z33, z23]
    have f4 : fI (x15 x3) 4 = fI (F_2 x3) 4 := by rw [z34, z24, z14]
    have f5 : fI (x15 x3) 5 = fI (F_2 x3) 5 := by rw [z35, z25, z15]
    have f6 : fI (x15 x3) 6 = fI (F_2 x3) 6 := by rw [z36, z26, z16]
    have r15 : fI (F_2 x3) 0 = x4 := h15
    have r16 : fI (F_2 x3) 5 = x5 := h16
    have r20 : fI (F_2 x3) 2 = x7 := h20
    have r24 : fI (F_2 x3) 0 = x4 := by rw [← h24, z10]
    have r25 : fI (F_2 x3) 6 = x9 := by rw [← h25, z16]
    have r29 : fI (F_2 x3) 3 = x11 := by rw [← h29, z13]
    have r33 : fI (F_2 x3) 0 = x4 := by rw [← h33, z20, z10]
    have r37 : fI (F_2 x3) 1 = x14 := by rw [← h37, z21, z11]
    have nl := rn_ln hw hv (qk_l hO hb hj3) hl f0 f4 f5 f6 (by unfold chA; rw [r15, r16, r20]; exact Or.inl ⟨by omega, by rw [f2]⟩) (by unfold chB; rw [r15, r25, r29]; exact Or.inl ⟨by omega, by rw [f3]⟩) (by unfold chT; rw [r15, r37]; exact Or.inl ⟨by omega, by rw [f1]⟩)
    have pt := rfX_put (F1 := x15) (Q := pgRm Q a1.toInt a2.toInt b j) (b := b) (j := j) (l := rnL a1.toInt a2.toInt (Q.2.2.1 b j)) h2 hc hcf hQ6 hx hB2 hb hj3 (by rw [← e3]; exact fun x hx2 => by rw [h39 x hx2, h31 x hx2, h22 x hx2]) (by rw [pgRm_l]; rfl) (by rw [← e3]; exact nl)
    rw [pgRm_s] at pt
    exact ih (j + 1) (by omega) hj3 pt
theorem rr2_tl {a2 : Int32} {a1 : Int32} {q0 : Nat} {s1 : Nat → va_E} {s2 : Int32} {k : Nat} {e1 : Nat → va_E} (hc : γ 0 q0 = 9) (hcf : γ 1 q0 = f) (hQ6 : γ 6 f = Q.1) (hB2 : ∀ i, i < Q.1 → γ 0 (el (γ 14 q0) i) = 2) (hO : qOk Q) (hw : 0 ≤ a1.toInt) (hv : 0 ≤ a2.toInt) (h : tl_RModel_rename_2 D I γ el P F a2 a1 q0 s1 s2 k e1) : ∀ b : Nat, s2.toInt = (b : Int) → b ≤ Q.1 → rfX γ el s1 q0 (pgRm Q a1.toInt a2.toInt b 0) → rfX γ el e1 q0 (pgRm Q a1.toInt a2.toInt Q.1 0) := by
  refine h (fun s1 s2 _ e1 => ∀ b : Nat, s2.toInt = (b : Int) → b ≤ Q.1 → rfX γ el s1 q0 (pgRm Q a1.toInt a2.toInt b 0) → rfX γ el e1 q0 (pgRm Q a1.toInt a2.toInt Q.1 0)) ?_ ?_
  · intro F_1 l3_1 x1 h1 h2 h3 h4 h5 h6 h7 h8
    intro b hb hb2 hx
    have q := hx.1
    have q' : (fI (F_1 q0) 3).toInt = (Q.1 : Int) := q
    rw [h7] at q'
    rw [show Q.1 = b by omega]
    exact hx
  · intro F_1 l3_1 x1 x2 x3 x4 x5 x6 k e1 h1 h2 h3 h4 h5 h6 h7 h8 h9 h10 h11 h12 h13 h14 ih
    intro b hb hb2 hx
    have q' : (fI (F_1 q0) 3).toInt = (Q.1 : Int) := hx.1
    rw [h7] at q'
    have hb3 : b < Q.1 := by omega
    obtain ⟨lb, lr, rn, md, w1, ⟨w2, -⟩, -⟩ := show rk_9 γ el q0 (F_1 q0) from RS_o h2 hc
    have e3 : x3 = el (γ 14 q0) b := by
      rw [h10, ← h9, w1, show l3_1.toInt.toNat = b by rw [hb]; rfl]
      show el lb b = _
      rw [w2]
    have r := rr20_tl hc hcf hQ6 hB2 hO hw hv hb3 e3 h13 0 (by decide) (Nat.zero_le _) hx
    refine ih (b + 1) (by omega) (by omega) (rfX_c r rfl (fun i hi => ⟨rfl, rfl, fun k hk => ?_⟩))
    show (if i < b + 1 ∨ (i = b + 1 ∧ k < 0) then rnL a1.toInt a2.toInt (Q.2.2.1 i k) else Q.2.2.1 i k) = (if i < b ∨ (i = b ∧ k < Q.2.1 b) then rnL a1.toInt a2.toInt (Q.2.2.1 i k) else Q.2.2.1 i k)
    have hk' : k < Q.2.1 i := hk
    by_cases e : i < b + 1
    · rw [if_pos (Or.inl e), if_pos ?_]
      by_cases e2 : i = b
      · rw [e2] at hk'; exact Or.inr ⟨e2, hk'⟩
      · exact Or.inl (by omega)
    · rw [if_neg (by omega), if_neg (by omega)]
theorem rnm_tr {q0 : Nat} {a1 : Int32} {a2 : Int32} {o1 : Nat → va_E} (hc : γ 0 q0 = 9) (hcf : γ 1 q0 = f) (hQ6 : γ 6 f = Q.1) (hB2 : ∀ i, i < Q.1 → γ 0 (el (γ 14 q0) i) = 2) (hO : qOk Q) (hw : 0 ≤ a1.toInt) (hv : 0 ≤ a2.toInt) (hq : rfX γ el F q0 Q) (h : tr_RModel_rename D I γ el P F q0 a1 a2 o1) : rfX γ el o1 q0 (pgRn Q a1.toInt a2.toInt) := by
  refine h (fun o1 => rfX γ el o1 q0 (pgRn Q a1.toInt a2.toInt)) ?_
  · intro x1 h1
    have r := rr2_tl hc hcf hQ6 hB2 hO hw hv h1 0 (by decide) (Nat.zero_le _) (rfX_c hq rfl (fun i hi => ⟨rfl, rfl, fun k hk => if_neg (by omega)⟩))
    exact rfX_c r rfl (fun i hi => ⟨rfl, rfl, fun k hk => (if_pos (Or.inl hi)).symm⟩)
theorem dgR {q0 r : Nat} {x : Int32} {g : Nat → Int64} (hT : RS D I P F γ el) (hm : γ 0 q0 = 10) (hG : ∀ n k, n < 2000 → k < 2000 → (egS γ F n k = true ↔ JJ Q n k)) (hr : r < 2000) (hF : F (γ 11 r) = .inl (I .long, 32, .inr (.inl g))) (h : tr_RModel_count g x) : x = dgc Q r := by
  refine dgc_e ⟨g, 0, fun y hy => ?_, co_tr h⟩
  have e : cL (F (γ 11 r)) = g := by rw [hF]; rfl
  by_cases c : y < 2000
  · rw [← hG r y hr c]
    unfold egS rbt gbit
    rw [e, Nat.mul_zero, Nat.zero_add]
  · refine ⟨fun z => ?_, fun z => absurd (JJ_lt z).2 c⟩
    rw [Nat.mul_zero, Nat.zero_add, ← e] at z
    exact absurd z (hi0 hT hm r y hr (by omega) hy rfl)
theorem rm33_tl {q0 : Nat} {a1 : Int32} {a2 : Int32} {a3 : Int32} {s1 : Int32} {s2 : Int32} {k : Nat} {e1 : Int32} {v u : Nat} (hT : RS D I P F γ el) (hm : γ 0 q0 = 10) (hG : ∀ n k, n < 2000 → k < 2000 → (egS γ F n k = true ↔ JJ Q n k)) (hv : a1.toInt = (v : Int)) (hu : a2.toInt = (u : Int)) (hv2 : v < 2000) (hu2 : u < 2000) (h : tl_RModel_mayMerge_33 D I γ el F q0 a1 a2 a3 s1 s2 k e1) : ∀ i : Nat, s1.toInt = (i : Int) → i ≤ 2000 → s2.toInt = (cntP (crw (JJ Q) (dgc Q) a3.toInt v u) i : Int) → e1.toInt = (cntP (crw (JJ Q) (dgc Q) a3.toInt v u) 2000 : Int) := by
  refine h (fun s1 s2 _ e1 => ∀ i : Nat, s1.toInt = (i : Int) → i ≤ 2000 → s2.toInt = (cntP (crw (JJ Q) (dgc Q) a3.toInt v u) i : Int) → e1.toInt = (cntP (crw (JJ Q) (dgc Q) a3.toInt v u) 2000 : Int)) ?_ ?_ ?_ ?_ ?_ ?_ ?_ ?_
  · intro l5_1 l4_1 h1 h2
    intro i hi hi2 hs
    rw [hs, show i = 2000 by omega]
  · intro l5_1 l4_1 x1 x2 x3 x4 x5 k e1 h1 h2 h3 h4 h5 h6 h7 h8 h9 h10 ih
    intro i hi hi2 hs
    have hi3 : i < 2000 := by omega
    have ei : l5_1.toInt.toNat = i := by rw [hi]; rfl
    rw [show a1.toInt.toNat = v by rw [hv]; rfl] at h4
    rw [show a2.toInt.toNat = u by rw [hu]; rfl] at h7
    rw [h4] at h5
    rw [h7] at h8
    have p1 := ha_tr (by omega) h6
    have p2 := ha_tr (by omega) h9
    rw [ei] at p1 p2
    have q1 := hG v i hv2 hi3
    have q2 := hG u i hu2 hi3
    rw [show egS γ F v i = rbt x2 i by unfold egS; rw [h5]; rfl] at q1
    rw [show egS γ F u i = rbt x4 i by unfold egS; rw [h8]; rfl] at q2
    have j1 : ¬ JJ Q v i := fun z => by
      have y := q1.mpr z
      rcases p1 with ⟨-, w⟩ | ⟨w, -⟩
      · rw [w] at y; cases y
      · exact absurd w (by decide)
    have j2 : ¬ JJ Q u i := fun z => by
      have y := q2.mpr z
      rcases p2 with ⟨-, w⟩ | ⟨w, -⟩
      · rw [w] at y; cases y
      · exact absurd w (by decide)
    have le := cntP_le (T := crw (JJ Q) (dgc Q) a3.toInt v u) i
    have cr : ¬ crw (JJ Q) (dgc Q) a3.toInt v u i := fun z => z.elim (fun y => j1 y.1) (fun y => y.2.1.elim j1 j2)
    have cn : cntP (crw (JJ Q) (dgc Q) a3.toInt v u) (i + 1) = cntP (crw (JJ Q) (dgc Q) a3.toInt v u) i := by
      show cntP (crw (JJ Q) (dgc Q) a3.toInt v u) i + @ite Nat (crw (JJ Q) (dgc Q) a3.toInt v u i) (Classical.propDecidable _) 1 0 = _
      rw [if_neg cr, Nat.add_zero]
    exact ih (i + 1) (by omega) (by omega) (by rw [cn]; omega)
  · intro l5_1 l4_1 x1 x2 x3 x4 x5 x6 x7 x8 x9 x10 k e1 h1 h2 h3 h4 h5 h6 h7 h8 h9 h10 h11 h12 h13 h14 h15 h16 ih
    intro i hi hi2 hs
    have hi3 : i < 2000 := by omega
    have ei : l5_1.toInt.toNat = i := by rw [hi]; rfl
    rw [show a1.toInt.toNat = v by rw [hv]; rfl] at h4
    rw [show a2.toInt.toNat = u by rw [hu]; rfl] at h7
    rw [h4] at h5
    rw [h7] at h8
    have p1 := ha_tr (by omega) h6
    have p2 := ha_tr (by omega) h9
    rw [ei] at p1 p2
    have q1 := hG v i hv2 hi3
    have q2 := hG u i hu2 hi3
    rw [show egS γ F v i = rbt x2 i by unfold egS; rw [h5]; rfl] at q1
    rw [show egS γ F u i = rbt x4 i by unfold egS; rw [h8]; rfl] at q2
    have j1 : ¬ JJ Q v i := fun z => by
      have y := q1.mpr z
      rcases p1 with ⟨-, w⟩ | ⟨w, -⟩
      · rw [w] at y; cases y
      · exact absurd w (by decide)
    have j2 : JJ Q u i := q2.mp (p2.elim (fun z => absurd z.1 (by decide)) (fun z => z.2))
    rw [ei] at h10
    rw [h10] at h11
    have dg := dgR hT hm hG hi3 h11 h12
    have e8 : x8.toInt = (dgc Q i).toInt := by rw [← dg]; omega
    have cr : ¬ crw (JJ Q) (dgc Q) a3.toInt v u i := fun z => z.elim (fun y => j1 y.1) (fun y => by have := y.2.2; omega)
    have le := cntP_le (T := crw (JJ Q) (dgc Q) a3.toInt v u) i
    have cn : cntP (crw (JJ Q) (dgc Q) a3.toInt v u) (i + 1) = cntP (crw (JJ Q) (dgc Q) a3.toInt v u) i := by
      show cntP (crw (JJ Q) (dgc Q) a3.toInt v u) i + @ite Nat (crw (JJ Q) (dgc Q) a3.toInt v u i) (Classical.propDecidable _) 1 0 = _
      rw [if_neg cr, Nat.add_zero]
    exact ih (i + 1) (by omega) (by omega) (by rw [cn]; omega)
  · intro l5_1 l4_1 x1 x2 x3 x4 x5 x6 x7 x8 x9 x10 k e1 h1 h2 h3 h4 h5 h6 h7 h8 h9 h10 h11 h12 h13 h14 h15 h16 ih
    intro i hi hi2 hs
    have hi3 : i < 2000 := by omega
    have ei : l5_1.toInt.toNat = i := by rw [hi]; rfl
    rw [show a1.toInt.toNat = v by rw [hv]; rfl] at h4
    rw [show a2.toInt.toNat = u by rw [hu]; rfl] at h7
    rw [h4] at h5
    rw [h7] at h8
    have p1 := ha_tr (by omega) h6
    have p2 := ha_tr (by omega) h9
    rw [ei] at p1 p2
    have q1 := hG v i hv2 hi3
    have q2 := hG u i hu2 hi3
    rw [show egS γ F v i = rbt x2 i by unfold egS; rw [h5]; rfl] at q1
    rw [show egS γ F u i = rbt x4 i by unfold egS; rw [h8]; rfl] at q2
    have j1 : ¬ JJ Q v i := fun z => by
      have y := q1.mpr z
      rcases p1 with ⟨-, w⟩ | ⟨w, -⟩
      · rw [w] at y; cases y
      · exact absurd w (by decide)
    have j2 : JJ Q u i := q2.mp (p2.elim (fun z => absurd z.1 (by decide)) (fun z => z.2))
    rw [ei] at h10
    rw [h10] at h11
    have dg := dgR hT hm hG hi3 h11 h12
    have e8 : x8.toInt = (dgc Q i).toInt := by rw [← dg]; omega
    have cr : crw (JJ Q) (dgc Q) a3.toInt v u i := Or.inr ⟨fun z => j1 z.1, Or.inr j2, by omega⟩
    have le := cntP_le (T := crw (JJ Q) (dgc Q) a3.toInt v u) i
    have cn : cntP (crw (JJ Q) (dgc Q) a3.toInt v u) (i + 1) = cntP (crw (JJ Q) (dgc Q) a3.toInt v u) i + 1 := by
      show cntP (crw (JJ Q) (dgc Q) a3.toInt v u) i + @ite Nat (crw (JJ Q) (dgc Q) a3.toInt v u i) (Classical.propDecidable _) 1 0 = _
      rw [if_pos cr]
    have o1 : Int32.toInt 1 = 1 := by decide
    have a9 := px_add h15 (by omega) (by omega)
    exact ih (i + 1) (by omega) (by omega) (by rw [cn]; omega)
  · intro l5_1 l4_1 x1 x2 x3 x4 x5 x6 x7 x8 x9 x10 k e1 h1 h2 h3 h4 h5 h6 h7 h8 h9 h10 h11 h12 h13 h14 h15 h16 ih
    intro i hi hi2 hs
    have hi3 : i < 2000 := by omega
    have ei : l5_1.toInt.toNat = i := by rw [hi]; rfl
    rw [show a1.toInt.toNat = v by rw [hv]; rfl] at h4
    rw [show a2.toInt.toNat = u by rw [hu]; rfl] at h7
    rw [h4] at h5
    rw [h7] at h8
    have p1 := ha_tr (by omega) h6
    have p2 := ha_tr (by omega) h9
    rw [ei] at p1 p2
    have q1 := hG v i hv2 hi3
    have q2 := hG u i hu2 hi3
    rw [show egS γ F v i = rbt x2 i by unfold egS; rw [h5]; rfl] at q1
    rw [show egS γ F u i = rbt x4 i by unfold egS; rw [h8]; rfl] at q2
    have j1 : JJ Q v i := q1.mp (p1.elim (fun z => absurd z.1 (by decide)) (fun z => z.2))
    have j2 : ¬ JJ Q u i := fun z => by
      have y := q2.mpr z
      rcases p2 with ⟨-, w⟩ | ⟨w, -⟩
      · rw [w] at y; cases y
      · exact absurd w (by decide)
    rw [ei] at h10
    rw [h10] at h11
    have dg := dgR hT hm hG hi3 h11 h12
    have e8 : x8.toInt = (dgc Q i).toInt := by rw [← dg]; omega
    have cr : ¬ crw (JJ Q) (dgc Q) a3.toInt v u i := fun z => z.elim (fun y => j2 y.2.1) (fun y => by have := y.2.2; omega)
    have le := cntP_le (T := crw (JJ Q) (dgc Q) a3.toInt v u) i
    have cn : cntP (crw (JJ Q) (dgc Q) a3.toInt v u) (i + 1) = cntP (crw (JJ Q) (dgc Q) a3.toInt v u) i := by
      show cntP (crw (JJ Q) (dgc Q) a3.toInt v u) i + @ite Nat (crw (JJ Q) (dgc Q) a3.toInt v u i) (Classical.propDecidable _) 1 0 = _
      rw [if_neg cr, Nat.add_zero]
    exact ih (i + 1) (by omega) (by omega) (by rw [cn]; omega)
  · intro l5_1 l4_1 x1 x2 x3 x4 x5 x6 x7 x8 x9 x10 k e1 h1 h2 h3 h4 h5 h6 h7 h8 h9 h10 h11 h12 h13 h14 h15 h16 ih
    intro i hi hi2 hs
    have hi3 : i < 2000 := by omega
    have ei : l5_1.toInt.toNat = i := by rw [hi]; rfl
    rw [show a1.toInt.toNat = v by rw [hv]; rfl] at h4
    rw [show a2.toInt.toNat = u by rw [hu]; rfl] at h7
    rw [h4] at h5
    rw [h7] at h8
    have p1 := ha_tr (by omega) h6
    have p2 := ha_tr (by omega) h9
    rw [ei] at p1 p2
    have q1 := hG v i hv2 hi3
    have q2 := hG u i hu2 hi3
    rw [show egS γ F v i = rbt x2 i by unfold egS; rw [h5]; rfl] at q1
    rw [show egS γ F u i = rbt x4 i by unfold egS; rw [h8]; rfl] at q2
    have j1 : JJ Q v i := q1.mp (p1.elim (fun z => absurd z.1 (by decide)) (fun z => z.2))
    have j2 : ¬ JJ Q u i := fun z => by
      have y := q2.mpr z
      rcases p2 with ⟨-, w⟩ | ⟨w, -⟩
      · rw [w] at y; cases y
      · exact absurd w (by decide)
    rw [ei] at h10
    rw [h10] at h11
    have dg := dgR hT hm hG hi3 h11 h12
    have e8 : x8.toInt = (dgc Q i).toInt := by rw [← dg]; omega
    have cr : crw (JJ Q) (dgc Q) a3.toInt v u i := Or.inr ⟨fun z => j2 z.2, Or.inl j1, by omega⟩
    have le := cntP_le (T := crw (JJ Q) (dgc Q) a3.toInt v u) i
    have cn : cntP (crw (JJ Q) (dgc Q) a3.toInt v u) (i + 1) = cntP (crw (JJ Q) (dgc Q) a3.toInt v u) i + 1 := by
      show cntP (crw (JJ Q) (dgc Q) a3.toInt v u) i + @ite Nat (crw (JJ Q) (dgc Q) a3.toInt v u i) (Classical.propDecidable _) 1 0 = _
      rw [if_pos cr]
    have o1 : Int32.toInt 1 = 1 := by decide
    have a9 := px_add h15 (by omega) (by omega)
    exact ih (i + 1) (by omega) (by omega) (by rw [cn]; omega)
  · intro l5_1 l4_1 x1 x2 x3 x4 x5 x6 x7 x8 x9 x10 k e1 h1 h2 h3 h4 h5 h6 h7 h8 h9 h10 h11 h12 h13 h14 h15 h16 ih
    intro i hi hi2 hs
    have hi3 : i < 2000 := by omega
    have ei : l5_1.toInt.toNat = i := by rw [hi]; rfl
    rw [show a1.toInt.toNat = v by rw [hv]; rfl] at h4
    rw [show a2.toInt.toNat = u by rw [hu]; rfl] at h7
    rw [h4] at h5
    rw [h7] at h8
    have p1 := ha_tr (by omega) h6
    have p2 := ha_tr (by omega) h9
    rw [ei] at p1 p2
    have q1 := hG v i hv2 hi3
    have q2 := hG u i hu2 hi3
    rw [show egS γ F v i = rbt x2 i by unfold egS; rw [h5]; rfl] at q1
    rw [show egS γ F u i = rbt x4 i by unfold egS; rw [h8]; rfl] at q2
    have j1 : JJ Q v i := q1.mp (p1.elim (fun z => absurd z.1 (by decide)) (fun z => z.2))
    have j2 : JJ Q u i := q2.mp (p2.elim (fun z => absurd z.1 (by decide)) (fun z => z.2))
    rw [ei] at h10
    rw [h10] at h11
    have dg := dgR hT hm hG hi3 h11 h12
    rw [h13, dg] at h14
    have cr : ¬ crw (JJ Q) (dgc Q) a3.toInt v u i := fun z => z.elim (fun y => by have := y.2.2; omega) (fun y => y.1 ⟨j1, j2⟩)
    have le := cntP_le (T := crw (JJ Q) (dgc Q) a3.toInt v u) i
    have cn : cntP (crw (JJ Q) (dgc Q) a3.toInt v u) (i + 1) = cntP (crw (JJ Q) (dgc Q) a3.toInt v u) i := by
      show cntP (crw (JJ Q) (dgc Q) a3.toInt v u) i + @ite Nat (crw (JJ Q) (dgc Q) a3.toInt v u i) (Classical.propDecidable _) 1 0 = _
      rw [if_neg cr, Nat.add_zero]
    exact ih (i + 1) (by omega) (by omega) (by rw [cn]; omega)
  · intro l5_1 l4_1 x1 x2 x3 x4 x5 x6 x7 x8 x9 x10 k e1 h1 h2 h3 h4 h5 h6 h7 h8 h9 h10 h11 h12 h13 h14 h15 h16 ih
    intro i hi hi2 hs
    have hi3 : i < 2000 := by omega
    have ei : l5_1.toInt.toNat = i := by rw [hi]; rfl
    rw [show a1.toInt.toNat = v by rw [hv]; rfl] at h4
    rw [show a2.toInt.toNat = u by rw [hu]; rfl] at h7
    rw [h4] at h5
    rw [h7] at h8
    have p1 := ha_tr (by omega) h6
    have p2 := ha_tr (by omega) h9
    rw [ei] at p1 p2
    have q1 := hG v i hv2 hi3
    have q2 := hG u i hu2 hi3
    rw [show egS γ F v i = rbt x2 i by unfold egS; rw [h5]; rfl] at q1
    rw [show egS γ F u i = rbt x4 i by unfold egS; rw [h8]; rfl] at q2
    have j1 : JJ Q v i := q1.mp (p1.elim (fun z => absurd z.1 (by decide)) (fun z => z.2))
    have j2 : JJ Q u i := q2.mp (p2.elim (fun z => absurd z.1 (by decide)) (fun z => z.2))
    rw [ei] at h10
    rw [h10] at h11
    have dg := dgR hT hm hG hi3 h11 h12
    rw [h13, dg] at h14
    have cr : crw (JJ Q) (dgc Q) a3.toInt v u i := Or.inl ⟨j1, j2, h14⟩
    have le := cntP_le (T := crw (JJ Q) (dgc Q) a3.toInt v u) i
    have cn : cntP (crw (JJ Q) (dgc Q) a3.toInt v u) (i + 1) = cntP (crw (JJ Q) (dgc Q) a3.toInt v u) i + 1 := by
      show cntP (crw (JJ Q) (dgc Q) a3.toInt v u) i + @ite Nat (crw (JJ Q) (dgc Q) a3.toInt v u i) (Classical.propDecidable _) 1 0 = _
      rw [if_pos cr]
    have o1 : Int32.toInt 1 = 1 := by decide
    have a9 := px_add h15 (by omega) (by omega)
    exact ih (i + 1) (by omega) (by omega) (by rw [cn]; omega)
theorem rmm_tr {q0 : Nat} {a1 : Int32} {a2 : Int32} {a3 : Int32} {o1 : Int32} {v u : Nat} (hT : RS D I P F γ el) (hm : γ 0 q0 = 10) (hG : ∀ n k, n < 2000 → k < 2000 → (egS γ F n k = true ↔ JJ Q n k)) (hv : a1.toInt = (v : Int)) (hu : a2.toInt = (u : Int)) (h : tr_RModel_mayMerge D I γ el F q0 a1 a2 a3 o1) : o1.toInt ≠ 0 ↔ mgc Q a3.toInt v u := by
  have z : cntP (crw (JJ Q) (dgc Q) a3.toInt v u) 2048 = cntP (crw (JJ Q) (dgc Q) a3.toInt v u) 2000 := by
    refine cntP_zz (by decide) (fun r hr q => ?_)
    have hl : JJ Q v r ∨ JJ Q u r := q.elim (fun y => Or.inl y.1) (fun y => y.2.1)
    have := hl.elim (fun y => (JJ_lt y).2) (fun y => (JJ_lt y).2)
    omega
  refine h (fun o1 => o1.toInt ≠ 0 ↔ mgc Q a3.toInt v u) ?_ ?_ ?_ ?_ ?_
  · intro h1
    rw [px_0]
    exact ⟨fun y => absurd rfl y, fun y => by have a := y.1; have b := y.2.1; omega⟩
  · intro h1 h2
    rw [px_0]
    exact ⟨fun y => absurd rfl y, fun y => by have a := y.1; have b := y.2.1; omega⟩
  · intro x1 x2 x3 h1 h2 h3 h4 h5 h6 h7 h8
    rw [show a1.toInt.toNat = v by rw [hv]; rfl] at h4
    rw [h4] at h5
    have p1 := ha_tr (by omega) h6
    rw [show a2.toInt.toNat = u by rw [hu]; rfl] at p1
    have q1 := hG v u (by omega) (by omega)
    rw [show egS γ F v u = rbt x2 u by unfold egS; rw [h5]; rfl] at q1
    have nj : ¬ JJ Q v u := fun w => by
      have y := q1.mpr w
      rcases p1 with ⟨-, k⟩ | ⟨k, -⟩
      · rw [k] at y; cases y
      · exact absurd k (by decide)
    have r := rm33_tl hT hm hG hv hu (by omega) (by omega) h7 0 (by decide) (Nat.zero_le _) (by rfl)
    rw [px_0]
    exact ⟨fun y => absurd rfl y, fun y => by have q := y.2.2.2; rw [z] at q; omega⟩
  · intro x1 x2 x3 h1 h2 h3 h4 h5 h6 h7 h8
    rw [show a1.toInt.toNat = v by rw [hv]; rfl] at h4
    rw [h4] at h5
    have p1 := ha_tr (by omega) h6
    rw [show a2.toInt.toNat = u by rw [hu]; rfl] at p1
    have q1 := hG v u (by omega) (by omega)
    rw [show egS γ F v u = rbt x2 u by unfold egS; rw [h5]; rfl] at q1
    have nj : ¬ JJ Q v u := fun w => by
      have y := q1.mpr w
      rcases p1 with ⟨-, k⟩ | ⟨k, -⟩
      · rw [k] at y; cases y
      · exact absurd k (by decide)
    have r := rm33_tl hT hm hG hv hu (by omega) (by omega) h7 0 (by decide) (Nat.zero_le _) (by rfl)
    rw [px_1]
    exact ⟨fun _ => ⟨by omega, by omega, nj, by rw [z]; omega⟩, fun _ => by decide⟩
  · intro x1 x2 h1 h2 h3 h4 h5 h6
    rw [show a1.toInt.toNat = v by rw [hv]; rfl] at h4
    rw [h4] at h5
    have p1 := ha_tr (by omega) h6
    rw [show a2.toInt.toNat = u by rw [hu]; rfl] at p1
    have q1 := hG v u (by omega) (by omega)
    rw [show egS γ F v u = rbt x2 u by unfold egS; rw [h5]; rfl] at q1
    rw [px_0]
    exact ⟨fun y => absurd rfl y, fun y => absurd (q1.mp (p1.elim (fun z => absurd z.1 (by decide)) (fun z => z.2))) y.2.2.1⟩
end MRR
