/-! the listing is written: the words' builder fits again -/
section WDE
variable {D : va_G} {I : FieldType → ClassId} {P P0 : List Nat} {F F0 : Nat → va_E} {γ el : Nat → Nat → Nat} {W a n k : Nat} {c : Int32} {ws : List Int32}
/-- a cell of the pool that had no kind gets one -/
theorem RS_kd (hT : RS D I P F γ el) (h0 : γ 0 a = 0) (haP : a ∈ P) (hfit : rFit D I (gNw γ a k) el F a k) : RS D I P F (gNw γ a k) el := by
  have hT' : RS D I (P.filter (fun b => b != a)) F γ el := ⟨fun b hb => List.mem_filter.mpr ⟨hT.1 b hb, by
    have : b ≠ a := fun e => hb (by rw [e]; exact h0)
    simpa using this⟩, hT.2⟩
  exact RS_nw hT' (fun z => by have := (List.mem_filter.mp z).2; simp at this) (fun b hb => (List.mem_filter.mp hb).1) haP (fun _ _ => rfl) hfit
theorem wdS_end (h : wdS D I P0 F0 γ el W P F a n c ws) (hn : n ≤ 16777216) : ∃ γ1 : Nat → Nat → Nat, RS D I P F γ1 el ∧ (∀ j, j ≠ 0 → j ≠ 12 → γ1 j = γ j) ∧ (∀ b, γ 0 b ≠ 0 → γ1 0 b = γ 0 b ∧ γ1 12 b = γ 12 b) ∧ γ1 0 a = 29 ∧ γ1 12 a = n := by
  obtain ⟨h1, ⟨h2, h3, mb, h4, h5⟩, ⟨h6, f, h7, h8⟩, h9, h10, h11, -, -⟩ := h
  have haW : a ≠ W := rn_ao h7 h4
  have ne : ∀ b, b ≠ W → F b = sW F F0 W b := fun b hb => (sW_ne hb).symm
  rcases h9 with ⟨q1, q2⟩ | q
  · refine ⟨γ, RS_set h1.1 ne (show rKd γ W 28 from h3) (by decide) ⟨a, mb, c, h4, h5, h10.1, q1, by rw [← q2]; exact h11⟩, fun _ _ _ => rfl, fun _ _ => ⟨rfl, rfl⟩, q1, q2.symm⟩
  · have r1 : RS D I P (sW F F0 W) (gLn γ a n) el := RS_ln h1.1 q
    have l0 : ∀ b, gLn γ a n 0 b = γ 0 b := fun b => if_neg (fun z => absurd z.1 (by decide))
    have l12 : gLn γ a n 12 a = n := if_pos ⟨rfl, rfl⟩
    have n12 : gNw (gLn γ a n) a 29 12 = gLn γ a n 12 := gNw_j (by decide)
    have ka : gNw (gLn γ a n) a 29 0 a = 29 := if_pos ⟨rfl, rfl⟩
    have r2 : RS D I P (sW F F0 W) (gNw (gLn γ a n) a 29) el := RS_kd r1 ((l0 a).trans q) h6 ⟨n, f, (sW_ne haW).trans h7, h8, by omega, by rw [n12, l12]⟩
    have kW : gNw (gLn γ a n) a 29 0 W = 28 := (gNw_ne (Ne.symm haW)).trans ((l0 W).trans h3)
    refine ⟨gNw (gLn γ a n) a 29, RS_set r2 ne (show rKd _ W 28 from kW) (by decide) ⟨a, mb, c, h4, h5, h10.1, ka, by rw [n12, l12]; exact h11⟩, fun j hj0 hj12 => ?_, fun b hb => ⟨?_, ?_⟩, ka, by rw [n12, l12]⟩
    · rw [gNw_j hj0]
      funext b
      exact if_neg (fun z => hj12 z.1)
    · have hba : b ≠ a := fun e => hb (by rw [e]; exact q)
      exact (gNw_ne hba).trans (l0 b)
    · have hba : b ≠ a := fun e => hb (by rw [e]; exact q)
      rw [n12]
      exact if_neg (fun z => hba z.2)
/-- letters j, .. of an array -/
def mkW (f : Nat → Int32) : Nat → Nat → List Int32
  | _, 0 => []
  | j, m + 1 => f j :: mkW f (j + 1) m
theorem mkW_l {f : Nat → Int32} : ∀ m j, (mkW f j m).length = m
  | 0, _ => rfl
  | m + 1, j => by
    show (mkW f (j + 1) m).length + 1 = m + 1
    rw [mkW_l m]
theorem mkW_g {f : Nat → Int32} : ∀ m j i, i < m → (mkW f j m).getD i 0 = f (j + i)
  | 0, _, i, h => absurd h (Nat.not_lt_zero i)
  | m + 1, j, 0, _ => rfl
  | m + 1, j, i + 1, h => by
    show (f j :: mkW f (j + 1) m).getD (i + 1) 0 = f (j + (i + 1))
    rw [List.getD_cons_succ, mkW_g m (j + 1) i (by omega), Nat.add_assoc, Nat.add_comm 1 i]
/-- before the listing -/
theorem wdS_beg (hT : RS D I P F γ el) (hW : γ 0 W = 28) : ∃ (a n : Nat) (c : Int32) (ws : List Int32), wdS D I P F γ el W P F a n c ws ∧ γ 0 a = 29 ∧ n = γ 12 a ∧ n ≤ 16777216 := by
  obtain ⟨a, mb, c, h1, h2, h3, h4, h5⟩ := show rk_28 γ (F W) from RS_o hT hW
  have h4' : γ 0 a = 29 := h4
  obtain ⟨n, f, g1, g2, g3, g4⟩ := show rk_29 I γ a (F a) from RS_o hT h4
  have e : sW F F W = F := by
    funext b
    unfold sW
    split
    · rename_i h; rw [h]
    · rfl
  exact ⟨a, n, c, mkW f 0 c.toInt.toNat, ⟨by rw [e]; exact rSk_rf hT, ⟨hT.1 W (by omega), hW, mb, h1, h2⟩, ⟨hT.1 a (by omega), f, g1, g2⟩, Or.inl ⟨h4', g4⟩, ⟨h3, by omega⟩, by omega, by rw [mkW_l]; omega, fun i hi => by rw [mkW_l] at hi; rw [cB_of g1, mkW_g _ _ _ hi, Nat.zero_add]⟩, h4', g4, by omega⟩
end WDE
theorem rsum_l {g : Nat → Nat} {p q : Nat} : ∀ n, rsum (fun i => p * g i + q) n = p * rsum g n + q * n
  | 0 => by simp [rsum]
  | n + 1 => by
    show rsum (fun i => p * g i + q) n + (p * g n + q) = p * (rsum g n + g n) + q * (n + 1)
    rw [rsum_l n, Nat.mul_add, Nat.mul_add]
    omega
/-- how many letters a listing has -/
theorem lc_let {D : va_G} {I : FieldType → ClassId} {P : List Nat} {F : Nat → va_E} {γ el : Nat → Nat → Nat} {cc f : Nat} (hT : RS D I P F γ el) (hc : γ 0 cc = 9) (hcf : γ 1 cc = f) (h6 : 0 < γ 6 f) : rsum (fun i => 52 * γ 2 (γ 14 (el (γ 14 cc) i)) + 60) (γ 6 f) ≤ 52 * γ 16 f + 2400 := by
  obtain ⟨lb, lr, rn, md, w1, -⟩ := show rk_9 γ el cc (F cc) from RS_o hT hc
  obtain ⟨u2, u3, u4, u5, u6, u7, u8, u9, u10, u11, u12, u13, u14, u15, u16, u17⟩ := rk9_at w1 (show rk_9 γ el cc (F cc) from RS_o hT hc)
  rw [hcf] at u13
  have umd := u13.resolve_left (by omega)
  unfold rCd at u17
  rw [hcf] at u17
  have e : md.toInt.toNat = γ 6 f := by omega
  rw [e] at u17
  rw [rsum_l, u2.1]
  have h1 := u17.2
  omega
/-- the model's result is a new array -/
theorem ls_fin {D : va_G} {I : FieldType → ClassId} {P P3 : List Nat} {F F4 : Nat → va_E} {γ el : Nat → Nat → Nat} {m q L r28 r35 : Nat} {f : Nat → Int32} {v9 v10 v11 v12 v13 v14 v23 v24 v25 v26 v27 v30 v32 v33 v34 : Int32} (hT : RS D I P F γ el) (hm : γ 0 m = 10) (hq : q ∉ P) (hs : rSub P P3) (mq : q ∈ P3) (hF : ∀ b, b ≠ m → b ≠ q → F4 b = F b) (eq : F4 q = .inl (I .byte, L, .inl f)) (hf : gF f (-128) 127) (hL : L ≤ 16777216)
    (em : F4 m = mdE γ r28 q v9 v10 v11 v12 v13 v14 v23 v24 v25 v26 v27 v30 v32 v33 v34) (h1 : rM1 v9 v10 v11 v14 v25 v26 v27 v32 v34) (hk : mdK γ r28 r35) (h2 : (v9.toInt = 0 ∨ 0 < γ 6 0 ∨ 0 < γ 23 0) ∧ (v10.toInt = 0 ∨ 0 < γ 6 1 ∨ 0 < γ 23 1)) (h34 : v34.toInt ≤ (L : Int)) : RS D I P3 F4 (gNw (gLn γ q L) q 96) el := by
  have q0 : γ 0 q = 0 := RS_new hT hq
  have hmq : m ≠ q := fun e => by rw [e, q0] at hm; cases hm
  have l0 : ∀ b, gLn γ q L 0 b = γ 0 b := fun b => if_neg (fun z => absurd z.1 (by decide))
  have lj : ∀ j, j ≠ 12 → gLn γ q L j = γ j := fun j hj => by
    funext b
    exact if_neg (fun z => hj z.1)
  have l12 : gLn γ q L 12 q = L := if_pos ⟨rfl, rfl⟩
  have gj : ∀ j, j ≠ 0 → j ≠ 12 → gNw (gLn γ q L) q 96 j = γ j := fun j a b => (gNw_j a).trans (lj j b)
  have n12 : gNw (gLn γ q L) q 96 12 = gLn γ q L 12 := gNw_j (by decide)
  have kq : gNw (gLn γ q L) q 96 0 q = 96 := if_pos ⟨rfl, rfl⟩
  have kb : ∀ b k, k ≠ 0 → rKd γ b k → rKd (gNw (gLn γ q L) q 96) b k := fun b k hk h => by
    have h' : γ 0 b = k := h
    have hb : b ≠ q := fun z => by rw [z, q0] at h'; omega
    exact (gNw_ne hb).trans ((l0 b).trans h')
  have r1 : RS D I P F (gLn γ q L) el := RS_ln hT q0
  obtain ⟨F', hF'⟩ : ∃ F' : Nat → va_E, F' = fun b => if b = m then F m else F4 b := ⟨_, rfl⟩
  have f1 : ∀ b, b ≠ q → F' b = F b := fun b hb => by
    rw [hF']
    show (if b = m then F m else F4 b) = F b
    by_cases e : b = m
    · rw [if_pos e, e]
    · rw [if_neg e]; exact hF b e hb
  have f2 : F' q = F4 q := by rw [hF']; exact if_neg (Ne.symm hmq)
  have r2 : RS D I P3 F' (gNw (gLn γ q L) q 96) el := RS_nw r1 hq hs mq (fun b hb => f1 b (fun e => hb (by rw [e, l0]; exact q0))) ⟨L, f, f2.trans eq, hf, by omega, by rw [n12, l12]⟩
  have hK : mdK (gNw (gLn γ q L) q 96) r28 q := by
    obtain ⟨h1, h2, h3, h4, h5, h6, h7, h8, h9, h10, h11, h12, h13, h14, h15, h16, h17, h18, h19, h20, h21, h22, h23, h24⟩ := hk
    unfold mdK rF1
    rw [gj 9 (by decide) (by decide), gj 1 (by decide) (by decide)]
    exact ⟨kb _ _ (by decide) h1, kq, kb _ _ (by decide) h3, kb _ _ (by decide) h4, kb _ _ (by decide) h5, kb _ _ (by decide) h6, kb _ _ (by decide) h7, kb _ _ (by decide) h8, kb _ _ (by decide) h9, kb _ _ (by decide) h10, kb _ _ (by decide) h11, kb _ _ (by decide) h12, kb _ _ (by decide) h13, kb _ _ (by decide) h14, kb _ _ (by decide) h15, kb _ _ (by decide) h16, kb _ _ (by decide) h17, kb _ _ (by decide) h18, kb _ _ (by decide) h19, kb _ _ (by decide) h20, kb _ _ (by decide) h21, h22, h23, h24⟩
  have km : gNw (gLn γ q L) q 96 0 m = 10 := kb m 10 (by decide) hm
  have e9 := gj 9 (by decide) (by decide)
  have em' : F4 m = mdE (gNw (gLn γ q L) q 96) r28 q v9 v10 v11 v12 v13 v14 v23 v24 v25 v26 v27 v30 v32 v33 v34 := by
    rw [em]
    unfold mdE
    rw [e9]
  refine RS_md r2 km (fun b hb => ?_) em' h1 hK ?_
  · rw [hF']; exact (if_neg hb).symm
  · unfold rM2
    rw [gj 6 (by decide) (by decide), gj 23 (by decide) (by decide), n12, l12]
    exact ⟨h2.1, h2.2, h34⟩
