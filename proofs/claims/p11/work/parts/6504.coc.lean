section COC
variable {Q : gPg} {W Nm b j v u w : Nat} {T : Nat → Prop}
/-- the first n of f are those of T, in their order -/
def asc (f : Nat → Int32) (n : Nat) (T : Nat → Prop) : Prop := (∀ i j, i < j → j < n → (f i).toInt < (f j).toInt) ∧ (∀ i, i < n → 0 ≤ (f i).toInt ∧ T (f i).toInt.toNat) ∧ ∀ v, T v → ∃ i, i < n ∧ (f i).toInt = (v : Int)
theorem asc_n {f : Nat → Int32} {n i : Nat} (h : asc f n T) (hi : i < n) : (f i).toNatClampNeg = (f i).toInt.toNat := nnE (Int.toNat_of_nonneg (h.2.1 i hi).1).symm
theorem asc_c {f : Nat → Int32} {n i : Nat} (h : asc f n T) (hi : i < n) : (f i).toInt = ((f i).toInt.toNat : Int) := (Int.toNat_of_nonneg (h.2.1 i hi).1).symm
/-- what is smaller than the one at i stands in front of it -/
theorem asc_lt {f : Nat → Int32} {n i u : Nat} (h : asc f n T) (hi : i < n) (hu : T u) (hl : (u : Int) < (f i).toInt) : ∃ l, l < i ∧ (f l).toInt = (u : Int) := by
  obtain ⟨l, h1, h2⟩ := h.2.2 u hu
  refine ⟨l, ?_, h2⟩
  rcases Nat.lt_trichotomy l i with c | c | c
  · exact c
  · rw [c] at h2; omega
  · have := h.1 i l c h1; omega
theorem asc_rm {f g : Nat → Int32} {n i : Nat} (h : asc f n T) (hi : i < n) (hg : ∀ q, q + 1 < n → g q = f (if i ≤ q then q + 1 else q)) : asc g (n - 1) (fun u => T u ∧ u ≠ (f i).toInt.toNat) := by
  obtain ⟨h1, h2, h3⟩ := h
  refine ⟨fun a c hac hc => ?_, fun a ha => ?_, fun v hv => ?_⟩
  · rw [hg a (by omega), hg c (by omega)]
    refine h1 _ _ ?_ ?_
    · split <;> split <;> omega
    · split <;> omega
  · rw [hg a (by omega)]
    have hl : (if i ≤ a then a + 1 else a) < n := by split <;> omega
    obtain ⟨q1, q2⟩ := h2 _ hl
    refine ⟨q1, q2, fun e => ?_⟩
    have p := (h2 i hi).1
    by_cases c : i ≤ a
    · rw [if_pos c] at e q1
      have := h1 i (a + 1) (by omega) (by omega)
      omega
    · rw [if_neg c] at e q1
      have := h1 a i (by omega) hi
      omega
  · obtain ⟨l, q1, q2⟩ := h3 v hv.1
    have ne : l ≠ i := fun e => hv.2 (by rw [← e, q2]; rfl)
    by_cases c : l < i
    · exact ⟨l, by omega, by rw [hg l (by omega), if_neg (by omega)]; exact q2⟩
    · exact ⟨l - 1, by omega, by rw [hg (l - 1) (by omega), if_pos (by omega), show l - 1 + 1 = l by omega]; exact q2⟩
theorem chp_tr {a1 : Int32} {a2 : Int32} {Colouring_weight : Nat → Int32} {Colouring_degree : Nat → Int32} {o1 : Int32} (hv : a1.toInt = (v : Int)) (hu : a2.toInt = (u : Int)) (h : tr_Colouring_isCheaper a1 a2 Colouring_weight Colouring_degree o1) : o1.toInt ≠ 0 ↔ chp Colouring_weight Colouring_degree v u := by
  refine h (fun o1 => o1.toInt ≠ 0 ↔ chp Colouring_weight Colouring_degree v u) ?_ ?_
  · intro x1 x2 x3 x4 x5 x6 x7 x8 x9 x10 x11 h1 h2 h3 h4 h5 h6 h7 h8 h9 h10 h11 h12
    unfold chp
    rw [nnE hv] at h1 h8
    rw [nnE hu] at h3 h6
    rw [h11, h5, h10, h2, h4, h7, h9, h1, h3, h6, h8] at h12
    rw [px_0]
    exact ⟨fun y => absurd rfl y, fun y => by omega⟩
  · intro x1 x2 x3 x4 x5 x6 x7 x8 x9 x10 x11 h1 h2 h3 h4 h5 h6 h7 h8 h9 h10 h11 h12
    unfold chp
    rw [nnE hv] at h1 h8
    rw [nnE hu] at h3 h6
    rw [h11, h5, h10, h2, h4, h7, h9, h1, h3, h6, h8] at h12
    rw [px_1]
    exact ⟨fun _ => h12, fun _ => by decide⟩
theorem nr2_tl {Colouring_restSize : Int32} {Colouring_rest : Nat → Int32} {Colouring_degree : Nat → Int32} {a1 : Int32} {s1 : Int32} {k : Nat} {e1 : Int32} {n : Nat} (hn : Colouring_restSize.toInt = (n : Int)) (ha : asc Colouring_rest n T) (h : tl_Colouring_nextOfRest_2 Colouring_restSize Colouring_rest Colouring_degree a1 s1 k e1) : ∀ i : Nat, s1.toInt = (i : Int) → (∀ l, l < i → a1.toInt ≤ (Colouring_degree (Colouring_rest l).toInt.toNat).toInt) → (k = 33 → ∀ u, T u → a1.toInt ≤ (Colouring_degree u).toInt) ∧ (k = 25 → ∃ i : Nat, e1.toInt = (i : Int) ∧ i < n ∧ (Colouring_degree (Colouring_rest i).toInt.toNat).toInt < a1.toInt ∧ ∀ l, l < i → a1.toInt ≤ (Colouring_degree (Colouring_rest l).toInt.toNat).toInt) := by
  refine h (fun s1 k e1 => ∀ i : Nat, s1.toInt = (i : Int) → (∀ l, l < i → a1.toInt ≤ (Colouring_degree (Colouring_rest l).toInt.toNat).toInt) → (k = 33 → ∀ u, T u → a1.toInt ≤ (Colouring_degree u).toInt) ∧ (k = 25 → ∃ i : Nat, e1.toInt = (i : Int) ∧ i < n ∧ (Colouring_degree (Colouring_rest i).toInt.toNat).toInt < a1.toInt ∧ ∀ l, l < i → a1.toInt ≤ (Colouring_degree (Colouring_rest l).toInt.toNat).toInt)) ?_ ?_ ?_
  · intro l2_1 h1 h2
    intro i hi hl
    refine ⟨fun _ u hu => ?_, fun z => (nomatch z)⟩
    obtain ⟨l, q1, q2⟩ := ha.2.2 u hu
    have q3 := hl l (by omega)
    rw [q2] at q3
    exact q3
  · intro l2_1 x1 x2 x3 k e1 h1 h2 h3 h4 h5 h6 h7 ih
    intro i hi hl
    have hin : i < n := by omega
    rw [nnE hi] at h3
    rw [h3, asc_n ha hin] at h5
    refine ih (i + 1) (by omega) (fun l hl2 => ?_)
    by_cases c : l = i
    · rw [c, ← h5]; exact h6
    · exact hl l (by omega)
  · intro l2_1 x1 x2 h1 h2 h3 h4 h5 h6
    intro i hi hl
    have hin : i < n := by omega
    rw [nnE hi] at h3
    rw [h3, asc_n ha hin] at h5
    exact ⟨fun z => (nomatch z), fun _ => ⟨i, hi, hin, by rw [← h5]; exact h6, hl⟩⟩
theorem nr37_tl {Colouring_restSize : Int32} {Colouring_rest : Nat → Int32} {Colouring_weight : Nat → Int32} {Colouring_degree : Nat → Int32} {s1 : Int32} {s2 : Int32} {k : Nat} {e1 : Int32} {n : Nat} (hn : Colouring_restSize.toInt = (n : Int)) (ha : asc Colouring_rest n T) (hT : ∀ u, T u → u < 2000) (h : tl_Colouring_nextOfRest_37 Colouring_restSize Colouring_rest Colouring_weight Colouring_degree s1 s2 k e1) : ∀ i l : Nat, s1.toInt = (i : Int) → 1 ≤ i → i ≤ n → s2.toInt = (l : Int) → l < i → bsF T Colouring_weight Colouring_degree ((Colouring_rest (i - 1)).toInt.toNat + 1) = some (Colouring_rest l).toInt.toNat → ∃ l : Nat, e1.toInt = (l : Int) ∧ l < n ∧ bsF T Colouring_weight Colouring_degree 2000 = some (Colouring_rest l).toInt.toNat := by
  have gap : ∀ i, 1 ≤ i → i < n → ∀ u, (Colouring_rest (i - 1)).toInt.toNat + 1 ≤ u → u < (Colouring_rest i).toInt.toNat → ¬ T u := fun i h1 h2 u h3 h4 h5 => by
    have c1 := asc_c ha (show i - 1 < n by omega)
    have c2 := asc_c ha h2
    obtain ⟨l, q1, q2⟩ := asc_lt ha h2 h5 (by omega)
    by_cases c : l = i - 1
    · rw [c] at q2; omega
    · have := ha.1 l (i - 1) (by omega) (by omega); omega
  have up : ∀ i, 1 ≤ i → i < n → (Colouring_rest (i - 1)).toInt.toNat + 1 ≤ (Colouring_rest i).toInt.toNat := fun i h1 h2 => by
    have c1 := asc_c ha (show i - 1 < n by omega)
    have c2 := asc_c ha h2
    have := ha.1 (i - 1) i (by omega) h2
    omega
  have lst : ∀ l, bsF T Colouring_weight Colouring_degree ((Colouring_rest (n - 1)).toInt.toNat + 1) = some l → 1 ≤ n → bsF T Colouring_weight Colouring_degree 2000 = some l := fun l h1 h2 => by
    have q := (ha.2.1 (n - 1) (by omega)).2
    have q2 := hT _ q
    rw [bsF_s (show (Colouring_rest (n - 1)).toInt.toNat + 1 ≤ 2000 by omega) (fun u g1 g2 g3 => ?_)]
    · exact h1
    · obtain ⟨l, p1, p2⟩ := ha.2.2 u g3
      have c1 := asc_c ha (show n - 1 < n by omega)
      by_cases c : l = n - 1
      · rw [c] at p2; omega
      · have := ha.1 l (n - 1) (by omega) (by omega); omega
  refine h (fun s1 s2 _ e1 => ∀ i l : Nat, s1.toInt = (i : Int) → 1 ≤ i → i ≤ n → s2.toInt = (l : Int) → l < i → bsF T Colouring_weight Colouring_degree ((Colouring_rest (i - 1)).toInt.toNat + 1) = some (Colouring_rest l).toInt.toNat → ∃ l : Nat, e1.toInt = (l : Int) ∧ l < n ∧ bsF T Colouring_weight Colouring_degree 2000 = some (Colouring_rest l).toInt.toNat) ?_ ?_ ?_ ?_ ?_ ?_
  · intro l3_1 l2_1 h1 h2 h3
    intro i l hi h1i hin hl hli hb
    have e : i = n := by omega
    rw [e] at hb hli
    exact ⟨l, hl, hli, lst _ hb (by omega)⟩
  · intro l3_1 l2_1 x1 x2 x3 k e1 h1 h2 h3 h4 h5 h6 h7 h8 h9 h10 ih
    intro i l hi h1i hin hl hli hb
    have hi2 : i < n := by omega
    rw [nnE hi] at h4
    rw [nnE hl] at h7
    have ci := asc_c ha hi2
    have cl := asc_c ha (show l < n by omega)
    have ti := (ha.2.1 i hi2).2
    have bi : bsF T Colouring_weight Colouring_degree (Colouring_rest i).toInt.toNat = some (Colouring_rest l).toInt.toNat := (bsF_s (up i h1i hi2) (gap i h1i hi2)).trans hb
    rw [h4] at h6
    rw [h4, h7] at h9
    have q := chp_tr ci cl h9
    have q1 : ¬ chp Colouring_weight Colouring_degree (Colouring_rest i).toInt.toNat (Colouring_rest l).toInt.toNat := fun z => q.mpr z (by decide)
    exact ih (i + 1) l (by omega) (by omega) (by omega) hl (by omega) (bsF_2 ti bi (Or.inr q1))
  · intro l3_1 l2_1 x1 x2 x3 k e1 h1 h2 h3 h4 h5 h6 h7 h8 h9 h10 ih
    intro i l hi h1i hin hl hli hb
    have hi2 : i < n := by omega
    rw [nnE hi] at h4
    rw [nnE hl] at h7
    have ci := asc_c ha hi2
    have cl := asc_c ha (show l < n by omega)
    have ti := (ha.2.1 i hi2).2
    have bi : bsF T Colouring_weight Colouring_degree (Colouring_rest i).toInt.toNat = some (Colouring_rest l).toInt.toNat := (bsF_s (up i h1i hi2) (gap i h1i hi2)).trans hb
    rw [h4] at h6
    rw [h4, h7] at h9
    have q := chp_tr ci cl h9
    have q1 := q.mp (by decide)
    exact ih (i + 1) i (by omega) (by omega) (by omega) (by omega) (by omega) (bsF_3 (n := (Colouring_rest i).toInt.toNat) ti bi (fun z => z.elim (fun y => by omega) (fun y => y q1)))
  · intro l3_1 l2_1 x1 x2 h1 h2 h3 h4 h5 h6 h7 h8 h9
    intro i l hi h1i hin hl hli hb
    have hi2 : i < n := by omega
    rw [nnE hi] at h4
    rw [nnE hl] at h7
    have ci := asc_c ha hi2
    have cl := asc_c ha (show l < n by omega)
    have ti := (ha.2.1 i hi2).2
    have bi : bsF T Colouring_weight Colouring_degree (Colouring_rest i).toInt.toNat = some (Colouring_rest l).toInt.toNat := (bsF_s (up i h1i hi2) (gap i h1i hi2)).trans hb
    rw [h4] at h6
    rw [h7] at h9
    have r := bsF_t (n := (Colouring_rest i).toInt.toNat) (by omega) bi (fun u hu _ => by omega) (2000 - (Colouring_rest i).toInt.toNat)
    have q2 := hT _ ti
    rw [show (Colouring_rest i).toInt.toNat + (2000 - (Colouring_rest i).toInt.toNat) = 2000 by omega] at r
    exact ⟨l, hl, by omega, r⟩
  · intro l3_1 l2_1 x1 x2 x3 k e1 h1 h2 h3 h4 h5 h6 h7 h8 h9 h10 h11 ih
    intro i l hi h1i hin hl hli hb
    have hi2 : i < n := by omega
    rw [nnE hi] at h4
    rw [nnE hl] at h7
    have ci := asc_c ha hi2
    have cl := asc_c ha (show l < n by omega)
    have ti := (ha.2.1 i hi2).2
    have bi : bsF T Colouring_weight Colouring_degree (Colouring_rest i).toInt.toNat = some (Colouring_rest l).toInt.toNat := (bsF_s (up i h1i hi2) (gap i h1i hi2)).trans hb
    rw [h4] at h6
    rw [h7] at h9
    rw [h4, h7] at h10
    have q := chp_tr ci cl h10
    have q1 : ¬ chp Colouring_weight Colouring_degree (Colouring_rest i).toInt.toNat (Colouring_rest l).toInt.toNat := fun z => q.mpr z (by decide)
    exact ih (i + 1) l (by omega) (by omega) (by omega) hl (by omega) (bsF_2 ti bi (Or.inr q1))
  · intro l3_1 l2_1 x1 x2 x3 k e1 h1 h2 h3 h4 h5 h6 h7 h8 h9 h10 h11 ih
    intro i l hi h1i hin hl hli hb
    have hi2 : i < n := by omega
    rw [nnE hi] at h4
    rw [nnE hl] at h7
    have ci := asc_c ha hi2
    have cl := asc_c ha (show l < n by omega)
    have ti := (ha.2.1 i hi2).2
    have bi : bsF T Colouring_weight Colouring_degree (Colouring_rest i).toInt.toNat = some (Colouring_rest l).toInt.toNat := (bsF_s (up i h1i hi2) (gap i h1i hi2)).trans hb
    rw [h4] at h6
    rw [h7] at h9
    rw [h4, h7] at h10
    have q := chp_tr ci cl h10
    have q1 := q.mp (by decide)
    exact ih (i + 1) i (by omega) (by omega) (by omega) (by omega) (by omega) (bsF_3 (n := (Colouring_rest i).toInt.toNat) ti bi (fun z => z.elim (fun y => by omega) (fun y => y q1)))
theorem nxr_tr {a1 : Int32} {Colouring_restSize : Int32} {Colouring_weight : Nat → Int32} {Colouring_degree : Nat → Int32} {Colouring_rest : Nat → Int32} {o1 : Int32} {n : Nat} (hn : Colouring_restSize.toInt = (n : Int)) (hn1 : 0 < n) (ha : asc Colouring_rest n T) (hT : ∀ u, T u → u < 2000) (h : tr_Colouring_nextOfRest a1 Colouring_restSize Colouring_weight Colouring_degree Colouring_rest o1) : ∃ i : Nat, o1.toInt = (i : Int) ∧ i < n ∧ isNx T Colouring_weight Colouring_degree a1.toInt (Colouring_rest i).toInt.toNat := by
  refine h (fun o1 => ∃ i : Nat, o1.toInt = (i : Int) ∧ i < n ∧ isNx T Colouring_weight Colouring_degree a1.toInt (Colouring_rest i).toInt.toNat) ?_ ?_
  · intro x1 h1 h2
    have q := (nr2_tl hn ha h1 0 (by decide) (fun l hl => absurd hl (Nat.not_lt_zero l))).1 rfl
    have t0 := (ha.2.1 0 hn1).2
    have c0 := asc_c ha hn1
    have b0 : bsF T Colouring_weight Colouring_degree ((Colouring_rest 0).toInt.toNat + 1) = some (Colouring_rest 0).toInt.toNat := by
      refine bsF_1 t0 ?_
      rw [bsF_s (n := 0) (Nat.zero_le _) (fun u _ h2 h3 => ?_)]
      · rfl
      · obtain ⟨l, p1, -⟩ := asc_lt ha hn1 h3 (by omega)
        omega
    obtain ⟨l, r1, r2, r3⟩ := nr37_tl hn ha hT h2 1 0 (by decide) (Nat.le_refl _) hn1 (by decide) (by decide) b0
    exact ⟨l, r1, r2, Or.inr ⟨q, r3⟩⟩
  · intro x1 h1
    obtain ⟨i, q1, q2, q3, q4⟩ := (nr2_tl hn ha h1 0 (by decide) (fun l hl => absurd hl (Nat.not_lt_zero l))).2 rfl
    refine ⟨i, q1, q2, Or.inl ⟨(ha.2.1 i q2).2, q3, fun u hu ht => ?_⟩⟩
    have ci := asc_c ha q2
    obtain ⟨l, p1, p2⟩ := asc_lt ha q2 ht (by omega)
    have r := q4 l p1
    rw [p2] at r
    exact r
theorem lv36_tl {l2_1 : Int32} {s1 : Int32} {s2 : Int64} {s3 : Nat → Int32} {k : Nat} {e1 : Nat → Int32} (hw : l2_1.toInt = (w : Int)) (hw2 : w < 12) (h : tl_Colouring_leave_36 l2_1 s1 s2 s3 k e1) : ∀ n : Nat, s1.toInt = (n : Int) → (∀ i, i < n → s2.toBitVec.getLsbD i = false) → ∀ q, (q / 64 = w ∧ s2.toBitVec.getLsbD (q % 64) = true → e1 q = s3 q - 1) ∧ (¬ (q / 64 = w ∧ s2.toBitVec.getLsbD (q % 64) = true) → e1 q = s3 q) := by
  refine h (fun s1 s2 s3 _ e1 => ∀ n : Nat, s1.toInt = (n : Int) → (∀ i, i < n → s2.toBitVec.getLsbD i = false) → ∀ q, (q / 64 = w ∧ s2.toBitVec.getLsbD (q % 64) = true → e1 q = s3 q - 1) ∧ (¬ (q / 64 = w ∧ s2.toBitVec.getLsbD (q % 64) = true) → e1 q = s3 q)) ?_ ?_ ?_
  · intro l5_2 l3_2 Colouring_degree_2 h1 h2
    intro n hn hz q
    refine ⟨fun z => ?_, fun _ => rfl⟩
    have z2 := z.2
    rw [hz (q % 64) (by have := Nat.mod_lt q (show 64 > 0 by decide); omega)] at z2
    cases z2
  · intro l5_2 l3_2 Colouring_degree_2 h1 h2 h3
    intro n hn hz q
    refine ⟨fun z => ?_, fun _ => rfl⟩
    have z2 := z.2
    rw [h3] at z2
    simp at z2
  · intro l5_2 l3_2 Colouring_degree_2 x1 x2 x3 x4 x5 x6 x7 x8 x9 k e1 h1 h2 h3 h4 h5 h6 h7 h8 h9 h10 h11 h12 h13 ih
    intro n hn hz
    obtain ⟨z, z1, z2, z3, z4⟩ := lw_tr h3 h6
    have zn : n ≤ z := by
      by_cases c : z < n
      · rw [hz z c] at z3; cases z3
      · omega
    have cl := bit_neg1 h11 h12 z1 z3 z4
    have hz' : ∀ i, i < n + 1 → x8.toBitVec.getLsbD i = false := fun i hi => by
      rw [cl i (by omega)]
      by_cases c : i = z
      · simp [c]
      · rw [z4 i (by omega), Bool.false_and]
    have e3 : x3.toNatClampNeg = 64 * w + z := nnE (by omega)
    rw [e3] at h8 h10
    have i1 := ih (n + 1) (by omega) hz'
    have bq : ∀ u, u / 64 = w → (x8.toBitVec.getLsbD (u % 64) = true ↔ l3_2.toBitVec.getLsbD (u % 64) = true ∧ u ≠ 64 * w + z) := fun u hu => by
      rw [cl (u % 64) (Nat.mod_lt _ (by decide)), Bool.and_eq_true, decide_eq_true_iff]
      exact ⟨fun a => ⟨a.1, fun c => a.2 (by omega)⟩, fun a => ⟨a.1, fun c => a.2 (by omega)⟩⟩
    intro q
    obtain ⟨k1, k2⟩ := i1 q
    by_cases c : q = 64 * w + z
    · have n8 : ¬ (q / 64 = w ∧ x8.toBitVec.getLsbD (q % 64) = true) := fun y => ((bq q y.1).mp y.2).2 c
      refine ⟨fun _ => ?_, fun y => absurd ⟨by omega, by rw [show q % 64 = z by omega]; exact z3⟩ y⟩
      rw [k2 n8, h10, c, updE, h9, h8]
    · refine ⟨fun y => ?_, fun y => ?_⟩
      · rw [k1 ⟨y.1, (bq q y.1).mpr ⟨y.2, c⟩⟩, h10, updN c]
      · rw [k2 (fun x => y ⟨x.1, ((bq q x.1).mp x.2).1⟩), h10, updN c]
theorem lv2_tl {Graph_words : Int32} {a1 : Int32} {Graph_joined : Nat → Int64} {s1 : Int32} {s2 : Nat → Int32} {k : Nat} {e1 : Nat → Int32} {nam : Int32} {sd : Nat → Int64} {dg : Nat → Int32} (hg : gfC Q Nm W nam Graph_words Graph_joined sd dg) (hv : a1.toInt = (v : Int)) (hv2 : v < Nm) (h : tl_Colouring_leave_2 Graph_words a1 Graph_joined s1 s2 k e1) : ∀ m : Nat, s1.toInt = (m : Int) → m ≤ W → ∀ q, (m ≤ q / 64 ∧ JJ Q v q → e1 q = s2 q - 1) ∧ (¬ (m ≤ q / 64 ∧ JJ Q v q) → e1 q = s2 q) := by
  obtain ⟨-, gW, gN, gW2, gn, gJ, -, gd⟩ := hg
  refine h (fun s1 s2 _ e1 => ∀ m : Nat, s1.toInt = (m : Int) → m ≤ W → ∀ q, (m ≤ q / 64 ∧ JJ Q v q → e1 q = s2 q - 1) ∧ (¬ (m ≤ q / 64 ∧ JJ Q v q) → e1 q = s2 q)) ?_ ?_
  · intro l2_1 Colouring_degree_1 h1 h2
    intro m hm hmW q
    refine ⟨fun z => ?_, fun _ => rfl⟩
    have := (JJ_nn gn z.2).2
    omega
  · intro l2_1 Colouring_degree_1 x1 x2 x3 x4 x5 k e1 h1 h2 h3 h4 h5 h6 h7 ih
    intro m hm hmW
    have ep : x1.toInt = ((v * W : Nat) : Int) := by rw [h3, hv, gW]; exact (Int.natCast_mul _ _).symm
    have ei : x2.toNatClampNeg = v * W + m := nnE (by omega)
    rw [ei] at h5
    have st := lv36_tl hm (by omega) h6 0 (by decide) (fun i hi => absurd hi (Nat.not_lt_zero i))
    have bv : ∀ q, q / 64 = m → (x3.toBitVec.getLsbD (q % 64) = true ↔ JJ Q v q) := fun q hq => by
      rw [← gJ v q hv2 (by omega)]
      unfold gbit
      rw [h5, show (64 * (v * W) + q) / 64 = v * W + m by omega, show (64 * (v * W) + q) % 64 = q % 64 by omega]
    intro q
    obtain ⟨k1, k2⟩ := ih (m + 1) (by omega) (by omega) q
    obtain ⟨s1, s2⟩ := st q
    refine ⟨fun z => ?_, fun z => ?_⟩
    · by_cases c : q / 64 = m
      · rw [k2 (fun y => by omega), s1 ⟨c, (bv q c).mpr z.2⟩]
      · rw [k1 ⟨by omega, z.2⟩, s2 (fun y => c y.1)]
    · rw [k2 (fun y => z ⟨by omega, y.2⟩)]
      exact s2 (fun y => z ⟨by omega, (bv q y.1).mp y.2⟩)
theorem lve_tr {a1 : Int32} {Graph_words : Int32} {Colouring_degree : Nat → Int32} {Graph_joined : Nat → Int64} {o1 : Nat → Int32} {nam : Int32} {sd : Nat → Int64} {dg : Nat → Int32} (hg : gfC Q Nm W nam Graph_words Graph_joined sd dg) (hv : a1.toInt = (v : Int)) (hv2 : v < Nm) (h : tr_Colouring_leave a1 Graph_words Colouring_degree Graph_joined o1) : o1 = lfD (JJ Q) Colouring_degree v := by
  refine h (fun o1 => o1 = lfD (JJ Q) Colouring_degree v) ?_
  · intro x1 h1
    have q := lv2_tl hg hv hv2 h1 0 (by decide) (Nat.zero_le _)
    funext u
    unfold lfD
    by_cases c : JJ Q v u
    · rw [if_pos c]; exact (q u).1 ⟨Nat.zero_le _, c⟩
    · rw [if_neg c]; exact (q u).2 (fun z => c z.2)
theorem std_tr {a1 : Int32} {Graph_names : Int32} {Graph_standing : Nat → Int64} {o1 : Int32} (hv : a1.toInt = (v : Int)) (hN : Graph_names.toInt = (Nm : Int)) (hv2 : v < Nm) (h : tr_Graph_stands a1 Graph_names Graph_standing o1) : o1.toInt ≠ 0 ↔ gbit Graph_standing v = true := by
  refine h (fun o1 => o1.toInt ≠ 0 ↔ gbit Graph_standing v = true) ?_ ?_ ?_ ?_
  · intro h1
    omega
  · intro h1 h2
    omega
  · intro x1 x2 x3 x4 h1 h2 h3 h4 h5 h6 h7
    have tb := tst_bit (f := Graph_standing) (a := 0) (m := v) (i := x1) (by omega) hv h4 h5 h6
    rw [Nat.mul_zero, Nat.zero_add] at tb
    rw [px_0]
    exact ⟨fun y => absurd rfl y, fun y => by rw [tb.mp h7] at y; cases y⟩
  · intro x1 x2 x3 x4 h1 h2 h3 h4 h5 h6 h7
    have tb := tst_bit (f := Graph_standing) (a := 0) (m := v) (i := x1) (by omega) hv h4 h5 h6
    rw [Nat.mul_zero, Nat.zero_add] at tb
    rw [px_1]
    refine ⟨fun _ => ?_, fun _ => by decide⟩
    cases e : gbit Graph_standing v
    · exact absurd (tb.mpr e) h7
    · rfl
theorem ta12_tl {Graph_names : Int32} {Graph_degree : Nat → Int32} {Graph_standing : Nat → Int64} {s1 : Int32} {s2 : Nat → Int32} {s3 : Int32} {s4 : Nat → Int32} {k : Nat} {e1 : Int32} {e2 : Nat → Int32} {e3 : Nat → Int32} {wor : Int32} {jo : Nat → Int64} (hg : gfC Q Nm W Graph_names wor jo Graph_standing Graph_degree) (h : tl_Colouring_takeApart_12 Graph_names Graph_degree Graph_standing s1 s2 s3 s4 k e1 e2 e3) : ∀ m r : Nat, s1.toInt = (m : Int) → m ≤ Nm → s3.toInt = (r : Int) → (∀ v, v < m → s2 v = Graph_degree v) → asc s4 r (fun v => v < m ∧ Sd Q false 2000 v) → ∃ r : Nat, e1.toInt = (r : Int) ∧ (∀ v, v < Nm → e2 v = Graph_degree v) ∧ asc e3 r (Sd Q false 2000) := by
  obtain ⟨gN, gW, gNW, gW2, gn, gJ, gS, gd⟩ := hg
  have sdl : ∀ v, Sd Q false 2000 v → v < Nm := fun v hv => (Sd_i gn (Nat.le_refl _) hv).2
  refine h (fun s1 s2 s3 s4 _ e1 e2 e3 => ∀ m r : Nat, s1.toInt = (m : Int) → m ≤ Nm → s3.toInt = (r : Int) → (∀ v, v < m → s2 v = Graph_degree v) → asc s4 r (fun v => v < m ∧ Sd Q false 2000 v) → ∃ r : Nat, e1.toInt = (r : Int) ∧ (∀ v, v < Nm → e2 v = Graph_degree v) ∧ asc e3 r (Sd Q false 2000)) ?_ ?_ ?_
  · intro l2_1 Colouring_degree_1 Colouring_restSize_1 Colouring_rest_1 h1 h2 h3
    intro m r hm hmN hr hd ha
    have e : m = Nm := by omega
    rw [e] at hd ha
    exact ⟨r, hr, hd, ha.1, fun i hi => ⟨(ha.2.1 i hi).1, (ha.2.1 i hi).2.2⟩, fun v hv => ha.2.2 v ⟨sdl v hv, hv⟩⟩
  · intro l2_1 Colouring_degree_1 Colouring_restSize_1 Colouring_rest_1 x1 x2 x3 k e1 e2 e3 h1 h2 h3 h4 h5 h6 h7 ih
    intro m r hm hmN hr hd ha
    have hm2 : m < Nm := by omega
    have em := nnE hm
    rw [em] at h4 h5
    have st := std_tr hm gN hm2 h6
    have gs := gS m (by omega)
    have hd' : ∀ v, v < m + 1 → x2 v = Graph_degree v := fun v hv => by
      rw [h5]
      by_cases c : v = m
      · rw [c, updE]; exact h4
      · rw [updN c]; exact hd v (by omega)
    have ns : ¬ Sd Q false 2000 m := fun z => st.mpr (gs.mpr z) (by decide)
    refine ih (m + 1) r (by omega) (by omega) hr hd' ⟨ha.1, fun i hi => ⟨(ha.2.1 i hi).1, by have := (ha.2.1 i hi).2.1; omega, (ha.2.1 i hi).2.2⟩, fun v hv => ?_⟩
    by_cases c : v = m
    · rw [c] at hv; exact absurd hv.2 ns
    · exact ha.2.2 v ⟨by omega, hv.2⟩
  · intro l2_1 Colouring_degree_1 Colouring_restSize_1 Colouring_rest_1 x1 x2 x3 x4 x5 k e1 e2 e3 h1 h2 h3 h4 h5 h6 h7 h8 h9 ih
    intro m r hm hmN hr hd ha
    have hm2 : m < Nm := by omega
    have em := nnE hm
    rw [em] at h4 h5
    have st := std_tr hm gN hm2 h6
    have gs := gS m (by omega)
    have hd' : ∀ v, v < m + 1 → x2 v = Graph_degree v := fun v hv => by
      rw [h5]
      by_cases c : v = m
      · rw [c, updE]; exact h4
      · rw [updN c]; exact hd v (by omega)
    have ns : Sd Q false 2000 m := gs.mp (st.mp (by decide))
    rw [nnE hr] at h7
    refine ih (m + 1) (r + 1) (by omega) (by omega) (by omega) hd' ⟨fun i j hij hj => ?_, fun i hi => ?_, fun v hv => ?_⟩
    · rw [h7]
      by_cases c : j = r
      · rw [c, updE, updN (by omega), hm]
        have := (ha.2.1 i (by omega))
        omega
      · rw [updN c, updN (by omega)]; exact ha.1 i j hij (by omega)
    · rw [h7]
      by_cases c : i = r
      · rw [c, updE, hm]
        exact ⟨by omega, by rw [Int.toNat_natCast]; exact ⟨Nat.lt_succ_self m, ns⟩⟩
      · rw [updN c]
        have q := ha.2.1 i (by omega)
        exact ⟨q.1, by have := q.2.1; omega, q.2.2⟩
    · by_cases c : v = m
      · exact ⟨r, Nat.lt_succ_self r, by rw [h7, updE, hm, c]⟩
      · obtain ⟨i, q1, q2⟩ := ha.2.2 v ⟨by omega, hv.2⟩
        exact ⟨i, by omega, by rw [h7, updN (by omega)]; exact q2⟩
theorem ta80_tl {a1 : Int32} {Colouring_weight : Nat → Int32} {Graph_words : Int32} {Graph_joined : Nat → Int64} {s1 : Int32} {s2 : Int32} {s3 : Int32} {s4 : Nat → Int32} {s5 : Nat → Int32} {s6 : Nat → Int32} {k : Nat} {e1 : Int32} {e2 : Int32} {e3 : Nat → Int32} {e4 : Nat → Int32} {e5 : Nat → Int32} {nam : Int32} {sd : Nat → Int64} {dg : Nat → Int32} (hg : gfC Q Nm W nam Graph_words Graph_joined sd dg) (hN : Nm ≤ 720) (h : tl_Colouring_takeApart_80 a1 Colouring_weight Graph_words Graph_joined s1 s2 s3 s4 s5 s6 k e1 e2 e3 e4 e5) : ∀ (T : Nat → Prop) (lf : Nat → Int32) (n m : Nat), s1.toInt = (n : Int) → s2.toInt = (n : Int) → s3.toInt = (m : Int) → asc s5 n T → (∀ v, T v → v < Nm) → s4 = lf → ∃ p : Nat → Nat, TA (JJ Q) Colouring_weight a1.toInt n T lf p ∧ e2.toInt = ((m + n : Nat) : Int) ∧ (∀ i, i < m → e5 i = s6 i) ∧ ∀ i, i < n → (e5 (m + i)).toInt = (p i : Int) ∧ p i < Nm := by
  refine h (fun s1 s2 s3 s4 s5 s6 _ e1 e2 e3 e4 e5 => ∀ (T : Nat → Prop) (lf : Nat → Int32) (n m : Nat), s1.toInt = (n : Int) → s2.toInt = (n : Int) → s3.toInt = (m : Int) → asc s5 n T → (∀ v, T v → v < Nm) → s4 = lf → ∃ p : Nat → Nat, TA (JJ Q) Colouring_weight a1.toInt n T lf p ∧ e2.toInt = ((m + n : Nat) : Int) ∧ (∀ i, i < m → e5 i = s6 i) ∧ ∀ i, i < n → (e5 (m + i)).toInt = (p i : Int) ∧ p i < Nm) ?_ ?_
  · intro l2_1 Colouring_restSize_1 Colouring_pileSize_1 Colouring_degree_1 Colouring_rest_1 Colouring_pile_1 h1 h2 h3 h4
    intro T lf n m hn hn2 hm ha hT hlf
    have e : n = 0 := by omega
    rw [e] at ha ⊢
    exact ⟨fun _ => 0, fun v hv => (ha.2.2 v hv).elim (fun i z => absurd z.1 (Nat.not_lt_zero i)), by omega, fun _ _ => rfl, fun i hi => absurd hi (Nat.not_lt_zero i)⟩
  · intro l2_1 Colouring_restSize_1 Colouring_pileSize_1 Colouring_degree_1 Colouring_rest_1 Colouring_pile_1 x1 x2 x3 x4 x5 x6 x7 x8 x9 x10 k e1 e2 e3 e4 e5 h1 h2 h3 h4 h5 h6 h7 h8 h9 h10 h11 h12 h13 h14 h15 h16 ih
    intro T lf n m hn hn2 hm ha hT hlf
    obtain ⟨n1, en⟩ : ∃ n1, n = n1 + 1 := ⟨n - 1, by omega⟩
    obtain ⟨i, q1, q2, q3⟩ := nxr_tr hn2 (by omega) ha (fun u hu => by have := hT u hu; omega) h6
    have ei := nnE q1
    rw [ei] at h7
    have ci := asc_c ha q2
    have ti := (ha.2.1 i q2).2
    have cp := cpy_dr (n := n) q1 h10 (by omega) q2 h12
    have ar := asc_rm ha q2 cp
    have hx2 : x2.toInt = ((Colouring_rest_1 i).toInt.toNat : Int) := by rw [h7]; exact ci
    have lv := lve_tr hg hx2 (hT _ ti) h15
    rw [nnE hm] at h13
    rw [hlf] at lv q3
    obtain ⟨p, r1, r2, r3, r4⟩ := ih (fun u => T u ∧ u ≠ (Colouring_rest_1 i).toInt.toNat) (lfD (JJ Q) lf (Colouring_rest_1 i).toInt.toNat) n1 (m + 1) (by omega) (by omega) (by omega) (by rw [show n1 = n - 1 by omega]; exact ar) (fun v hv => hT v hv.1) lv
    refine ⟨fun l => if l = 0 then (Colouring_rest_1 i).toInt.toNat else p (l - 1), ?_, by omega, fun l hl => ?_, fun l hl => ?_⟩
    · rw [en]
      exact ⟨ti, q3, r1⟩
    · rw [r3 l (by omega), h13, updN (by omega)]
    · by_cases c : l = 0
      · rw [c]
        dsimp only
        rw [if_pos rfl, Nat.add_zero, r3 m (Nat.lt_succ_self m), h13, updE]
        exact ⟨hx2, hT _ ti⟩
      · dsimp only
        rw [if_neg c]
        have r := r4 (l - 1) (by omega)
        rw [show m + 1 + (l - 1) = m + l by omega] at r
        exact r
theorem tap_tr {a1 : Int32} {Graph_names : Int32} {Graph_words : Int32} {Colouring_weight : Nat → Int32} {Colouring_degree : Nat → Int32} {Colouring_rest : Nat → Int32} {Colouring_pile : Nat → Int32} {Graph_joined : Nat → Int64} {Graph_standing : Nat → Int64} {Graph_degree : Nat → Int32} {o1 : Int32} {o2 : Int32} {o3 : Nat → Int32} {o4 : Nat → Int32} {o5 : Nat → Int32} (hg : gfC Q Nm W Graph_names Graph_words Graph_joined Graph_standing Graph_degree) (hN : Nm ≤ 720) (h : tr_Colouring_takeApart a1 Graph_names Graph_words Colouring_weight Colouring_degree Colouring_rest Colouring_pile Graph_joined Graph_standing Graph_degree o1 o2 o3 o4 o5) : ∃ lf : Nat → Int32, (∀ v, v < Nm → lf v = dgc Q v) ∧ ∃ (n : Nat) (p : Nat → Nat), o2.toInt = (n : Int) ∧ TA (JJ Q) Colouring_weight a1.toInt n (Sd Q false 2000) lf p ∧ ∀ i, i < n → (o5 i).toInt = (p i : Int) ∧ p i < Nm := by
  refine h (fun o1 o2 o3 o4 o5 => ∃ lf : Nat → Int32, (∀ v, v < Nm → lf v = dgc Q v) ∧ ∃ (n : Nat) (p : Nat → Nat), o2.toInt = (n : Int) ∧ TA (JJ Q) Colouring_weight a1.toInt n (Sd Q false 2000) lf p ∧ ∀ i, i < n → (o5 i).toInt = (p i : Int) ∧ p i < Nm) ?_
  · intro x1 x2 x3 x4 x5 x6 x7 x8 h1 h2
    obtain ⟨n, q1, q2, q3⟩ := ta12_tl hg h1 0 0 (by decide) (Nat.zero_le _) (by decide) (fun v hv => absurd hv (Nat.not_lt_zero v)) ⟨fun i j _ hj => absurd hj (Nat.not_lt_zero j), fun i hi => absurd hi (Nat.not_lt_zero i), fun v hv => absurd hv.1 (Nat.not_lt_zero v)⟩
    have gn := hg.2.2.2.2.1
    obtain ⟨p, r1, r2, -, r4⟩ := ta80_tl hg hN h2 (Sd Q false 2000) x2 n 0 q1 q1 (by decide) q3 (fun v hv => (Sd_i gn (Nat.le_refl _) hv).2) rfl
    refine ⟨x2, fun v hv => (q2 v hv).trans (hg.2.2.2.2.2.2.2 v hv), n, p, by omega, r1, fun i hi => ?_⟩
    have r := r4 i hi
    rw [Nat.zero_add] at r
    exact r
theorem ca42_tl {l4_1 : Int32} {Colouring_colour : Nat → Int32} {s1 : Int32} {s2 : Int64} {s3 : Int64} {k : Nat} {e1 : Int64} (hw : l4_1.toInt = (w : Int)) (hw2 : w < 12) (h : tl_Colouring_coloursAround_42 l4_1 Colouring_colour s1 s2 s3 k e1) : ∀ n : Nat, s1.toInt = (n : Int) → (∀ i, i < n → s2.toBitVec.getLsbD i = false) → (∀ u, u / 64 = w → s2.toBitVec.getLsbD (u % 64) = true → -1 ≤ (Colouring_colour u).toInt ∧ (Colouring_colour u).toInt < 64) → ∀ c : Nat, c < 64 → (e1.toBitVec.getLsbD c = true ↔ s3.toBitVec.getLsbD c = true ∨ ∃ u, (u / 64 = w ∧ s2.toBitVec.getLsbD (u % 64) = true) ∧ (Colouring_colour u).toInt = (c : Int)) := by
  refine h (fun s1 s2 s3 _ e1 => ∀ n : Nat, s1.toInt = (n : Int) → (∀ i, i < n → s2.toBitVec.getLsbD i = false) → (∀ u, u / 64 = w → s2.toBitVec.getLsbD (u % 64) = true → -1 ≤ (Colouring_colour u).toInt ∧ (Colouring_colour u).toInt < 64) → ∀ c : Nat, c < 64 → (e1.toBitVec.getLsbD c = true ↔ s3.toBitVec.getLsbD c = true ∨ ∃ u, (u / 64 = w ∧ s2.toBitVec.getLsbD (u % 64) = true) ∧ (Colouring_colour u).toInt = (c : Int))) ?_ ?_ ?_ ?_
  · intro l7_2 l5_2 l2_2 h1 h2
    intro n hn hz hcl c hc
    exact ⟨Or.inl, fun y => y.elim id (fun ⟨u, z, _⟩ => by have z2 := z.2; rw [hz (u % 64) (by have := Nat.mod_lt u (show 64 > 0 by decide); omega)] at z2; cases z2)⟩
  · intro l7_2 l5_2 l2_2 h1 h2 h3
    intro n hn hz hcl c hc
    exact ⟨Or.inl, fun y => y.elim id (fun ⟨u, z, _⟩ => by have z2 := z.2; rw [h3] at z2; simp at z2)⟩
  · intro l7_2 l5_2 l2_2 x1 x2 x3 x4 x5 x6 x7 x8 x9 k e1 h1 h2 h3 h4 h5 h6 h7 h8 h9 h10 h11 h12 h13 h14 ih
    intro n hn hz hcl
    obtain ⟨z, z1, z2, z3, z4⟩ := lw_tr h3 h6
    have zn : n ≤ z := by
      by_cases c : z < n
      · rw [hz z c] at z3; cases z3
      · omega
    have cl := bit_neg1 h9 h10 z1 z3 z4
    have hz' : ∀ i, i < n + 1 → x6.toBitVec.getLsbD i = false := fun i hi => by
      rw [cl i (by omega)]
      by_cases c : i = z
      · simp [c]
      · rw [z4 i (by omega), Bool.false_and]
    have e3 : x3.toNatClampNeg = 64 * w + z := nnE (by omega)
    rw [e3] at h8
    have bq : ∀ u, u / 64 = w → (x6.toBitVec.getLsbD (u % 64) = true ↔ l5_2.toBitVec.getLsbD (u % 64) = true ∧ u ≠ 64 * w + z) := fun u hu => by
      rw [cl (u % 64) (Nat.mod_lt _ (by decide)), Bool.and_eq_true, decide_eq_true_iff]
      exact ⟨fun a => ⟨a.1, fun c => a.2 (by omega)⟩, fun a => ⟨a.1, fun c => a.2 (by omega)⟩⟩
    have i1 := ih (n + 1) (by omega) hz' (fun u a1 a2 => hcl u a1 ((bq u a1).mp a2).1)
    intro c hc
    rw [i1 c hc, bit_or h13, Bool.or_eq_true]
    have hb := hcl (64 * w + z) (by omega) (by rw [show (64 * w + z) % 64 = z by omega]; exact z3)
    rw [← h8] at hb
    have em : x4.toInt = ((x4.toInt.toNat : Nat) : Int) := (Int.toNat_of_nonneg (by omega)).symm
    rw [lb_shlM h12 em c hc, decide_eq_true_iff]
    constructor
    · rintro ((k | k) | ⟨u, ⟨k1, k2⟩, k3⟩)
      · exact Or.inl k
      · exact Or.inr ⟨64 * w + z, ⟨by omega, by rw [show (64 * w + z) % 64 = z by omega]; exact z3⟩, by rw [← h8]; omega⟩
      · exact Or.inr ⟨u, ⟨k1, ((bq u k1).mp k2).1⟩, k3⟩
    · rintro (k | ⟨u, ⟨k1, k2⟩, k3⟩)
      · exact Or.inl (Or.inl k)
      · by_cases d : u = 64 * w + z
        · rw [d, ← h8] at k3
          exact Or.inl (Or.inr (by omega))
        · exact Or.inr ⟨u, ⟨k1, (bq u k1).mpr ⟨k2, d⟩⟩, k3⟩
  · intro l7_2 l5_2 l2_2 x1 x2 x3 x4 x5 x6 x7 x8 k e1 h1 h2 h3 h4 h5 h6 h7 h8 h9 h10 h11 h12 h13 ih
    intro n hn hz hcl
    obtain ⟨z, z1, z2, z3, z4⟩ := lw_tr h3 h6
    have zn : n ≤ z := by
      by_cases c : z < n
      · rw [hz z c] at z3; cases z3
      · omega
    have cl := bit_neg1 h9 h10 z1 z3 z4
    have hz' : ∀ i, i < n + 1 → x6.toBitVec.getLsbD i = false := fun i hi => by
      rw [cl i (by omega)]
      by_cases c : i = z
      · simp [c]
      · rw [z4 i (by omega), Bool.false_and]
    have e3 : x3.toNatClampNeg = 64 * w + z := nnE (by omega)
    rw [e3] at h8
    have bq : ∀ u, u / 64 = w → (x6.toBitVec.getLsbD (u % 64) = true ↔ l5_2.toBitVec.getLsbD (u % 64) = true ∧ u ≠ 64 * w + z) := fun u hu => by
      rw [cl (u % 64) (Nat.mod_lt _ (by decide)), Bool.and_eq_true, decide_eq_true_iff]
      exact ⟨fun a => ⟨a.1, fun c => a.2 (by omega)⟩, fun a => ⟨a.1, fun c => a.2 (by omega)⟩⟩
    have i1 := ih (n + 1) (by omega) hz' (fun u a1 a2 => hcl u a1 ((bq u a1).mp a2).1)
    intro c hc
    rw [i1 c hc, bit_or h12, Bool.or_eq_true]
    have zz : (0 : Int64).toBitVec.getLsbD c = false := by simp
    rw [zz]
    constructor
    · rintro ((k | k) | ⟨u, ⟨k1, k2⟩, k3⟩)
      · exact Or.inl k
      · cases k
      · exact Or.inr ⟨u, ⟨k1, ((bq u k1).mp k2).1⟩, k3⟩
    · rintro (k | ⟨u, ⟨k1, k2⟩, k3⟩)
      · exact Or.inl (Or.inl k)
      · by_cases d : u = 64 * w + z
        · rw [d, ← h8] at k3
          omega
        · exact Or.inr ⟨u, ⟨k1, (bq u k1).mpr ⟨k2, d⟩⟩, k3⟩
theorem ca5_tl {Graph_words : Int32} {a1 : Int32} {Graph_joined : Nat → Int64} {Colouring_colour : Nat → Int32} {s1 : Int32} {s2 : Int64} {k : Nat} {e1 : Int64} {nam : Int32} {sd : Nat → Int64} {dg : Nat → Int32} (hg : gfC Q Nm W nam Graph_words Graph_joined sd dg) (hv : a1.toInt = (v : Int)) (hv2 : v < Nm) (hcl : ∀ u, JJ Q v u → -1 ≤ (Colouring_colour u).toInt ∧ (Colouring_colour u).toInt < 64) (h : tl_Colouring_coloursAround_5 Graph_words a1 Graph_joined Colouring_colour s1 s2 k e1) : ∀ m : Nat, s1.toInt = (m : Int) → m ≤ W → ∀ c : Nat, c < 64 → (e1.toBitVec.getLsbD c = true ↔ s2.toBitVec.getLsbD c = true ∨ ∃ u, (m ≤ u / 64 ∧ JJ Q v u) ∧ (Colouring_colour u).toInt = (c : Int)) := by
  obtain ⟨-, gW, gN, gW2, gn, gJ, -, gd⟩ := hg
  refine h (fun s1 s2 _ e1 => ∀ m : Nat, s1.toInt = (m : Int) → m ≤ W → ∀ c : Nat, c < 64 → (e1.toBitVec.getLsbD c = true ↔ s2.toBitVec.getLsbD c = true ∨ ∃ u, (m ≤ u / 64 ∧ JJ Q v u) ∧ (Colouring_colour u).toInt = (c : Int))) ?_ ?_
  · intro l4_1 l2_1 h1 h2
    intro m hm hmW c hc
    refine ⟨Or.inl, fun z => z.elim id (fun ⟨u, y, _⟩ => ?_)⟩
    have := (JJ_nn gn y.2).2
    omega
  · intro l4_1 l2_1 x1 x2 x3 x4 x5 k e1 h1 h2 h3 h4 h5 h6 h7 ih
    intro m hm hmW
    have ep : x1.toInt = ((v * W : Nat) : Int) := by rw [h3, hv, gW]; exact (Int.natCast_mul _ _).symm
    have ei : x2.toNatClampNeg = v * W + m := nnE (by omega)
    rw [ei] at h5
    have bv : ∀ q, q / 64 = m → (x3.toBitVec.getLsbD (q % 64) = true ↔ JJ Q v q) := fun q hq => by
      rw [← gJ v q hv2 (by omega)]
      unfold gbit
      rw [h5, show (64 * (v * W) + q) / 64 = v * W + m by omega, show (64 * (v * W) + q) % 64 = q % 64 by omega]
    have st := ca42_tl hm (by omega) h6 0 (by decide) (fun i hi => absurd hi (Nat.not_lt_zero i)) (fun u a1 a2 => hcl u ((bv u a1).mp a2))
    intro c hc
    rw [ih (m + 1) (by omega) (by omega) c hc, st c hc]
    constructor
    · rintro ((k | ⟨u, ⟨k1, k2⟩, k3⟩) | ⟨u, ⟨k1, k2⟩, k3⟩)
      · exact Or.inl k
      · exact Or.inr ⟨u, ⟨by omega, (bv u k1).mp k2⟩, k3⟩
      · exact Or.inr ⟨u, ⟨by omega, k2⟩, k3⟩
    · rintro (k | ⟨u, ⟨k1, k2⟩, k3⟩)
      · exact Or.inl (Or.inl k)
      · by_cases d : u / 64 = m
        · exact Or.inl (Or.inr ⟨u, ⟨d, (bv u d).mpr k2⟩, k3⟩)
        · exact Or.inr ⟨u, ⟨by omega, k2⟩, k3⟩
theorem car_tr {a1 : Int32} {Graph_words : Int32} {Colouring_colour : Nat → Int32} {Graph_joined : Nat → Int64} {o1 : Int64} {nam : Int32} {sd : Nat → Int64} {dg : Nat → Int32} (hg : gfC Q Nm W nam Graph_words Graph_joined sd dg) (hv : a1.toInt = (v : Int)) (hv2 : v < Nm) (hcl : ∀ u, JJ Q v u → -1 ≤ (Colouring_colour u).toInt ∧ (Colouring_colour u).toInt < 64) (h : tr_Colouring_coloursAround a1 Graph_words Colouring_colour Graph_joined o1) : ∀ c : Nat, c < 64 → (o1.toBitVec.getLsbD c = true ↔ ∃ u, JJ Q v u ∧ (Colouring_colour u).toInt = (c : Int)) := by
  refine h (fun o1 => ∀ c : Nat, c < 64 → (o1.toBitVec.getLsbD c = true ↔ ∃ u, JJ Q v u ∧ (Colouring_colour u).toInt = (c : Int))) ?_
  · intro x1 h1
    intro c hc
    rw [ca5_tl hg hv hv2 hcl h1 0 (by decide) (Nat.zero_le _) c hc]
    have zz : (0 : Int64).toBitVec.getLsbD c = false := by simp
    rw [zz]
    exact ⟨fun z => z.elim (fun y => (nomatch y)) (fun ⟨u, y, x⟩ => ⟨u, y.2, x⟩), fun ⟨u, y, x⟩ => Or.inr ⟨u, ⟨Nat.zero_le _, y⟩, x⟩⟩
theorem pt17_tl {Colouring_pile : Nat → Int32} {Graph_words : Int32} {Graph_joined : Nat → Int64} {a1 : Int32} {s1 : Int32} {s2 : Int32} {s3 : Nat → Int32} {k : Nat} {e1 : Int32} {e2 : Nat → Int32} {nam : Int32} {sd : Nat → Int64} {dg : Nat → Int32} {n : Nat} {p : Nat → Nat} (hg : gfC Q Nm W nam Graph_words Graph_joined sd dg) (hN : Nm ≤ 720) (hk : 0 ≤ a1.toInt) (hk2 : a1.toInt ≤ 32) (hp : ∀ i, i < n → (Colouring_pile i).toInt = (p i : Int) ∧ p i < Nm) (h : tl_Colouring_putTogether_17 Colouring_pile Graph_words Graph_joined a1 s1 s2 s3 k e1 e2) : ∀ t : Nat, t ≤ n → s1.toInt = (n : Int) - 1 - (t : Int) → (∀ u, u < 720 → (s3 u).toInt = clN (JJ Q) a1.toInt p n t u) → (s2.toInt ≠ 0 ↔ ¬ bdN (JJ Q) a1.toInt p n t) → (∀ u, u < 720 → (e2 u).toInt = clN (JJ Q) a1.toInt p n n u) ∧ (e1.toInt ≠ 0 ↔ ¬ bdN (JJ Q) a1.toInt p n n) := by
  refine h (fun s1 s2 s3 _ e1 e2 => ∀ t : Nat, t ≤ n → s1.toInt = (n : Int) - 1 - (t : Int) → (∀ u, u < 720 → (s3 u).toInt = clN (JJ Q) a1.toInt p n t u) → (s2.toInt ≠ 0 ↔ ¬ bdN (JJ Q) a1.toInt p n t) → (∀ u, u < 720 → (e2 u).toInt = clN (JJ Q) a1.toInt p n n u) ∧ (e1.toInt ≠ 0 ↔ ¬ bdN (JJ Q) a1.toInt p n n)) ?_ ?_ ?_
  · intro l3_1 l2_1 Colouring_colour_1 h1 h2 h3
    intro t ht hs h1 h2
    have e : t = n := by omega
    rw [e] at h1 h2
    exact ⟨h1, h2⟩
  · intro l3_1 l2_1 Colouring_colour_1 x1 x2 x3 x4 x5 k e1 e2 h1 h2 h3 h4 h5 h6 h7 h8 h9 h10 h11 ih
    intro t ht hs h1 h2
    have htn : t < n := by omega
    have e1 : l3_1.toNatClampNeg = n - 1 - t := nnE (by omega)
    rw [e1] at h4
    obtain ⟨p1, p2⟩ := hp (n - 1 - t) (by omega)
    rw [← h4] at p1
    have JN : ∀ u, JJ Q (p (n - 1 - t)) u → u < 720 := fun u hu => by
      have := (JJ_nn hg.2.2.2.2.1 hu).2
      omega
    have cb : ∀ u, JJ Q (p (n - 1 - t)) u → -1 ≤ (Colouring_colour_1 u).toInt ∧ (Colouring_colour_1 u).toInt < 64 := fun u hu => by
      have q := clN_b (J := JJ Q) (p := p) (n := n) hk t u
      rw [h1 u (JN u hu)]
      omega
    have ca := car_tr hg p1 p2 cb h6
    have top : x3.toBitVec.getLsbD 63 = true := by
      rw [bit_not h7 63 (by decide)]
      cases e : x2.toBitVec.getLsbD 63
      · rfl
      · obtain ⟨u, k1, k2⟩ := (ca 63 (by decide)).mp e
        have q := clN_b (J := JJ Q) (p := p) (n := n) hk t u
        rw [← h1 u (JN u k1), k2] at q
        omega
    have hx3 : ¬ x3 = 0 := fun e => by rw [e] at top; simp at top
    obtain ⟨z, z1, z2, z3, z4⟩ := lw_tr hx3 h9
    have lc : lcl (JJ Q) (clN (JJ Q) a1.toInt p n t) (p (n - 1 - t)) = z := by
      refine lcl_e ⟨fun u k1 k2 => ?_, fun d hd => ?_⟩
      · have q : x2.toBitVec.getLsbD z = true := (ca z z1).mpr ⟨u, k1, by rw [h1 u (JN u k1)]; exact k2⟩
        rw [bit_not h7 z z1, q] at z3
        cases z3
      · have q := z4 d hd
        rw [bit_not h7 d (by omega)] at q
        have q2 : x2.toBitVec.getLsbD d = true := by
          cases e : x2.toBitVec.getLsbD d
          · rw [e] at q; cases q
          · rfl
        obtain ⟨u, k1, k2⟩ := (ca d (by omega)).mp q2
        exact ⟨u, k1, by rw [← h1 u (JN u k1)]; exact k2⟩
    have bs : bdN (JJ Q) a1.toInt p n (t + 1) ↔ bdN (JJ Q) a1.toInt p n t ∨ a1.toInt ≤ (z : Int) := by
      constructor
      · rintro ⟨s, s1, s2⟩
        by_cases e : s = t
        · rw [e, lc] at s2; exact Or.inr s2
        · exact Or.inl ⟨s, by omega, s2⟩
      · rintro (⟨s, s1, s2⟩ | s2)
        · exact ⟨s, by omega, s2⟩
        · exact ⟨t, Nat.lt_succ_self t, by rw [lc]; exact s2⟩
    have cs : ∀ u, clN (JJ Q) a1.toInt p n (t + 1) u = @ite Int (u = p (n - 1 - t) ∧ (z : Int) < a1.toInt) (Classical.propDecidable _) (z : Int) (clN (JJ Q) a1.toInt p n t u) := fun u => by
      show @ite Int (u = p (n - 1 - t) ∧ (lcl (JJ Q) (clN (JJ Q) a1.toInt p n t) (p (n - 1 - t)) : Int) < a1.toInt) (Classical.propDecidable _) (lcl (JJ Q) (clN (JJ Q) a1.toInt p n t) (p (n - 1 - t)) : Int) (clN (JJ Q) a1.toInt p n t u) = _
      rw [lc]
    refine ih (t + 1) (by omega) (by omega) (fun u hu => ?_) ⟨fun y => absurd rfl y, fun y => absurd (bs.mpr (Or.inr (by omega))) y⟩
    rw [cs u, if_neg (fun y => by omega)]
    exact h1 u hu
  · intro l3_1 l2_1 Colouring_colour_1 x1 x2 x3 x4 x5 x6 k e1 e2 h1 h2 h3 h4 h5 h6 h7 h8 h9 h10 h11 h12 ih
    intro t ht hs h1 h2
    have htn : t < n := by omega
    have e1 : l3_1.toNatClampNeg = n - 1 - t := nnE (by omega)
    rw [e1] at h4
    obtain ⟨p1, p2⟩ := hp (n - 1 - t) (by omega)
    rw [← h4] at p1
    have JN : ∀ u, JJ Q (p (n - 1 - t)) u → u < 720 := fun u hu => by
      have := (JJ_nn hg.2.2.2.2.1 hu).2
      omega
    have cb : ∀ u, JJ Q (p (n - 1 - t)) u → -1 ≤ (Colouring_colour_1 u).toInt ∧ (Colouring_colour_1 u).toInt < 64 := fun u hu => by
      have q := clN_b (J := JJ Q) (p := p) (n := n) hk t u
      rw [h1 u (JN u hu)]
      omega
    have ca := car_tr hg p1 p2 cb h6
    have top : x3.toBitVec.getLsbD 63 = true := by
      rw [bit_not h7 63 (by decide)]
      cases e : x2.toBitVec.getLsbD 63
      · rfl
      · obtain ⟨u, k1, k2⟩ := (ca 63 (by decide)).mp e
        have q := clN_b (J := JJ Q) (p := p) (n := n) hk t u
        rw [← h1 u (JN u k1), k2] at q
        omega
    have hx3 : ¬ x3 = 0 := fun e => by rw [e] at top; simp at top
    obtain ⟨z, z1, z2, z3, z4⟩ := lw_tr hx3 h9
    have lc : lcl (JJ Q) (clN (JJ Q) a1.toInt p n t) (p (n - 1 - t)) = z := by
      refine lcl_e ⟨fun u k1 k2 => ?_, fun d hd => ?_⟩
      · have q : x2.toBitVec.getLsbD z = true := (ca z z1).mpr ⟨u, k1, by rw [h1 u (JN u k1)]; exact k2⟩
        rw [bit_not h7 z z1, q] at z3
        cases z3
      · have q := z4 d hd
        rw [bit_not h7 d (by omega)] at q
        have q2 : x2.toBitVec.getLsbD d = true := by
          cases e : x2.toBitVec.getLsbD d
          · rw [e] at q; cases q
          · rfl
        obtain ⟨u, k1, k2⟩ := (ca d (by omega)).mp q2
        exact ⟨u, k1, by rw [← h1 u (JN u k1)]; exact k2⟩
    have bs : bdN (JJ Q) a1.toInt p n (t + 1) ↔ bdN (JJ Q) a1.toInt p n t ∨ a1.toInt ≤ (z : Int) := by
      constructor
      · rintro ⟨s, s1, s2⟩
        by_cases e : s = t
        · rw [e, lc] at s2; exact Or.inr s2
        · exact Or.inl ⟨s, by omega, s2⟩
      · rintro (⟨s, s1, s2⟩ | s2)
        · exact ⟨s, by omega, s2⟩
        · exact ⟨t, Nat.lt_succ_self t, by rw [lc]; exact s2⟩
    have cs : ∀ u, clN (JJ Q) a1.toInt p n (t + 1) u = @ite Int (u = p (n - 1 - t) ∧ (z : Int) < a1.toInt) (Classical.propDecidable _) (z : Int) (clN (JJ Q) a1.toInt p n t u) := fun u => by
      show @ite Int (u = p (n - 1 - t) ∧ (lcl (JJ Q) (clN (JJ Q) a1.toInt p n t) (p (n - 1 - t)) : Int) < a1.toInt) (Classical.propDecidable _) (lcl (JJ Q) (clN (JJ Q) a1.toInt p n t) (p (n - 1 - t)) : Int) (clN (JJ Q) a1.toInt p n t u) = _
      rw [lc]
    refine ih (t + 1) (by omega) (by omega) (fun u hu => ?_) (h2.trans ⟨fun y w => y ((bs.mp w).elim id (fun e => by omega)), fun y w => y (bs.mpr (Or.inl w))⟩)
    rw [cs u, h11, nnE p1]
    by_cases c : u = p (n - 1 - t)
    · rw [if_pos ⟨c, by omega⟩, c, updE]; exact z2
    · rw [if_neg (fun y => c y.1), updN c]; exact h1 u hu
theorem ptg_tr {a1 : Int32} {Colouring_pileSize : Int32} {Graph_words : Int32} {Colouring_pile : Nat → Int32} {Colouring_colour : Nat → Int32} {Graph_joined : Nat → Int64} {o1 : Int32} {o2 : Nat → Int32} {nam : Int32} {sd : Nat → Int64} {dg : Nat → Int32} {n : Nat} {p : Nat → Nat} (hg : gfC Q Nm W nam Graph_words Graph_joined sd dg) (hN : Nm ≤ 720) (hk : 0 ≤ a1.toInt) (hk2 : a1.toInt ≤ 32) (hn : Colouring_pileSize.toInt = (n : Int)) (hp : ∀ i, i < n → (Colouring_pile i).toInt = (p i : Int) ∧ p i < Nm) (h : tr_Colouring_putTogether a1 Colouring_pileSize Graph_words Colouring_pile Colouring_colour Graph_joined o1 o2) : (∀ u, u < 720 → (o2 u).toInt = clN (JJ Q) a1.toInt p n n u) ∧ (o1.toInt ≠ 0 ↔ ¬ bdN (JJ Q) a1.toInt p n n) := by
  refine h (fun o1 o2 => (∀ u, u < 720 → (o2 u).toInt = clN (JJ Q) a1.toInt p n n u) ∧ (o1.toInt ≠ 0 ↔ ¬ bdN (JJ Q) a1.toInt p n n)) ?_
  · intro x1 x2 x3 x4 h1 h2 h3
    have fl := fz4_tr h1
    have r := pt17_tl hg hN hk hk2 hp h3 0 (Nat.zero_le _) (by omega) (fun u hu => by rw [fl u hu]; rfl) ⟨fun _ z => z.elim (fun s y => absurd y.1 (Nat.not_lt_zero s)), fun _ => by decide⟩
    exact r
end COC
