section RSX
variable {kd va : Int32} {xt : gTx} {K V : Int} {B : Int → Int} {n p : Int}
def isX (kd : Int32) (xt : gTx) (bs : List Int32) (q : Prop) : Prop := ((kd.toInt = 5 ∨ kd.toInt = 1) ∧ txE xt bs) ↔ q
/-- a sign of the reference is the sign K, V of the machine -/
def tkR (kd va : Int32) (xt : gTx) (K V : Int) : Prop := (kd.toInt = 0 ↔ K = 1) ∧ (kd.toInt = 2 ↔ K = 2) ∧ (kd.toInt = 3 ↔ K = 3) ∧ (kd.toInt = 4 ↔ K = 4) ∧ (2 ≤ K → K ≤ 4 → va.toInt = V) ∧ (K = 5 → kd.toInt = 5) ∧ (kd.toInt = 5 → ∀ o, tr_RModel_operation xt.2 xt.1 o → o.toInt = if K = 5 then V + 1 else 0) ∧
  isX kd xt sb_38 (K = 6) ∧ isX kd xt sb_40 (K = 7) ∧ isX kd xt sb_41 (K = 8) ∧ isX kd xt sb_39 (K = 9) ∧ isX kd xt sb_45 (K = 10) ∧ isX kd xt sb_44 (K = 11) ∧ isX kd xt sb_46 (K = 12)
theorem isX_n {bs : List Int32} {q : Prop} (h1 : kd.toInt ≠ 5) (h2 : kd.toInt ≠ 1) (hq : ¬ q) : isX kd xt bs q := ⟨fun z => by omega, fun z => absurd z hq⟩
theorem tkR_o (h1 : kd.toInt ≠ 5) (h2 : kd.toInt ≠ 1) (hk : (kd.toInt = 6 ∧ K = 0) ∨ (kd.toInt = 0 ∧ K = 1) ∨ (2 ≤ K ∧ K ≤ 4 ∧ kd.toInt = K ∧ va.toInt = V)) : tkR kd va xt K V :=
  ⟨by omega, by omega, by omega, by omega, fun a b => by omega, fun z => by omega, fun z => absurd z h1, isX_n h1 h2 (by omega), isX_n h1 h2 (by omega), isX_n h1 h2 (by omega), isX_n h1 h2 (by omega), isX_n h1 h2 (by omega), isX_n h1 h2 (by omega), isX_n h1 h2 (by omega)⟩
theorem tx1 {bs : List Int32} {c : Int} (h1 : xt.1 = 1) (hc : (xt.2 0).toInt = c) (hl : bs.length = 1) : txE xt bs ↔ (bs.getD 0 0).toInt = c := by
  constructor
  · intro z; rw [← z.2 0 (by omega), hc]
  · intro z
    refine ⟨by omega, fun j hj => ?_⟩
    have e : j = 0 := by omega
    rw [e, hc, z]
theorem txl {bs : List Int32} (h : xt.1 ≠ bs.length) : ¬ txE xt bs := fun z => h z.1
theorem lns : sb_38.length = 1 ∧ sb_40.length = 1 ∧ sb_41.length = 2 ∧ sb_39.length = 4 ∧ sb_45.length = 2 ∧ sb_44.length = 4 ∧ sb_46.length = 3 := by decide
theorem mkS_v {c d : Int} : mkS p c d = @ite _ (tw c d) (Classical.propDecidable _) (5, v2 c d - 1, p + 2) (if v1 c ≠ 0 then (5, v1 c - 1, p + 1) else if c = 58 then (6, 0, p + 1) else if c = 61 then (7, 0, p + 1) else (0, 0, p + 1)) := by
  have a2 : (opF 0 c d ≠ -1 ∧ d ≠ 32) ↔ tw c d := by
    rw [opF_v]
    unfold tw
    constructor
    · rintro ⟨h1, h2⟩
      by_cases e1 : 60 = c ∧ 60 = d
      · exact Or.inl ⟨e1.1.symm, e1.2.symm⟩
      by_cases e2 : 62 = c ∧ 62 = d
      · exact Or.inr (Or.inl ⟨e2.1.symm, e2.2.symm⟩)
      by_cases e3 : 60 = c ∧ 61 = d
      · exact Or.inr (Or.inr (Or.inl ⟨e3.1.symm, e3.2.symm⟩))
      by_cases e4 : 61 = c ∧ 61 = d
      · exact Or.inr (Or.inr (Or.inr (Or.inl ⟨e4.1.symm, e4.2.symm⟩)))
      by_cases e5 : 33 = c ∧ 61 = d
      · exact Or.inr (Or.inr (Or.inr (Or.inr ⟨e5.1.symm, e5.2.symm⟩)))
      exfalso
      refine h1 ?_
      rw [if_neg (by omega), if_neg (by omega), if_neg (by omega), if_neg (by omega), if_neg (by omega), if_neg (by omega), if_neg (by omega), if_neg (by omega), if_neg e1, if_neg e2, if_neg (by omega), if_neg e3, if_neg e4, if_neg e5]
    · rintro (⟨a, b⟩ | ⟨a, b⟩ | ⟨a, b⟩ | ⟨a, b⟩ | ⟨a, b⟩) <;> (rw [a, b]; decide)
  have a3 : tw c d → opF 0 c d = v2 c d - 1 := by
    rw [opF_v]
    unfold tw
    rintro (⟨a, b⟩ | ⟨a, b⟩ | ⟨a, b⟩ | ⟨a, b⟩ | ⟨a, b⟩) <;> (rw [a, b]; decide)
  have a4 : opF 0 c 32 = v1 c - 1 := by
    rw [opF_v]
    unfold v1
    by_cases c1 : c = 43
    · rw [c1]; decide
    by_cases c2 : c = 45
    · rw [c2]; decide
    by_cases c3 : c = 42
    · rw [c3]; decide
    by_cases c4 : c = 47
    · rw [c4]; decide
    by_cases c5 : c = 37
    · rw [c5]; decide
    by_cases c6 : c = 38
    · rw [c6]; decide
    by_cases c7 : c = 124
    · rw [c7]; decide
    by_cases c8 : c = 94
    · rw [c8]; decide
    by_cases c9 : c = 60
    · rw [c9]; decide
    rw [if_neg c1, if_neg c2, if_neg c3, if_neg c4, if_neg c5, if_neg c6, if_neg c7, if_neg c8, if_neg c9]
    rw [if_neg (by omega), if_neg (by omega), if_neg (by omega), if_neg (by omega), if_neg (by omega), if_neg (by omega), if_neg (by omega), if_neg (by omega), if_neg (by omega), if_neg (by omega), if_neg (by omega), if_neg (by omega), if_neg (by omega), if_neg (by omega)]
    decide
  unfold mkS
  by_cases t : tw c d
  · rw [if_pos (a2.mpr t), a3 t, if_pos t]
  · rw [if_neg (fun z => t (a2.mp z)), if_neg t, a4]
    by_cases z : v1 c ≠ 0
    · rw [if_pos (by omega), if_pos z]
    · rw [if_neg (by omega), if_neg z]
theorem v1_s {c : Int} : v1 c ≠ 0 → sgC c ∧ c ≠ 58 ∧ c ≠ 61 := by
  unfold v1 sgC
  intro h
  by_cases c1 : c = 43
  · omega
  rw [if_neg c1] at h
  by_cases c2 : c = 45
  · omega
  rw [if_neg c2] at h
  by_cases c3 : c = 42
  · omega
  rw [if_neg c3] at h
  by_cases c4 : c = 47
  · omega
  rw [if_neg c4] at h
  by_cases c5 : c = 37
  · omega
  rw [if_neg c5] at h
  by_cases c6 : c = 38
  · omega
  rw [if_neg c6] at h
  by_cases c7 : c = 124
  · omega
  rw [if_neg c7] at h
  by_cases c8 : c = 94
  · omega
  rw [if_neg c8] at h
  by_cases c9 : c = 60
  · omega
  rw [if_neg c9] at h
  exact absurd rfl h
theorem sgC_g {c : Int} (h : sgC c) : 32 < c ∧ c < 97 ∨ c = 124 := by unfold sgC at h; omega
/-- a symbol -/
theorem sy_tk {c d : Int} {at' : Int32} (h : syR c d p at' kd xt) : tkR kd va xt (mkS p c d).1 (mkS p c d).2.1 ∧ ((mkS p c d).1 ≠ 0 → at'.toInt = (mkS p c d).2.2) := by
  obtain ⟨l1, l2, l3, l4, l5, l6, l7⟩ := lns
  have c38 : (sb_38.getD 0 0).toInt = 58 := by decide
  have c40 : (sb_40.getD 0 0).toInt = 61 := by decide
  have c41 : (sb_41.getD 0 0).toInt = 105 := by decide
  have c45 : (sb_45.getD 0 0).toInt = 105 := by decide
  rw [mkS_v]
  rcases h with ⟨h1, h2, h3, h4⟩ | ⟨h1, h2, h3, h4, h5, h6⟩ | ⟨h1, h2, h3, h4, h5, h6⟩
  · have z : ¬ v1 c ≠ 0 := fun z => h2 (v1_s z).1
    have z1 : c ≠ 58 := fun e => h2 (by unfold sgC; omega)
    have z2 : c ≠ 61 := fun e => h2 (by unfold sgC; omega)
    rw [if_neg h3, if_neg z, if_neg z1, if_neg z2]
    exact ⟨tkR_o (by omega) (by omega) (Or.inl ⟨h1, rfl⟩), fun q => absurd rfl q⟩
  · rw [if_pos h5]
    show tkR kd va xt 5 (v2 c d - 1) ∧ ((5 : Int) ≠ 0 → at'.toInt = p + 2)
    have gt : 32 < c ∧ 32 < d ∧ c < 97 := by unfold tw at h5; omega
    have nx : ∀ {bs : List Int32} {q : Prop}, ¬ q → (bs.length ≠ 2 ∨ (bs.getD 0 0).toInt = 105 ∧ bs.length = 2) → isX kd xt bs q := fun {bs q} hq hb => by
      refine ⟨fun z => ?_, fun z => absurd z hq⟩
      have z1 := z.2.1
      rcases hb with hb | hb
      · omega
      · have z2 := z.2.2 0 (by omega)
        omega
    refine ⟨⟨?_, ?_, ?_, ?_, ?_, fun _ => h1, fun _ o ho => ?_, nx (by decide) (by omega), nx (by decide) (by omega), nx (by decide) (Or.inr ⟨c41, l3⟩), nx (by decide) (by omega), nx (by decide) (Or.inr ⟨c45, l5⟩), nx (by decide) (by omega), nx (by decide) (by omega)⟩, fun _ => h6⟩
    · exact ⟨fun z => by omega, fun z => absurd z (by decide)⟩
    · exact ⟨fun z => by omega, fun z => absurd z (by decide)⟩
    · exact ⟨fun z => by omega, fun z => absurd z (by decide)⟩
    · exact ⟨fun z => by omega, fun z => absurd z (by decide)⟩
    · exact fun _ z => absurd z (by decide)
    · rw [h2] at ho
      rw [opv2 ho h3 h4 gt.1 gt.2.1, if_pos rfl]
      show v2 c d = v2 c d - 1 + 1
      omega
  · rw [if_neg h5]
    have gt := sgC_g h4
    have x38 : ∀ {q : Prop}, (c = 58 ↔ q) → isX kd xt sb_38 q := fun {q} hq => by
      unfold isX
      rw [tx1 h2 h3 l1, c38, ← hq]
      exact ⟨fun z => z.2.symm, fun z => ⟨Or.inl h1, z.symm⟩⟩
    have x40 : ∀ {q : Prop}, (c = 61 ↔ q) → isX kd xt sb_40 q := fun {q} hq => by
      unfold isX
      rw [tx1 h2 h3 l2, c40, ← hq]
      exact ⟨fun z => z.2.symm, fun z => ⟨Or.inl h1, z.symm⟩⟩
    have nx : ∀ {bs : List Int32} {q : Prop}, ¬ q → bs.length ≠ 1 → isX kd xt bs q := fun {bs q} hq hb => ⟨fun z => absurd z.2 (txl (by omega)), fun z => absurd z hq⟩
    have op : ∀ o, tr_RModel_operation xt.2 xt.1 o → o.toInt = v1 c := fun o ho => by
      rw [h2] at ho
      exact opv1 ho h3 (by omega)
    by_cases z : v1 c ≠ 0
    · rw [if_pos z]
      show tkR kd va xt 5 (v1 c - 1) ∧ ((5 : Int) ≠ 0 → at'.toInt = p + 1)
      obtain ⟨-, z1, z2⟩ := v1_s z
      refine ⟨⟨⟨fun y => by omega, fun y => absurd y (by decide)⟩, ⟨fun y => by omega, fun y => absurd y (by decide)⟩, ⟨fun y => by omega, fun y => absurd y (by decide)⟩, ⟨fun y => by omega, fun y => absurd y (by decide)⟩, fun _ y => absurd y (by decide), fun _ => h1, fun _ o ho => ?_, x38 ⟨fun y => absurd y z1, fun y => absurd y (by decide)⟩, x40 ⟨fun y => absurd y z2, fun y => absurd y (by decide)⟩, nx (by decide) (by omega), nx (by decide) (by omega), nx (by decide) (by omega), nx (by decide) (by omega), nx (by decide) (by omega)⟩, fun _ => h6⟩
      rw [op o ho, if_pos rfl]
      show v1 c = v1 c - 1 + 1
      omega
    · rw [if_neg z]
      have z0 : v1 c = 0 := Decidable.not_not.mp z
      by_cases e1 : c = 58
      · rw [if_pos e1]
        show tkR kd va xt 6 0 ∧ ((6 : Int) ≠ 0 → at'.toInt = p + 1)
        refine ⟨⟨⟨fun y => by omega, fun y => absurd y (by decide)⟩, ⟨fun y => by omega, fun y => absurd y (by decide)⟩, ⟨fun y => by omega, fun y => absurd y (by decide)⟩, ⟨fun y => by omega, fun y => absurd y (by decide)⟩, fun _ y => absurd y (by decide), fun y => absurd y (by decide), fun _ o ho => ?_, x38 ⟨fun _ => rfl, fun _ => e1⟩, x40 ⟨fun y => by omega, fun y => absurd y (by decide)⟩, nx (by decide) (by omega), nx (by decide) (by omega), nx (by decide) (by omega), nx (by decide) (by omega), nx (by decide) (by omega)⟩, fun _ => h6⟩
        rw [op o ho, z0]; rfl
      · rw [if_neg e1]
        by_cases e2 : c = 61
        · rw [if_pos e2]
          show tkR kd va xt 7 0 ∧ ((7 : Int) ≠ 0 → at'.toInt = p + 1)
          refine ⟨⟨⟨fun y => by omega, fun y => absurd y (by decide)⟩, ⟨fun y => by omega, fun y => absurd y (by decide)⟩, ⟨fun y => by omega, fun y => absurd y (by decide)⟩, ⟨fun y => by omega, fun y => absurd y (by decide)⟩, fun _ y => absurd y (by decide), fun y => absurd y (by decide), fun _ o ho => ?_, x38 ⟨fun y => by omega, fun y => absurd y (by decide)⟩, x40 ⟨fun _ => rfl, fun _ => e2⟩, nx (by decide) (by omega), nx (by decide) (by omega), nx (by decide) (by omega), nx (by decide) (by omega), nx (by decide) (by omega)⟩, fun _ => h6⟩
          rw [op o ho, z0]; rfl
        · rw [if_neg e2]
          show tkR kd va xt 0 0 ∧ ((0 : Int) ≠ 0 → at'.toInt = p + 1)
          refine ⟨⟨⟨fun y => by omega, fun y => absurd y (by decide)⟩, ⟨fun y => by omega, fun y => absurd y (by decide)⟩, ⟨fun y => by omega, fun y => absurd y (by decide)⟩, ⟨fun y => by omega, fun y => absurd y (by decide)⟩, fun y => absurd y (by decide), fun y => absurd y (by decide), fun _ o ho => ?_, x38 ⟨fun y => absurd y e1, fun y => absurd y (by decide)⟩, x40 ⟨fun y => absurd y e2, fun y => absurd y (by decide)⟩, nx (by decide) (by omega), nx (by decide) (by omega), nx (by decide) (by omega), nx (by decide) (by omega), nx (by decide) (by omega)⟩, fun q => absurd rfl q⟩
          rw [op o ho, z0]; rfl
/-- letters -/
theorem isW_tx {bs : List Int32} {m : Nat} {g : Nat → Int32} {e : Int} (hm : (m : Int) = e - p) (hg : ∀ j, j < m → (g j).toInt = B (p + (j : Int)) ∧ 97 ≤ (g j).toInt ∧ (g j).toInt ≤ 122) (hb : ∀ j, j < bs.length → chr bs j = (bs.getD j 0).toInt) : txE (m, g) bs ↔ isW bs B n p e = true := by
  rw [isW_iff]
  constructor
  · rintro ⟨h1, h2⟩
    have h1' : m = bs.length := h1
    refine ⟨by omega, fun j hj => ?_⟩
    rw [hb j hj, ← h2 j hj]
    exact (hg j (by omega)).1.symm
  · rintro ⟨h1, h2⟩
    refine ⟨show m = bs.length by omega, fun j hj => ?_⟩
    rw [← hb j hj, ← h2 j hj]
    exact (hg j (by omega)).1
theorem eq_41 : sb_41 = sb_0 := by decide
theorem ch_41 : ∀ j, j < sb_41.length → chr sb_41 j = (sb_41.getD j 0).toInt := fun j hj => by
  have T : ∀ j : Fin 2, chr sb_41 j.val = (sb_41.getD j.val 0).toInt := by decide +kernel
  have L : sb_41.length = 2 := by decide
  exact T ⟨j, by omega⟩
theorem eq_39 : sb_39 = sb_1 := by decide
theorem ch_39 : ∀ j, j < sb_39.length → chr sb_39 j = (sb_39.getD j 0).toInt := fun j hj => by
  have T : ∀ j : Fin 4, chr sb_39 j.val = (sb_39.getD j.val 0).toInt := by decide +kernel
  have L : sb_39.length = 4 := by decide
  exact T ⟨j, by omega⟩
theorem eq_45 : sb_45 = sb_2 := by decide
theorem ch_45 : ∀ j, j < sb_45.length → chr sb_45 j = (sb_45.getD j 0).toInt := fun j hj => by
  have T : ∀ j : Fin 2, chr sb_45 j.val = (sb_45.getD j.val 0).toInt := by decide +kernel
  have L : sb_45.length = 2 := by decide
  exact T ⟨j, by omega⟩
theorem eq_44 : sb_44 = sb_3 := by decide
theorem ch_44 : ∀ j, j < sb_44.length → chr sb_44 j = (sb_44.getD j 0).toInt := fun j hj => by
  have T : ∀ j : Fin 4, chr sb_44 j.val = (sb_44.getD j.val 0).toInt := by decide +kernel
  have L : sb_44.length = 4 := by decide
  exact T ⟨j, by omega⟩
theorem eq_46 : sb_46 = sb_4 := by decide
theorem ch_46 : ∀ j, j < sb_46.length → chr sb_46 j = (sb_46.getD j 0).toInt := fun j hj => by
  have T : ∀ j : Fin 3, chr sb_46 j.val = (sb_46.getD j.val 0).toInt := by decide +kernel
  have L : sb_46.length = 3 := by decide
  exact T ⟨j, by omega⟩
/-- two words at one place are one -/
theorem isW_u {a b : List Int32} {e : Int} {j : Nat} (h1 : isW a B n p e = true) (h2 : isW b B n p e = true) : a.length = b.length ∧ (j < a.length → chr a j = chr b j) := by
  obtain ⟨a1, a2⟩ := isW_iff.mp h1
  obtain ⟨b1, b2⟩ := isW_iff.mp h2
  exact ⟨by omega, fun hj => by rw [← a2 j hj, ← b2 j (by omega)]⟩
theorem wdK_v {e : Int} : (wdK B n p e = 8 ↔ isW sb_0 B n p e = true) ∧ (wdK B n p e = 9 ↔ isW sb_1 B n p e = true) ∧ (wdK B n p e = 10 ↔ isW sb_2 B n p e = true) ∧ (wdK B n p e = 11 ↔ isW sb_3 B n p e = true) ∧ (wdK B n p e = 12 ↔ isW sb_4 B n p e = true) := by
  have l0 : sb_0.length = 2 := by decide
  have l1 : sb_1.length = 4 := by decide
  have l2 : sb_2.length = 2 := by decide
  have l3 : sb_3.length = 4 := by decide
  have l4 : sb_4.length = 3 := by decide
  have k0 : chr sb_0 1 = 110 := by decide
  have k2 : chr sb_2 1 = 102 := by decide
  have k1 : chr sb_1 0 = 115 := by decide
  have k3 : chr sb_3 0 = 106 := by decide
  have n01 : isW sb_0 B n p e = true → isW sb_1 B n p e = true → False := fun a b => by have := (isW_u (j := 0) a b).1; omega
  have n02 : isW sb_0 B n p e = true → isW sb_2 B n p e = true → False := fun a b => by have := (isW_u (j := 1) a b).2 (by omega); omega
  have n03 : isW sb_0 B n p e = true → isW sb_3 B n p e = true → False := fun a b => by have := (isW_u (j := 0) a b).1; omega
  have n04 : isW sb_0 B n p e = true → isW sb_4 B n p e = true → False := fun a b => by have := (isW_u (j := 0) a b).1; omega
  have n12 : isW sb_1 B n p e = true → isW sb_2 B n p e = true → False := fun a b => by have := (isW_u (j := 0) a b).1; omega
  have n13 : isW sb_1 B n p e = true → isW sb_3 B n p e = true → False := fun a b => by have := (isW_u (j := 0) a b).2 (by omega); omega
  have n14 : isW sb_1 B n p e = true → isW sb_4 B n p e = true → False := fun a b => by have := (isW_u (j := 0) a b).1; omega
  have n23 : isW sb_2 B n p e = true → isW sb_3 B n p e = true → False := fun a b => by have := (isW_u (j := 0) a b).1; omega
  have n24 : isW sb_2 B n p e = true → isW sb_4 B n p e = true → False := fun a b => by have := (isW_u (j := 0) a b).1; omega
  have n34 : isW sb_3 B n p e = true → isW sb_4 B n p e = true → False := fun a b => by have := (isW_u (j := 0) a b).1; omega
  unfold wdK
  by_cases h0 : isW sb_0 B n p e = true
  · rw [if_pos h0]
    exact ⟨⟨fun _ => h0, fun _ => rfl⟩, ⟨fun z => absurd z (by decide), fun z => (n01 h0 z).elim⟩, ⟨fun z => absurd z (by decide), fun z => (n02 h0 z).elim⟩, ⟨fun z => absurd z (by decide), fun z => (n03 h0 z).elim⟩, ⟨fun z => absurd z (by decide), fun z => (n04 h0 z).elim⟩⟩
  rw [if_neg h0]
  by_cases h1 : isW sb_1 B n p e = true
  · rw [if_pos h1]
    exact ⟨⟨fun z => absurd z (by decide), fun z => absurd z h0⟩, ⟨fun _ => h1, fun _ => rfl⟩, ⟨fun z => absurd z (by decide), fun z => (n12 h1 z).elim⟩, ⟨fun z => absurd z (by decide), fun z => (n13 h1 z).elim⟩, ⟨fun z => absurd z (by decide), fun z => (n14 h1 z).elim⟩⟩
  rw [if_neg h1]
  by_cases h2 : isW sb_2 B n p e = true
  · rw [if_pos h2]
    exact ⟨⟨fun z => absurd z (by decide), fun z => absurd z h0⟩, ⟨fun z => absurd z (by decide), fun z => absurd z h1⟩, ⟨fun _ => h2, fun _ => rfl⟩, ⟨fun z => absurd z (by decide), fun z => (n23 h2 z).elim⟩, ⟨fun z => absurd z (by decide), fun z => (n24 h2 z).elim⟩⟩
  rw [if_neg h2]
  by_cases h3 : isW sb_3 B n p e = true
  · rw [if_pos h3]
    exact ⟨⟨fun z => absurd z (by decide), fun z => absurd z h0⟩, ⟨fun z => absurd z (by decide), fun z => absurd z h1⟩, ⟨fun z => absurd z (by decide), fun z => absurd z h2⟩, ⟨fun _ => h3, fun _ => rfl⟩, ⟨fun z => absurd z (by decide), fun z => (n34 h3 z).elim⟩⟩
  rw [if_neg h3]
  by_cases h4 : isW sb_4 B n p e = true
  · rw [if_pos h4]
    exact ⟨⟨fun z => absurd z (by decide), fun z => absurd z h0⟩, ⟨fun z => absurd z (by decide), fun z => absurd z h1⟩, ⟨fun z => absurd z (by decide), fun z => absurd z h2⟩, ⟨fun z => absurd z (by decide), fun z => absurd z h3⟩, ⟨fun _ => h4, fun _ => rfl⟩⟩
  rw [if_neg h4]
  exact ⟨⟨fun z => absurd z (by decide), fun z => absurd z h0⟩, ⟨fun z => absurd z (by decide), fun z => absurd z h1⟩, ⟨fun z => absurd z (by decide), fun z => absurd z h2⟩, ⟨fun z => absurd z (by decide), fun z => absurd z h3⟩, ⟨fun z => absurd z (by decide), fun z => absurd z h4⟩⟩
/-- a word of letters -/
theorem wd_tk {e : Int} {m : Nat} {g : Nat → Int32} (hm : (m : Int) = e - p) (hg : ∀ j, j < m → (g j).toInt = B (p + (j : Int)) ∧ 97 ≤ (g j).toInt ∧ (g j).toInt ≤ 122) (h : (kd.toInt = 1 ∧ xt = (m, g)) ∨ (kd.toInt = 6 ∧ ¬ isF (m, g))) : tkR kd va xt (wdK B n p e) 0 := by
  obtain ⟨w8, w9, w10, w11, w12⟩ := wdK_v (B := B) (n := n) (p := p) (e := e)
  have t41 := isW_tx (n := n) hm hg ch_41
  have t39 := isW_tx (n := n) hm hg ch_39
  have t45 := isW_tx (n := n) hm hg ch_45
  have t44 := isW_tx (n := n) hm hg ch_44
  have t46 := isW_tx (n := n) hm hg ch_46
  rw [eq_41, ← w8] at t41
  rw [eq_39, ← w9] at t39
  rw [eq_45, ← w10] at t45
  rw [eq_44, ← w11] at t44
  rw [eq_46, ← w12] at t46
  rw [← eq_41] at t41
  rw [← eq_39] at t39
  rw [← eq_45] at t45
  rw [← eq_44] at t44
  rw [← eq_46] at t46
  have w0 := wdK_no B n p e
  rcases h with ⟨h1, h2⟩ | ⟨h1, h2⟩
  · have nx : ∀ {bs : List Int32} {q : Prop}, ¬ q → bs.length = 1 → (bs.getD 0 0).toInt < 97 → isX kd xt bs q := fun {bs q} hq hb hc => by
      refine ⟨fun z => ?_, fun z => absurd z hq⟩
      have z1 := z.2.1
      have z2 := z.2.2 0 (by omega)
      rw [h2] at z1 z2
      have z3 : m = bs.length := z1
      have z4 := (hg 0 (by omega)).2.1
      have z5 : (g 0).toInt = (bs.getD 0 0).toInt := z2
      omega
    have yx : ∀ {bs : List Int32} {q : Prop}, (txE (m, g) bs ↔ q) → isX kd xt bs q := fun {bs q} hq => by
      unfold isX
      rw [h2, hq]
      exact ⟨fun z => z.2, fun z => ⟨Or.inr h1, z⟩⟩
    exact ⟨by omega, by omega, by omega, by omega, fun a b => by omega, fun z => by omega, fun z => by omega, nx (by omega) (by decide) (by decide), nx (by omega) (by decide) (by decide), yx t41, yx t39, yx t45, yx t44, yx t46⟩
  · have k0 : wdK B n p e = 0 := by
      have a1 : ¬ wdK B n p e = 8 := fun z => h2 (Or.inl (t41.mpr z))
      have a2 : ¬ wdK B n p e = 9 := fun z => h2 (Or.inr (Or.inl (t39.mpr z)))
      have a3 : ¬ wdK B n p e = 10 := fun z => h2 (Or.inr (Or.inr (Or.inl (t45.mpr z))))
      have a4 : ¬ wdK B n p e = 11 := fun z => h2 (Or.inr (Or.inr (Or.inr (Or.inl (t44.mpr z)))))
      have a5 : ¬ wdK B n p e = 12 := fun z => h2 (Or.inr (Or.inr (Or.inr (Or.inr (t46.mpr z)))))
      have b : wdK B n p e ≤ 12 := by
        unfold wdK
        split
        · omega
        · split
          · omega
          · split
            · omega
            · split
              · omega
              · split <;> omega
      omega
    rw [k0]
    exact tkR_o (by omega) (by omega) (Or.inl ⟨h1, rfl⟩)
theorem rkN_tk {s : Int × Int × Int} {at' : Int32} (h : rkN kd va s at') : tkR kd va xt s.1 s.2.1 ∧ (s.1 ≠ 0 → at'.toInt = s.2.2) := by
  obtain ⟨h1, h2⟩ := h
  refine ⟨?_, fun _ => h1⟩
  rcases h2 with ⟨a, b⟩ | ⟨a, b, c, d⟩
  · rw [a]; exact tkR_o (by omega) (by omega) (Or.inl ⟨b, rfl⟩)
  · exact tkR_o (by omega) (by omega) (Or.inr (Or.inr ⟨a, b, c, d⟩))
theorem nx_tr {a0_n : Int32} {a0_at : Int32} {a0_kind : Int32} {a0_value : Int32} {a0_t_v : Nat → Int32} {o1 : Int32} {o2 : Int32} {o3 : Int32} {o4 : Int32} {o5 : gTx} (hF : ∀ k, gB (a0_t_v k) (-128) 127) (h0 : 0 ≤ a0_at.toInt) (h1' : a0_at.toInt ≤ a0_n.toInt) (hn : a0_n.toInt ≤ 8192) (h : tr_RReader_next a0_n a0_at a0_kind a0_value a0_t_v o1 o2 o3 o4 o5) : o3.toInt = (skp (bA a0_t_v a0_n.toInt) a0_n.toInt a0_at.toInt 0) ∧ tkR o2 o4 o5 (sgn (bA a0_t_v a0_n.toInt) a0_n.toInt (skp (bA a0_t_v a0_n.toInt) a0_n.toInt a0_at.toInt 0) (decide (a0_kind.toInt = 2 ∨ a0_kind.toInt = 4))).1 (sgn (bA a0_t_v a0_n.toInt) a0_n.toInt (skp (bA a0_t_v a0_n.toInt) a0_n.toInt a0_at.toInt 0) (decide (a0_kind.toInt = 2 ∨ a0_kind.toInt = 4))).2.1 ∧ ((sgn (bA a0_t_v a0_n.toInt) a0_n.toInt (skp (bA a0_t_v a0_n.toInt) a0_n.toInt a0_at.toInt 0) (decide (a0_kind.toInt = 2 ∨ a0_kind.toInt = 4))).1 ≠ 0 → o1.toInt = (sgn (bA a0_t_v a0_n.toInt) a0_n.toInt (skp (bA a0_t_v a0_n.toInt) a0_n.toInt a0_at.toInt 0) (decide (a0_kind.toInt = 2 ∨ a0_kind.toInt = 4))).2.2) := by
  have hsk := skp_le (B := bA a0_t_v a0_n.toInt) (r := 0) h1'
  refine h (fun o1 o2 o3 o4 o5 => o3.toInt = (skp (bA a0_t_v a0_n.toInt) a0_n.toInt a0_at.toInt 0) ∧ tkR o2 o4 o5 (sgn (bA a0_t_v a0_n.toInt) a0_n.toInt (skp (bA a0_t_v a0_n.toInt) a0_n.toInt a0_at.toInt 0) (decide (a0_kind.toInt = 2 ∨ a0_kind.toInt = 4))).1 (sgn (bA a0_t_v a0_n.toInt) a0_n.toInt (skp (bA a0_t_v a0_n.toInt) a0_n.toInt a0_at.toInt 0) (decide (a0_kind.toInt = 2 ∨ a0_kind.toInt = 4))).2.1 ∧ ((sgn (bA a0_t_v a0_n.toInt) a0_n.toInt (skp (bA a0_t_v a0_n.toInt) a0_n.toInt a0_at.toInt 0) (decide (a0_kind.toInt = 2 ∨ a0_kind.toInt = 4))).1 ≠ 0 → o1.toInt = (sgn (bA a0_t_v a0_n.toInt) a0_n.toInt (skp (bA a0_t_v a0_n.toInt) a0_n.toInt a0_at.toInt 0) (decide (a0_kind.toInt = 2 ∨ a0_kind.toInt = 4))).2.2)) ?_ ?_ ?_ ?_ ?_ ?_ ?_ ?_ ?_ ?_ ?_ ?_ ?_
  · intro x1 x2 x3 x4 x5 x6 x7 x8 h1 h2 h3 h4 h5 h6 h7 h8 h9 h10 h11 h12 h13 h14
    have e1 := rs_tl h1 h0 h1'
    rw [e1]
    rw [e1] at hsk
    refine ⟨rfl, ?_⟩
    have hlt : x1.toInt < a0_n.toInt := by omega
    have q := rbe (n := a0_n) h3 h4 (by omega) hlt
    have q45 := q.1 45 (by decide) (by decide)
    have q118 := q.1 118 (by decide) (by decide)
    have q98 := q.1 98 (by decide) (by decide)
    have qd := q.2 48 57 (by decide) (by decide)
    have ql := q.2 97 122 (by decide) (by decide)
    have nm := bA_in (f := a0_t_v) (n := a0_n.toInt) (i := x1.toInt) (by omega) hlt
    have l7 := rlt_tr h7
    have d10 := rdg_tr h10
    have nomin : ¬ (bA a0_t_v a0_n.toInt x1.toInt = 45 ∧ (48 ≤ bA a0_t_v a0_n.toInt (x1.toInt + 1) ∧ bA a0_t_v a0_n.toInt (x1.toInt + 1) ≤ 57) ∧ ¬ (a0_kind.toInt = 2 ∨ a0_kind.toInt = 4)) := by
      rcases h5 with z1 | ⟨y1, z1, z2, z3⟩ | ⟨y1, y2, y3, z1, z2, z3, z4, z5, z6, z7, z8⟩ | ⟨y1, y2, y3, z1, z2, z3, z4, z5, z6, z7, z8, z9⟩ | ⟨y1, y2, y3, z1, z2, z3, z4, z5, z6, z7, z8, z9, z10⟩
      · omega
      · have ob := bA_out (f := a0_t_v) (n := a0_n.toInt) (i := x1.toInt + 1) (by omega)
        omega
      · have r := (rbe (n := a0_n) z4 z5 (by omega) z3).2 48 57 (by decide) (by decide)
        rw [z2] at r
        have dd := rdg_tr z7
        omega
      · have r := (rbe (n := a0_n) z4 z5 (by omega) z3).2 48 57 (by decide) (by decide)
        rw [z2] at r
        have dd := rdg_tr z7
        omega
      · have r := (rbe (n := a0_n) z4 z5 (by omega) z3).2 48 57 (by decide) (by decide)
        rw [z2] at r
        have dd := rdg_tr z7
        omega
    unfold sgn
    rw [if_neg (by omega), if_pos (by omega)]
    have k := rnum_tr (by omega) h14
    rw [px_0, if_neg (by decide), decide_eq_false (by decide)] at k
    exact rkN_tk k
  · intro x1 x2 x3 x4 x5 x6 x7 h1 h2 h3 h4 h5 h6 h7 h8 h9 h10 h11 h12 h13 h14
    have e1 := rs_tl h1 h0 h1'
    rw [e1]
    rw [e1] at hsk
    refine ⟨rfl, ?_⟩
    have hlt : x1.toInt < a0_n.toInt := by omega
    have q := rbe (n := a0_n) h3 h4 (by omega) hlt
    have q45 := q.1 45 (by decide) (by decide)
    have q118 := q.1 118 (by decide) (by decide)
    have q98 := q.1 98 (by decide) (by decide)
    have qd := q.2 48 57 (by decide) (by decide)
    have ql := q.2 97 122 (by decide) (by decide)
    have nm := bA_in (f := a0_t_v) (n := a0_n.toInt) (i := x1.toInt) (by omega) hlt
    have l7 := rlt_tr h7
    have d10 := rdg_tr h10
    have nomin : ¬ (bA a0_t_v a0_n.toInt x1.toInt = 45 ∧ (48 ≤ bA a0_t_v a0_n.toInt (x1.toInt + 1) ∧ bA a0_t_v a0_n.toInt (x1.toInt + 1) ≤ 57) ∧ ¬ (a0_kind.toInt = 2 ∨ a0_kind.toInt = 4)) := by
      rcases h5 with z1 | ⟨y1, z1, z2, z3⟩ | ⟨y1, y2, y3, z1, z2, z3, z4, z5, z6, z7, z8⟩ | ⟨y1, y2, y3, z1, z2, z3, z4, z5, z6, z7, z8, z9⟩ | ⟨y1, y2, y3, z1, z2, z3, z4, z5, z6, z7, z8, z9, z10⟩
      · omega
      · have ob := bA_out (f := a0_t_v) (n := a0_n.toInt) (i := x1.toInt + 1) (by omega)
        omega
      · have r := (rbe (n := a0_n) z4 z5 (by omega) z3).2 48 57 (by decide) (by decide)
        rw [z2] at r
        have dd := rdg_tr z7
        omega
      · have r := (rbe (n := a0_n) z4 z5 (by omega) z3).2 48 57 (by decide) (by decide)
        rw [z2] at r
        have dd := rdg_tr z7
        omega
      · have r := (rbe (n := a0_n) z4 z5 (by omega) z3).2 48 57 (by decide) (by decide)
        rw [z2] at r
        have dd := rdg_tr z7
        omega
    unfold sgn
    have w := sym_tr h3 h4 (by omega) hlt hn h14
    rw [if_neg (by omega), if_neg (by omega), if_neg (fun z => nomin ⟨z.1, z.2.1, of_decide_eq_false z.2.2⟩), if_neg (by omega), if_neg (by omega), if_neg (by omega)]
    exact sy_tk w
  · intro x1 x2 x3 x4 x5 x6 x7 h1 h2 h3 h4 h5 h6 h7 h8 h9 h10 h11
    have e1 := rs_tl h1 h0 h1'
    rw [e1]
    rw [e1] at hsk
    refine ⟨rfl, ?_⟩
    have hlt : x1.toInt < a0_n.toInt := by omega
    have q := rbe (n := a0_n) h3 h4 (by omega) hlt
    have q45 := q.1 45 (by decide) (by decide)
    have q118 := q.1 118 (by decide) (by decide)
    have q98 := q.1 98 (by decide) (by decide)
    have qd := q.2 48 57 (by decide) (by decide)
    have ql := q.2 97 122 (by decide) (by decide)
    have nm := bA_in (f := a0_t_v) (n := a0_n.toInt) (i := x1.toInt) (by omega) hlt
    have l7 := rlt_tr h7
    have nomin : ¬ (bA a0_t_v a0_n.toInt x1.toInt = 45 ∧ (48 ≤ bA a0_t_v a0_n.toInt (x1.toInt + 1) ∧ bA a0_t_v a0_n.toInt (x1.toInt + 1) ≤ 57) ∧ ¬ (a0_kind.toInt = 2 ∨ a0_kind.toInt = 4)) := by
      rcases h5 with z1 | ⟨y1, z1, z2, z3⟩ | ⟨y1, y2, y3, z1, z2, z3, z4, z5, z6, z7, z8⟩ | ⟨y1, y2, y3, z1, z2, z3, z4, z5, z6, z7, z8, z9⟩ | ⟨y1, y2, y3, z1, z2, z3, z4, z5, z6, z7, z8, z9, z10⟩
      · omega
      · have ob := bA_out (f := a0_t_v) (n := a0_n.toInt) (i := x1.toInt + 1) (by omega)
        omega
      · have r := (rbe (n := a0_n) z4 z5 (by omega) z3).2 48 57 (by decide) (by decide)
        rw [z2] at r
        have dd := rdg_tr z7
        omega
      · have r := (rbe (n := a0_n) z4 z5 (by omega) z3).2 48 57 (by decide) (by decide)
        rw [z2] at r
        have dd := rdg_tr z7
        omega
      · have r := (rbe (n := a0_n) z4 z5 (by omega) z3).2 48 57 (by decide) (by decide)
        rw [z2] at r
        have dd := rdg_tr z7
        omega
    unfold sgn
    have w := word_tr (by omega) hlt hn h11
    rw [if_neg (by omega), if_neg (by omega), if_neg (by omega)]
    rcases w with ⟨w1, w2, w3⟩ | ⟨w1, w2, g, m, w3, w4, w5⟩
    · by_cases v : bA a0_t_v a0_n.toInt x1.toInt = 118
      · rw [if_pos ⟨v, w1.2⟩]
        rw [if_pos v, if_pos v] at w3
        unfold naS
        rcases w3 with ⟨w3, w4⟩ | ⟨w3, w4, w5⟩
        · rw [if_neg (by omega)]
          exact ⟨tkR_o (by omega) (by omega) (Or.inl ⟨w4, rfl⟩), fun z => absurd rfl z⟩
        · rw [if_pos w3]
          exact ⟨tkR_o (by omega) (by omega) (Or.inr (Or.inr ⟨(show (2 : Int) ≤ 2 from by decide), (show (2 : Int) ≤ 4 from by decide), w4, w5⟩)), fun _ => w2⟩
      · rw [if_neg (fun z => v z.1), if_pos ⟨by omega, w1.2⟩]
        rw [if_neg v, if_neg v] at w3
        unfold naS
        rcases w3 with ⟨w3, w4⟩ | ⟨w3, w4, w5⟩
        · rw [if_neg (by omega)]
          exact ⟨tkR_o (by omega) (by omega) (Or.inl ⟨w4, rfl⟩), fun z => absurd rfl z⟩
        · rw [if_pos w3]
          exact ⟨tkR_o (by omega) (by omega) (Or.inr (Or.inr ⟨(show (2 : Int) ≤ 3 from by decide), (show (3 : Int) ≤ 4 from by decide), w4, w5⟩)), fun _ => w2⟩
    · rw [if_neg (fun z => w1 ⟨Or.inl z.1, z.2⟩), if_neg (fun z => w1 ⟨Or.inr z.1, z.2⟩), if_pos (by omega)]
      exact ⟨wd_tk w3 w4 w5, fun _ => w2⟩
  · intro x1 x2 x3 x4 x5 x6 x7 x8 x9 x10 x11 h1 h2 h3 h4 h5 h6 h7 h8 h9 h10 h11 h12 h13 h14 h15 h16 h17 h18 h19 h20 h21 h22 h23
    have e1 := rs_tl h1 h0 h1'
    rw [e1]
    rw [e1] at hsk
    refine ⟨rfl, ?_⟩
    have hlt : x1.toInt < a0_n.toInt := by omega
    have q := rbe (n := a0_n) h3 h4 (by omega) hlt
    have q45 := q.1 45 (by decide) (by decide)
    have q118 := q.1 118 (by decide) (by decide)
    have q98 := q.1 98 (by decide) (by decide)
    have qd := q.2 48 57 (by decide) (by decide)
    have ql := q.2 97 122 (by decide) (by decide)
    have nm := bA_in (f := a0_t_v) (n := a0_n.toInt) (i := x1.toInt) (by omega) hlt
    have l16 := rlt_tr h16
    have d11 := rdg_tr h11
    have d19 := rdg_tr h19
    have r := (rbe (n := a0_n) h8 h9 (by omega) h7).2 48 57 (by decide) (by decide)
    rw [h6] at r
    exfalso; omega
  · intro x1 x2 x3 x4 x5 x6 x7 x8 x9 x10 x11 h1 h2 h3 h4 h5 h6 h7 h8 h9 h10 h11 h12 h13 h14 h15 h16 h17 h18 h19 h20 h21 h22 h23
    have e1 := rs_tl h1 h0 h1'
    rw [e1]
    rw [e1] at hsk
    refine ⟨rfl, ?_⟩
    have hlt : x1.toInt < a0_n.toInt := by omega
    have q := rbe (n := a0_n) h3 h4 (by omega) hlt
    have q45 := q.1 45 (by decide) (by decide)
    have q118 := q.1 118 (by decide) (by decide)
    have q98 := q.1 98 (by decide) (by decide)
    have qd := q.2 48 57 (by decide) (by decide)
    have ql := q.2 97 122 (by decide) (by decide)
    have nm := bA_in (f := a0_t_v) (n := a0_n.toInt) (i := x1.toInt) (by omega) hlt
    have l16 := rlt_tr h16
    have d11 := rdg_tr h11
    have d19 := rdg_tr h19
    have r := (rbe (n := a0_n) h8 h9 (by omega) h7).2 48 57 (by decide) (by decide)
    rw [h6] at r
    unfold sgn
    rw [if_neg (by omega), if_neg (by omega), if_pos ⟨by omega, by omega, decide_eq_false (by omega)⟩]
    have k := rnum_tr (by omega) h23
    rw [px_1, if_pos (by decide), decide_eq_true (by decide)] at k
    exact rkN_tk k
  · intro x1 x2 x3 x4 x5 x6 x7 x8 x9 x10 h1 h2 h3 h4 h5 h6 h7 h8 h9 h10 h11 h12 h13 h14 h15 h16 h17 h18 h19 h20
    have e1 := rs_tl h1 h0 h1'
    rw [e1]
    rw [e1] at hsk
    refine ⟨rfl, ?_⟩
    have hlt : x1.toInt < a0_n.toInt := by omega
    have q := rbe (n := a0_n) h3 h4 (by omega) hlt
    have q45 := q.1 45 (by decide) (by decide)
    have q118 := q.1 118 (by decide) (by decide)
    have q98 := q.1 98 (by decide) (by decide)
    have qd := q.2 48 57 (by decide) (by decide)
    have ql := q.2 97 122 (by decide) (by decide)
    have nm := bA_in (f := a0_t_v) (n := a0_n.toInt) (i := x1.toInt) (by omega) hlt
    have l16 := rlt_tr h16
    have d11 := rdg_tr h11
    have r := (rbe (n := a0_n) h8 h9 (by omega) h7).2 48 57 (by decide) (by decide)
    rw [h6] at r
    exfalso; omega
  · intro x1 h1 h2
    have e1 := rs_tl h1 h0 h1'
    rw [e1]
    rw [e1] at hsk
    refine ⟨rfl, ?_⟩
    have q := bA_out (f := a0_t_v) (n := a0_n.toInt) (i := x1.toInt) (by omega)
    unfold sgn
    rw [if_pos q]
    exact ⟨tkR_o (by rw [px_0]; decide) (by rw [px_0]; decide) (Or.inr (Or.inl ⟨px_0, rfl⟩)), fun _ => rfl⟩
  · intro x1 x2 x3 x4 x5 x6 x7 x8 h1 h2 h3 h4 h5 h6 h7 h8 h9 h10 h11 h12 h13
    have e1 := rs_tl h1 h0 h1'
    rw [e1]
    rw [e1] at hsk
    refine ⟨rfl, ?_⟩
    have hlt : x1.toInt < a0_n.toInt := by omega
    have gx : gB x2 (-128) 127 := by rw [h3]; exact hF _
    have q := rbe (n := a0_n) h3 gx (by omega) hlt
    have q45 := q.1 45 (by decide) (by decide)
    have q118 := q.1 118 (by decide) (by decide)
    have q98 := q.1 98 (by decide) (by decide)
    have qd := q.2 48 57 (by decide) (by decide)
    have ql := q.2 97 122 (by decide) (by decide)
    have nm := bA_in (f := a0_t_v) (n := a0_n.toInt) (i := x1.toInt) (by omega) hlt
    have l6 := rlt_tr h6
    have d9 := rdg_tr h9
    have nomin : ¬ (bA a0_t_v a0_n.toInt x1.toInt = 45 ∧ (48 ≤ bA a0_t_v a0_n.toInt (x1.toInt + 1) ∧ bA a0_t_v a0_n.toInt (x1.toInt + 1) ≤ 57) ∧ ¬ (a0_kind.toInt = 2 ∨ a0_kind.toInt = 4)) := by
      rcases h4 with z1 | ⟨y1, z1, z2, z3⟩ | ⟨y1, y2, y3, z1, z2, z3, z4, z5, z6, z7, z8⟩ | ⟨y1, y2, y3, z1, z2, z3, z4, z5, z6, z7, z8, z9⟩ | ⟨y1, y2, y3, z1, z2, z3, z4, z5, z6, z7, z8, z9, z10⟩
      · omega
      · have ob := bA_out (f := a0_t_v) (n := a0_n.toInt) (i := x1.toInt + 1) (by omega)
        omega
      · have r := (rbe (n := a0_n) z4 z5 (by omega) z3).2 48 57 (by decide) (by decide)
        rw [z2] at r
        have dd := rdg_tr z7
        omega
      · have r := (rbe (n := a0_n) z4 z5 (by omega) z3).2 48 57 (by decide) (by decide)
        rw [z2] at r
        have dd := rdg_tr z7
        omega
      · have r := (rbe (n := a0_n) z4 z5 (by omega) z3).2 48 57 (by decide) (by decide)
        rw [z2] at r
        have dd := rdg_tr z7
        omega
    unfold sgn
    rw [if_neg (by omega), if_pos (by omega)]
    have k := rnum_tr (by omega) h13
    rw [px_0, if_neg (by decide), decide_eq_false (by decide)] at k
    exact rkN_tk k
  · intro x1 x2 x3 x4 x5 x6 x7 h1 h2 h3 h4 h5 h6 h7 h8 h9 h10 h11 h12 h13
    have e1 := rs_tl h1 h0 h1'
    rw [e1]
    rw [e1] at hsk
    refine ⟨rfl, ?_⟩
    have hlt : x1.toInt < a0_n.toInt := by omega
    have gx : gB x2 (-128) 127 := by rw [h3]; exact hF _
    have q := rbe (n := a0_n) h3 gx (by omega) hlt
    have q45 := q.1 45 (by decide) (by decide)
    have q118 := q.1 118 (by decide) (by decide)
    have q98 := q.1 98 (by decide) (by decide)
    have qd := q.2 48 57 (by decide) (by decide)
    have ql := q.2 97 122 (by decide) (by decide)
    have nm := bA_in (f := a0_t_v) (n := a0_n.toInt) (i := x1.toInt) (by omega) hlt
    have l6 := rlt_tr h6
    have d9 := rdg_tr h9
    have nomin : ¬ (bA a0_t_v a0_n.toInt x1.toInt = 45 ∧ (48 ≤ bA a0_t_v a0_n.toInt (x1.toInt + 1) ∧ bA a0_t_v a0_n.toInt (x1.toInt + 1) ≤ 57) ∧ ¬ (a0_kind.toInt = 2 ∨ a0_kind.toInt = 4)) := by
      rcases h4 with z1 | ⟨y1, z1, z2, z3⟩ | ⟨y1, y2, y3, z1, z2, z3, z4, z5, z6, z7, z8⟩ | ⟨y1, y2, y3, z1, z2, z3, z4, z5, z6, z7, z8, z9⟩ | ⟨y1, y2, y3, z1, z2, z3, z4, z5, z6, z7, z8, z9, z10⟩
      · omega
      · have ob := bA_out (f := a0_t_v) (n := a0_n.toInt) (i := x1.toInt + 1) (by omega)
        omega
      · have r := (rbe (n := a0_n) z4 z5 (by omega) z3).2 48 57 (by decide) (by decide)
        rw [z2] at r
        have dd := rdg_tr z7
        omega
      · have r := (rbe (n := a0_n) z4 z5 (by omega) z3).2 48 57 (by decide) (by decide)
        rw [z2] at r
        have dd := rdg_tr z7
        omega
      · have r := (rbe (n := a0_n) z4 z5 (by omega) z3).2 48 57 (by decide) (by decide)
        rw [z2] at r
        have dd := rdg_tr z7
        omega
    unfold sgn
    have w := sym_tr h3 gx (by omega) hlt hn h13
    rw [if_neg (by omega), if_neg (by omega), if_neg (fun z => nomin ⟨z.1, z.2.1, of_decide_eq_false z.2.2⟩), if_neg (by omega), if_neg (by omega), if_neg (by omega)]
    exact sy_tk w
  · intro x1 x2 x3 x4 x5 x6 x7 h1 h2 h3 h4 h5 h6 h7 h8 h9 h10
    have e1 := rs_tl h1 h0 h1'
    rw [e1]
    rw [e1] at hsk
    refine ⟨rfl, ?_⟩
    have hlt : x1.toInt < a0_n.toInt := by omega
    have gx : gB x2 (-128) 127 := by rw [h3]; exact hF _
    have q := rbe (n := a0_n) h3 gx (by omega) hlt
    have q45 := q.1 45 (by decide) (by decide)
    have q118 := q.1 118 (by decide) (by decide)
    have q98 := q.1 98 (by decide) (by decide)
    have qd := q.2 48 57 (by decide) (by decide)
    have ql := q.2 97 122 (by decide) (by decide)
    have nm := bA_in (f := a0_t_v) (n := a0_n.toInt) (i := x1.toInt) (by omega) hlt
    have l6 := rlt_tr h6
    have nomin : ¬ (bA a0_t_v a0_n.toInt x1.toInt = 45 ∧ (48 ≤ bA a0_t_v a0_n.toInt (x1.toInt + 1) ∧ bA a0_t_v a0_n.toInt (x1.toInt + 1) ≤ 57) ∧ ¬ (a0_kind.toInt = 2 ∨ a0_kind.toInt = 4)) := by
      rcases h4 with z1 | ⟨y1, z1, z2, z3⟩ | ⟨y1, y2, y3, z1, z2, z3, z4, z5, z6, z7, z8⟩ | ⟨y1, y2, y3, z1, z2, z3, z4, z5, z6, z7, z8, z9⟩ | ⟨y1, y2, y3, z1, z2, z3, z4, z5, z6, z7, z8, z9, z10⟩
      · omega
      · have ob := bA_out (f := a0_t_v) (n := a0_n.toInt) (i := x1.toInt + 1) (by omega)
        omega
      · have r := (rbe (n := a0_n) z4 z5 (by omega) z3).2 48 57 (by decide) (by decide)
        rw [z2] at r
        have dd := rdg_tr z7
        omega
      · have r := (rbe (n := a0_n) z4 z5 (by omega) z3).2 48 57 (by decide) (by decide)
        rw [z2] at r
        have dd := rdg_tr z7
        omega
      · have r := (rbe (n := a0_n) z4 z5 (by omega) z3).2 48 57 (by decide) (by decide)
        rw [z2] at r
        have dd := rdg_tr z7
        omega
    unfold sgn
    have w := word_tr (by omega) hlt hn h10
    rw [if_neg (by omega), if_neg (by omega), if_neg (by omega)]
    rcases w with ⟨w1, w2, w3⟩ | ⟨w1, w2, g, m, w3, w4, w5⟩
    · by_cases v : bA a0_t_v a0_n.toInt x1.toInt = 118
      · rw [if_pos ⟨v, w1.2⟩]
        rw [if_pos v, if_pos v] at w3
        unfold naS
        rcases w3 with ⟨w3, w4⟩ | ⟨w3, w4, w5⟩
        · rw [if_neg (by omega)]
          exact ⟨tkR_o (by omega) (by omega) (Or.inl ⟨w4, rfl⟩), fun z => absurd rfl z⟩
        · rw [if_pos w3]
          exact ⟨tkR_o (by omega) (by omega) (Or.inr (Or.inr ⟨(show (2 : Int) ≤ 2 from by decide), (show (2 : Int) ≤ 4 from by decide), w4, w5⟩)), fun _ => w2⟩
      · rw [if_neg (fun z => v z.1), if_pos ⟨by omega, w1.2⟩]
        rw [if_neg v, if_neg v] at w3
        unfold naS
        rcases w3 with ⟨w3, w4⟩ | ⟨w3, w4, w5⟩
        · rw [if_neg (by omega)]
          exact ⟨tkR_o (by omega) (by omega) (Or.inl ⟨w4, rfl⟩), fun z => absurd rfl z⟩
        · rw [if_pos w3]
          exact ⟨tkR_o (by omega) (by omega) (Or.inr (Or.inr ⟨(show (2 : Int) ≤ 3 from by decide), (show (3 : Int) ≤ 4 from by decide), w4, w5⟩)), fun _ => w2⟩
    · rw [if_neg (fun z => w1 ⟨Or.inl z.1, z.2⟩), if_neg (fun z => w1 ⟨Or.inr z.1, z.2⟩), if_pos (by omega)]
      exact ⟨wd_tk w3 w4 w5, fun _ => w2⟩
  · intro x1 x2 x3 x4 x5 x6 x7 x8 x9 x10 x11 h1 h2 h3 h4 h5 h6 h7 h8 h9 h10 h11 h12 h13 h14 h15 h16 h17 h18 h19 h20 h21 h22
    have e1 := rs_tl h1 h0 h1'
    rw [e1]
    rw [e1] at hsk
    refine ⟨rfl, ?_⟩
    have hlt : x1.toInt < a0_n.toInt := by omega
    have gx : gB x2 (-128) 127 := by rw [h3]; exact hF _
    have q := rbe (n := a0_n) h3 gx (by omega) hlt
    have q45 := q.1 45 (by decide) (by decide)
    have q118 := q.1 118 (by decide) (by decide)
    have q98 := q.1 98 (by decide) (by decide)
    have qd := q.2 48 57 (by decide) (by decide)
    have ql := q.2 97 122 (by decide) (by decide)
    have nm := bA_in (f := a0_t_v) (n := a0_n.toInt) (i := x1.toInt) (by omega) hlt
    have l15 := rlt_tr h15
    have d10 := rdg_tr h10
    have d18 := rdg_tr h18
    have r := (rbe (n := a0_n) h7 h8 (by omega) h6).2 48 57 (by decide) (by decide)
    rw [h5] at r
    exfalso; omega
  · intro x1 x2 x3 x4 x5 x6 x7 x8 x9 x10 x11 h1 h2 h3 h4 h5 h6 h7 h8 h9 h10 h11 h12 h13 h14 h15 h16 h17 h18 h19 h20 h21 h22
    have e1 := rs_tl h1 h0 h1'
    rw [e1]
    rw [e1] at hsk
    refine ⟨rfl, ?_⟩
    have hlt : x1.toInt < a0_n.toInt := by omega
    have gx : gB x2 (-128) 127 := by rw [h3]; exact hF _
    have q := rbe (n := a0_n) h3 gx (by omega) hlt
    have q45 := q.1 45 (by decide) (by decide)
    have q118 := q.1 118 (by decide) (by decide)
    have q98 := q.1 98 (by decide) (by decide)
    have qd := q.2 48 57 (by decide) (by decide)
    have ql := q.2 97 122 (by decide) (by decide)
    have nm := bA_in (f := a0_t_v) (n := a0_n.toInt) (i := x1.toInt) (by omega) hlt
    have l15 := rlt_tr h15
    have d10 := rdg_tr h10
    have d18 := rdg_tr h18
    have r := (rbe (n := a0_n) h7 h8 (by omega) h6).2 48 57 (by decide) (by decide)
    rw [h5] at r
    unfold sgn
    rw [if_neg (by omega), if_neg (by omega), if_pos ⟨by omega, by omega, decide_eq_false (by omega)⟩]
    have k := rnum_tr (by omega) h22
    rw [px_1, if_pos (by decide), decide_eq_true (by decide)] at k
    exact rkN_tk k
  · intro x1 x2 x3 x4 x5 x6 x7 x8 x9 x10 h1 h2 h3 h4 h5 h6 h7 h8 h9 h10 h11 h12 h13 h14 h15 h16 h17 h18 h19
    have e1 := rs_tl h1 h0 h1'
    rw [e1]
    rw [e1] at hsk
    refine ⟨rfl, ?_⟩
    have hlt : x1.toInt < a0_n.toInt := by omega
    have gx : gB x2 (-128) 127 := by rw [h3]; exact hF _
    have q := rbe (n := a0_n) h3 gx (by omega) hlt
    have q45 := q.1 45 (by decide) (by decide)
    have q118 := q.1 118 (by decide) (by decide)
    have q98 := q.1 98 (by decide) (by decide)
    have qd := q.2 48 57 (by decide) (by decide)
    have ql := q.2 97 122 (by decide) (by decide)
    have nm := bA_in (f := a0_t_v) (n := a0_n.toInt) (i := x1.toInt) (by omega) hlt
    have l15 := rlt_tr h15
    have d10 := rdg_tr h10
    have r := (rbe (n := a0_n) h7 h8 (by omega) h6).2 48 57 (by decide) (by decide)
    rw [h5] at r
    exfalso; omega
end RSX
