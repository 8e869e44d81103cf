/-- a row, an end with its goals, as they are read -/
def rwO (l : Nat → Int) : Prop := (0 ≤ l 0 ∧ l 0 ≤ 16) ∧ (-1 ≤ l 2 ∧ l 2 ≤ 99) ∧ (-1 ≤ l 4 ∧ l 4 ≤ 99) ∧ (l 0 ≤ 15 → 0 ≤ l 1 ∧ l 1 ≤ 99) ∧ (l 0 = 16 → l 1 = -1) ∧ (l 0 = 15 → l 2 = -1) ∧ (14 ≤ l 0 → l 4 = -1)
def edO (l : Nat → Int) : Prop := l 1 = -1 ∧ (-1 ≤ l 2 ∧ l 2 ≤ 99) ∧ l 4 = -1 ∧ (l 0 = 19 → l 2 = -1)
def edG (o g h : Int) : Prop := (o = 19 ∧ 0 ≤ g ∧ g ≤ 39 ∧ h = -1) ∨ (o = 20 ∧ 0 ≤ g ∧ g ≤ 39 ∧ 0 ≤ h ∧ h ≤ 39) ∨ (o = 21 ∧ g = -1 ∧ h = -1)
def blC (n : Nat) (l : Nat → Nat → Int) (g : Nat → Int) : Prop := 0 < n ∧ (∀ j, j + 1 < n → rwO (l j)) ∧ edO (l (n - 1)) ∧ edG (l (n - 1) 0) (g 0) (g 1)
def blH (du : Int) (n : Nat) (l : Nat → Nat → Int) (g : Nat → Int) : Prop :=
  g 1 = -1 ∧ (du ≤ 10 → g 0 = -1 ∧ ∀ j, j < n → rwO (l j)) ∧
  (11 ≤ du → 0 < n ∧ (∀ j, j + 1 < n → rwO (l j)) ∧ edO (l (n - 1)) ∧ ((l (n - 1) 0 = 19 ∧ g 0 = -1 ∧ du = 12) ∨ (l (n - 1) 0 = 20 ∧ (du = 11 → g 0 = -1) ∧ (du = 12 → 0 ≤ g 0 ∧ g 0 ≤ 39))))
def mwf : gMs → Prop
  | (du, st, lf, ln, op, rw, bk, P) =>
    (0 ≤ du ∧ du ≤ 12) ∧ (du = 0 → P.1 = 0) ∧ (du ≠ 0 → 0 < P.1) ∧ 0 ≤ rw ∧
    (bk = false → P.1 ≤ 40 ∧ rw ≤ 160 ∧ (fsm P.2.1 P.1 : Int) ≤ rw + P.1 ∧ (2 ≤ du → du ≤ 10 → (fsm P.2.1 P.1 : Int) + 1 ≤ rw + P.1) ∧ (4 ≤ du → du ≤ 8 → (fsm P.2.1 P.1 : Int) + 2 ≤ rw + P.1)) ∧
    (4 ≤ du → du ≤ 7 → 0 ≤ st ∧ st ≤ 99) ∧ (du = 5 → lf = -1 ∧ ln = 0) ∧ (8 ≤ du → du ≤ 10 → st = -1) ∧ (4 ≤ du → du ≤ 10 → -1 ≤ lf ∧ lf ≤ 99) ∧ (du = 7 → 0 ≤ op ∧ op ≤ 13) ∧ (du = 4 → lf = -1 ∧ ln = 0) ∧
    (∀ b, b + 1 < P.1 → blC (P.2.1 b) (P.2.2.1 b) (P.2.2.2 b)) ∧ (du = 1 → ∀ b, b + 1 = P.1 → blC (P.2.1 b) (P.2.2.1 b) (P.2.2.2 b)) ∧
    (2 ≤ du → ∀ b, b + 1 = P.1 → blH du (P.2.1 b) (P.2.2.1 b) (P.2.2.2 b))
/-- what a sign's value can be -/
def tkO (k v : Int) : Prop := (k = 2 → 0 ≤ v ∧ v ≤ 99) ∧ (k = 3 → 0 ≤ v ∧ v ≤ 39) ∧ (k = 5 → 0 ≤ v ∧ v ≤ 13)
section MWF
variable {P : gPg} {l : Nat → Int} {b : Nat} {du du' k v st lf ln op rw : Int} {bk : Bool}
theorem pgL_s (h : 0 < P.1) : fsm (pgL P l).2.1 (pgL P l).1 = fsm P.2.1 P.1 + 1 := by
  have ed : P.1 = (P.1 - 1) + 1 := by omega
  show fsm (pgL P l).2.1 P.1 = _
  have l1 : fsm P.2.1 P.1 = fsm P.2.1 (P.1 - 1) + P.2.1 (P.1 - 1) := by rw [ed]; rfl
  have l2 : fsm (pgL P l).2.1 P.1 = fsm (pgL P l).2.1 (P.1 - 1) + (pgL P l).2.1 (P.1 - 1) := by rw [ed]; rfl
  have l3 : (pgL P l).2.1 (P.1 - 1) = P.2.1 (P.1 - 1) + 1 := if_pos ed.symm
  rw [l2, l1, l3, pgL_f (by omega)]; omega
theorem pgB_s : fsm (pgB P).2.1 (pgB P).1 = fsm P.2.1 P.1 := by
  show fsm (pgB P).2.1 P.1 + (if P.1 = P.1 then 0 else P.2.1 P.1) = _
  rw [if_pos rfl]
  exact fsm_c (fun c hc => if_neg (by omega))
theorem pgL_o (h : b + 1 ≠ P.1) : (pgL P l).2.1 b = P.2.1 b ∧ (pgL P l).2.2.1 b = P.2.2.1 b ∧ (pgL P l).2.2.2 b = P.2.2.2 b :=
  ⟨if_neg h, funext (fun j => if_neg (fun z => h z.1)), rfl⟩
theorem pgL_l (h : b + 1 = P.1) : (pgL P l).2.1 b = P.2.1 b + 1 ∧ (∀ j, j < P.2.1 b → (pgL P l).2.2.1 b j = P.2.2.1 b j) ∧ (pgL P l).2.2.1 b (P.2.1 b) = l ∧ (pgL P l).2.2.2 b = P.2.2.2 b :=
  ⟨if_pos h, fun j hj => if_neg (fun z => absurd z.2 (by omega)), if_pos ⟨h, rfl⟩, rfl⟩
theorem pgB_o (h : b ≠ P.1) : (pgB P).2.1 b = P.2.1 b ∧ (pgB P).2.2.1 b = P.2.2.1 b ∧ (pgB P).2.2.2 b = P.2.2.2 b :=
  ⟨if_neg h, rfl, funext (fun i => if_neg h)⟩
theorem pgG_o {g : Int} (h : b + 1 ≠ P.1) : (pgG P g).2.1 b = P.2.1 b ∧ (pgG P g).2.2.1 b = P.2.2.1 b ∧ (pgG P g).2.2.2 b = P.2.2.2 b :=
  ⟨rfl, rfl, funext (fun i => if_neg (fun z => h z.1))⟩
theorem blC_L (h : ∀ b, b + 1 < P.1 → blC (P.2.1 b) (P.2.2.1 b) (P.2.2.2 b)) : ∀ b, b + 1 < (pgL P l).1 → blC ((pgL P l).2.1 b) ((pgL P l).2.2.1 b) ((pgL P l).2.2.2 b) := fun b hb => by
  have hb2 : b + 1 < P.1 := hb
  obtain ⟨e1, e2, e3⟩ := pgL_o (l := l) (show b + 1 ≠ P.1 by omega)
  rw [e1, e2, e3]; exact h b hb2
theorem blC_G {g : Int} (h : ∀ b, b + 1 < P.1 → blC (P.2.1 b) (P.2.2.1 b) (P.2.2.2 b)) : ∀ b, b + 1 < (pgG P g).1 → blC ((pgG P g).2.1 b) ((pgG P g).2.2.1 b) ((pgG P g).2.2.2 b) := fun b hb => by
  have hb2 : b + 1 < P.1 := hb
  obtain ⟨e1, e2, e3⟩ := pgG_o (g := g) (show b + 1 ≠ P.1 by omega)
  rw [e1, e2, e3]; exact h b hb2
theorem blH_row (h : ∀ b, b + 1 = P.1 → blH du (P.2.1 b) (P.2.2.1 b) (P.2.2.2 b)) (hd : du ≤ 10) (hd' : du' ≤ 10) (hl : rwO l) : ∀ b, b + 1 = (pgL P l).1 → blH du' ((pgL P l).2.1 b) ((pgL P l).2.2.1 b) ((pgL P l).2.2.2 b) := fun b hb => by
  obtain ⟨e1, e2, e3, e4⟩ := pgL_l (l := l) (show b + 1 = P.1 from hb)
  obtain ⟨g1, g2, -⟩ := h b hb
  rw [e1, e4]
  refine ⟨g1, fun _ => ⟨(g2 hd).1, fun j hj => ?_⟩, fun z => absurd z (by omega)⟩
  by_cases q : j = P.2.1 b
  · rw [q, e3]; exact hl
  · rw [e2 j (by omega)]; exact (g2 hd).2 j (by omega)
theorem blH_same (h : ∀ b, b + 1 = P.1 → blH du (P.2.1 b) (P.2.2.1 b) (P.2.2.2 b)) (hd : du ≤ 10) (hd' : du' ≤ 10) : ∀ b, b + 1 = P.1 → blH du' (P.2.1 b) (P.2.2.1 b) (P.2.2.2 b) := fun b hb => by
  obtain ⟨g1, g2, -⟩ := h b hb
  exact ⟨g1, fun _ => g2 hd, fun z => absurd z (by omega)⟩
theorem bl_end (h : ∀ b, b + 1 = P.1 → blH du (P.2.1 b) (P.2.2.1 b) (P.2.2.2 b)) (hd : du ≤ 10) (hl : edO l) : ∀ b, b + 1 = (pgL P l).1 → 0 < (pgL P l).2.1 b ∧ (∀ j, j + 1 < (pgL P l).2.1 b → rwO ((pgL P l).2.2.1 b j)) ∧ edO ((pgL P l).2.2.1 b ((pgL P l).2.1 b - 1)) ∧ (pgL P l).2.2.1 b ((pgL P l).2.1 b - 1) 0 = l 0 ∧ (pgL P l).2.2.2 b 0 = -1 ∧ (pgL P l).2.2.2 b 1 = -1 := fun b hb => by
  obtain ⟨e1, e2, e3, e4⟩ := pgL_l (l := l) (show b + 1 = P.1 from hb)
  obtain ⟨g1, g2, -⟩ := h b hb
  rw [e1, e4, Nat.add_sub_cancel, e3]
  refine ⟨Nat.succ_pos _, fun j hj => ?_, hl, rfl, (g2 hd).1, g1⟩
  rw [e2 j (by omega)]; exact (g2 hd).2 j (by omega)
theorem pgG_l {g : Int} (h : b + 1 = P.1) : (P.2.2.2 b 0 = -1 → (pgG P g).2.2.2 b 0 = g ∧ (pgG P g).2.2.2 b 1 = P.2.2.2 b 1) ∧ (P.2.2.2 b 0 ≠ -1 → (pgG P g).2.2.2 b 0 = P.2.2.2 b 0 ∧ (pgG P g).2.2.2 b 1 = g) := by
  refine ⟨fun q => ⟨if_pos ⟨h, by rw [if_pos q]⟩, if_neg (fun z => ?_)⟩, fun q => ⟨if_neg (fun z => ?_), if_pos ⟨h, by rw [if_neg q]⟩⟩⟩
  · have := z.2; rw [if_pos q] at this; exact absurd this (by decide)
  · have := z.2; rw [if_neg q] at this; exact absurd this (by decide)
theorem mLine_wf {s : gMs} (ht : tkO k v) (h : mLine k v op rw bk P = some s) (h1 : 0 < P.1) (h2 : 0 ≤ rw) (h3 : bk = false → P.1 ≤ 40 ∧ rw ≤ 160 ∧ (fsm P.2.1 P.1 : Int) + 1 ≤ rw + P.1) (h4 : ∀ b, b + 1 < P.1 → blC (P.2.1 b) (P.2.2.1 b) (P.2.2.2 b)) (h5 : ∀ b, b + 1 = P.1 → blH 3 (P.2.1 b) (P.2.2.1 b) (P.2.2.2 b)) : mwf s := by
  unfold mLine at h
  by_cases c1 : k = 2
  · rw [if_pos c1] at h; cases h
    have hv := ht.1 c1
    refine ⟨⟨by decide, by decide⟩, fun z => absurd z (by decide), fun _ => h1, by omega, fun z => ?_, fun _ _ => hv, fun z => absurd z (by decide), fun z => absurd z (by decide), fun _ _ => ⟨by decide, by decide⟩, fun z => absurd z (by decide), fun _ => ⟨rfl, rfl⟩, h4, fun z => absurd z (by decide), fun _ => blH_same h5 (by decide) (by decide)⟩
    rw [Bool.or_eq_false_iff, decide_eq_false_iff_not] at z
    have := h3 z.1
    exact ⟨this.1, by omega, by omega, fun _ _ => by omega, fun _ _ => by omega⟩
  rw [if_neg c1] at h
  by_cases c2 : k = 9
  · rw [if_pos c2] at h; cases h
    refine ⟨⟨by decide, by decide⟩, fun z => absurd z (by decide), fun _ => h1, by omega, fun z => ?_, fun _ z => absurd z (by decide), fun z => absurd z (by decide), fun _ _ => rfl, fun _ _ => ⟨by decide, by decide⟩, fun z => absurd z (by decide), fun z => absurd z (by decide), h4, fun z => absurd z (by decide), fun _ => blH_same h5 (by decide) (by decide)⟩
    rw [Bool.or_eq_false_iff, decide_eq_false_iff_not] at z
    have := h3 z.1
    exact ⟨this.1, by omega, by omega, fun _ _ => by omega, fun _ _ => by omega⟩
  rw [if_neg c2] at h
  by_cases c3 : k = 10
  · rw [if_pos c3] at h; cases h
    refine ⟨⟨by decide, by decide⟩, fun z => absurd z (by decide), fun _ => h1, h2, fun z => ?_, fun _ z => absurd z (by decide), fun z => absurd z (by decide), fun _ _ => rfl, fun _ _ => ⟨by decide, by decide⟩, fun z => absurd z (by decide), fun z => absurd z (by decide), h4, fun z => absurd z (by decide), fun _ => blH_same h5 (by decide) (by decide)⟩
    have := h3 z
    exact ⟨this.1, this.2.1, by omega, fun _ _ => this.2.2, fun _ z => absurd z (by decide)⟩
  rw [if_neg c3] at h
  by_cases c4 : k = 12
  · rw [if_pos c4] at h; cases h
    refine ⟨⟨by decide, by decide⟩, fun z => absurd z (by decide), fun _ => h1, h2, fun z => ?_, fun _ z => absurd z (by decide), fun z => absurd z (by decide), fun _ _ => rfl, fun _ _ => ⟨by decide, by decide⟩, fun z => absurd z (by decide), fun z => absurd z (by decide), h4, fun z => absurd z (by decide), fun _ => blH_same h5 (by decide) (by decide)⟩
    have := h3 z
    exact ⟨this.1, this.2.1, by omega, fun _ _ => this.2.2, fun _ z => absurd z (by decide)⟩
  rw [if_neg c4] at h
  by_cases c5 : k = 11
  · rw [if_pos c5] at h; cases h
    refine ⟨⟨by decide, by decide⟩, fun z => absurd z (by decide), fun _ => h1, h2, fun z => ?_, fun _ z => absurd z (by decide), fun z => absurd z (by decide), fun _ z => absurd z (by decide), fun _ z => absurd z (by decide), fun z => absurd z (by decide), fun z => absurd z (by decide), blC_L h4, fun z => absurd z (by decide), fun _ b hb => ?_⟩
    · have := h3 z
      rw [pgL_s h1]
      exact ⟨this.1, this.2.1, by show ((fsm P.2.1 P.1 + 1 : Nat) : Int) ≤ rw + P.1; omega, fun _ z => absurd z (by decide), fun _ z => absurd z (by decide)⟩
    · obtain ⟨q1, q2, q3, q4, q5, q6⟩ := bl_end (l := mkL 19 (-1) (-1) 0 (-1) 0) h5 (by decide) ⟨rfl, ⟨by decide, by decide⟩, rfl, fun _ => rfl⟩ b hb
      exact ⟨q6, fun z => absurd z (by decide), fun _ => ⟨q1, q2, q3, Or.inl ⟨q4, q5, rfl⟩⟩⟩
  rw [if_neg c5] at h; cases h
theorem rg_b (ht : tkO k v) : -1 ≤ rgV k v ∧ rgV k v ≤ 99 := by
  unfold rgV
  by_cases c : k = 2
  · rw [if_pos c]; have := ht.1 c; omega
  · rw [if_neg c]; omega
end MWF
