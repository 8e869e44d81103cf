/-! the model at its beginning fits -/
def lkK : List (Nat × Nat) → Nat → Nat
  | [], _ => 0
  | (a, k) :: l, b => if b = a then k else lkK l b
theorem lkK_m : ∀ {l : List (Nat × Nat)} {b k : Nat}, (l.map Prod.fst).Nodup → (b, k) ∈ l → lkK l b = k
  | (a, k') :: l, b, k, hn, h => by
    rw [List.map_cons, List.nodup_cons] at hn
    rcases List.mem_cons.mp h with e | e
    · cases e
      exact if_pos rfl
    · have hb : b ≠ a := fun z => hn.1 (List.mem_map.mpr ⟨(b, k), e, z⟩)
      exact (if_neg hb).trans (lkK_m hn.2 e)
theorem lkK_o : ∀ (l : List (Nat × Nat)) (b : Nat), lkK l b = 0 ∨ (b, lkK l b) ∈ l
  | [], b => Or.inl rfl
  | (a, k) :: l, b => by
    by_cases e : b = a
    · refine Or.inr (List.mem_cons.mpr (Or.inl ?_))
      have : lkK ((a, k) :: l) b = k := if_pos e
      rw [this, e]
    · have : lkK ((a, k) :: l) b = lkK l b := if_neg e
      rw [this]
      exact (lkK_o l b).imp id (fun h => List.mem_cons.mpr (Or.inr h))
def inA (g : Nat → Nat) (m ra : Nat) (lb lr : Nat → Nat) : List (Nat × Nat) := [(m, 10), (g 35, 96), (g 31, 99), (ra, 29), (g 29, 28), (g 28, 98), (g 22, 97), (g 21, 23), (g 20, 22), (g 19, 21), (g 18, 15), (g 17, 20), (g 16, 19), (g 15, 18), (lb 2, 4), (lr 2, 5), (g 8, 9), (lb 1, 4), (lr 1, 5), (g 7, 9), (lb 0, 4), (lr 0, 5), (g 6, 9), (g 5, 17), (g 4, 16), (g 3, 14), (g 2, 35)]
def inR (q n k0 k : Nat) : List (Nat × Nat) := (q, k0) :: (List.range n).map (fun i => (q + 1 + i, k))
def inK (g : Nat → Nat) (m ra : Nat) (lb lr : Nat → Nat) : List (Nat × Nat) := inA g m ra lb lr ++ (inR (g 1) 2000 13 36 ++ (inR (g 0) 40 12 11 ++ []))
def gI0 (g : Nat → Nat) (m ra : Nat) (lb lr : Nat → Nat) : Nat → Nat → Nat := fun j b => match j with
  | 0 => lkK (inK g m ra lb lr) b
  | 1 => if b = g 7 ∨ b = lb 1 ∨ b = lr 1 then 1 else if b = g 8 ∨ b = lb 2 ∨ b = lr 2 then 2 else 0
  | 9 => g b
  | 10 => g 0 + 1 + b
  | 11 => g 1 + 1 + b
  | 12 => if b = ra then 16 else if b = g 35 then 64 else if g 0 + 1 ≤ b ∧ b ≤ g 0 + 40 then b - (g 0 + 1) else b - (g 1 + 1)
  | 14 => if b = g 6 then lb 0 else if b = g 7 then lb 1 else lb 2
  | 15 => if b = g 6 then lr 0 else if b = g 7 then lr 1 else lr 2
  | 21 => if b = 0 then g 6 else if b = 1 then g 7 else g 8
  | _ => 0
set_option maxRecDepth 100000 in
set_option maxHeartbeats 2000000 in
theorem RS_ini {D : va_G} {I : FieldType → ClassId} {P : List Nat} {F : Nat → va_E} {el : Nat → Nat → Nat} {g lb lr : Nat → Nat} {m ra : Nat} (hP : ∀ b, b ∈ (inK g m ra lb lr).map Prod.fst → b ∈ P) (hnd : ((inK g m ra lb lr).map Prod.fst).Nodup)
    (hem : F m = mdE (gI0 g m ra lb lr) (g 28) (g 35) 0 0 0 0 0 0 (-1) 0 0 0 0 0 0 0 0) (he2 : F (g 2) = .inl (I .long, 32, .inr (.inl (fun _ => 0)))) (he3 : F (g 3) = .inl (I .boolean, 2000, .inl (fun _ => 0))) (he4 : F (g 4) = .inl (I .int, 40, .inl (fun _ => 0))) (he5 : F (g 5) = .inl (I .int, 2000, .inl (fun _ => 0))) (he15 : F (g 15) = .inl (I .int, 2000, .inl (fun _ => 0))) (he16 : F (g 16) = .inl (I .int, 2000, .inl (fun _ => 0))) (he17 : F (g 17) = .inl (I .int, 2000, .inl (fun _ => 0))) (he18 : F (g 18) = .inl (I .boolean, 2000, .inl (fun _ => 0))) (he19 : F (g 19) = .inl (I .int, 2000, .inl (fun _ => 0))) (he20 : F (g 20) = .inl (I .int, 2000, .inl (fun _ => 0))) (he21 : F (g 21) = .inl (I .int, 2000, .inl (fun _ => 0))) (he22 : F (g 22) = .inl (I .int, 512, .inl (fun _ => 0))) (he28 : F (g 28) = .inl (I .int, 0, .inl (fun _ => 0))) (he31 : F (g 31) = .inl (I .byte, 8192, .inl (fun _ => 0))) (he35 : F (g 35) = .inl (I .byte, 64, .inl (fun _ => 0))) (he0 : F (g 0) = .inl (I (.array .long), 40, .inr (.inr (.inr (.inr (fun i => if i < 40 then some (g 0 + 1 + i) else none)))))) (he1 : F (g 1) = .inl (I (.array .long), 2000, .inr (.inr (.inr (.inr (fun i => if i < 2000 then some (g 1 + 1 + i) else none)))))) (hr0 : ∀ i, i < 40 → F (g 0 + 1 + i) = .inl (I .long, 32, .inr (.inl (fun _ => 0)))) (hr1 : ∀ i, i < 2000 → F (g 1 + 1 + i) = .inl (I .long, 32, .inr (.inl (fun _ => 0)))) (hc0 : F (g 6) = .inr (18, [.ref (lb 0), .ref (lr 0), .int 0, .int 0])) (hlb0 : F (lb 0) = .inr (4, [.int 0, .ref (D.2 1002 1), .int 0])) (hlr0 : F (lr 0) = .inr (4, [.int 0, .ref (D.2 1002 1), .int 0])) (hc1 : F (g 7) = .inr (18, [.ref (lb 1), .ref (lr 1), .int 0, .int 0])) (hlb1 : F (lb 1) = .inr (4, [.int 0, .ref (D.2 1002 1), .int 0])) (hlr1 : F (lr 1) = .inr (4, [.int 0, .ref (D.2 1002 1), .int 0])) (hc2 : F (g 8) = .inr (18, [.ref (lb 2), .ref (lr 2), .int 0, .int 0])) (hlb2 : F (lb 2) = .inr (4, [.int 0, .ref (D.2 1002 1), .int 0])) (hlr2 : F (lr 2) = .inr (4, [.int 0, .ref (D.2 1002 1), .int 0])) (heW : F (g 29) = .inr (1, [.ref ra, .int 0, .int 0, .int 0])) (hea : F ra = .inl (I .byte, 16, .inl (fun _ => 0))) : RS D I P F (gI0 g m ra lb lr) el := by
  have hA : ((inA g m ra lb lr).map Prod.fst).Nodup := by
    have h := hnd
    unfold inK at h
    rw [List.map_append] at h
    exact (List.nodup_append.mp h).1
  have kd : ∀ b k, (b, k) ∈ inK g m ra lb lr → gI0 g m ra lb lr 0 b = k := fun b k h => lkK_m hnd h
  have mk : ∀ (i : Nat) (x : Nat × Nat), (inA g m ra lb lr)[i]? = some x → gI0 g m ra lb lr 0 x.1 = x.2 := fun i x h => kd x.1 x.2 (List.mem_append_left _ (List.mem_of_getElem? h))
  have ne : ∀ (i j a b : Nat), i < j → ((inA g m ra lb lr).map Prod.fst)[i]? = some a → ((inA g m ra lb lr).map Prod.fst)[j]? = some b → a ≠ b := fun i j a b hij h1 h2 e => by
    obtain ⟨l1, q1⟩ := List.getElem?_eq_some_iff.mp h1
    obtain ⟨l2, q2⟩ := List.getElem?_eq_some_iff.mp h2
    exact List.pairwise_iff_getElem.mp hA i j l1 l2 hij (by rw [q1, q2]; exact e)
  have k0 : ∀ i, i < 40 → gI0 g m ra lb lr 0 (g 0 + 1 + i) = 11 := fun i hi => kd _ _ (List.mem_append_right _ (List.mem_append_right _ (List.mem_append_left _ (List.mem_cons_of_mem _ (List.mem_map.mpr ⟨i, List.mem_range.mpr hi, rfl⟩)))))
  have k1 : ∀ i, i < 2000 → gI0 g m ra lb lr 0 (g 1 + 1 + i) = 36 := fun i hi => kd _ _ (List.mem_append_right _ (List.mem_append_left _ (List.mem_cons_of_mem _ (List.mem_map.mpr ⟨i, List.mem_range.mpr hi, rfl⟩))))
  have kg1 : gI0 g m ra lb lr 0 (g 1) = 13 := kd _ _ (List.mem_append_right _ (List.mem_append_left _ List.mem_cons_self))
  have kg0 : gI0 g m ra lb lr 0 (g 0) = 12 := kd _ _ (List.mem_append_right _ (List.mem_append_right _ (List.mem_append_left _ List.mem_cons_self)))
  have kra : gI0 g m ra lb lr 0 ra = 29 := (mk 3 (ra, 29) rfl)
  have k35 : gI0 g m ra lb lr 0 (g 35) = 96 := (mk 1 (g 35, 96) rfl)
  have d0 : ∀ i, i < 40 → gI0 g m ra lb lr 12 (g 0 + 1 + i) = i := fun i hi => by
    have n1 : g 0 + 1 + i ≠ ra := fun e => by have := k0 i hi; rw [e, kra] at this; cases this
    have n2 : g 0 + 1 + i ≠ g 35 := fun e => by have := k0 i hi; rw [e, k35] at this; cases this
    show (if g 0 + 1 + i = ra then 16 else if g 0 + 1 + i = g 35 then 64 else if g 0 + 1 ≤ g 0 + 1 + i ∧ g 0 + 1 + i ≤ g 0 + 40 then g 0 + 1 + i - (g 0 + 1) else g 0 + 1 + i - (g 1 + 1)) = i
    rw [if_neg n1, if_neg n2, if_pos ⟨by omega, by omega⟩]
    omega
  have d1 : ∀ i, i < 2000 → gI0 g m ra lb lr 12 (g 1 + 1 + i) = i := fun i hi => by
    have n1 : g 1 + 1 + i ≠ ra := fun e => by have := k1 i hi; rw [e, kra] at this; cases this
    have n2 : g 1 + 1 + i ≠ g 35 := fun e => by have := k1 i hi; rw [e, k35] at this; cases this
    have n3 : ¬ (g 0 + 1 ≤ g 1 + 1 + i ∧ g 1 + 1 + i ≤ g 0 + 40) := fun e => by
      have h1 := k1 i hi
      have h2 := k0 (g 1 + 1 + i - (g 0 + 1)) (by omega)
      rw [show g 0 + 1 + (g 1 + 1 + i - (g 0 + 1)) = g 1 + 1 + i by omega, h1] at h2
      cases h2
    show (if g 1 + 1 + i = ra then 16 else if g 1 + 1 + i = g 35 then 64 else if g 0 + 1 ≤ g 1 + 1 + i ∧ g 1 + 1 + i ≤ g 0 + 40 then g 1 + 1 + i - (g 0 + 1) else g 1 + 1 + i - (g 1 + 1)) = i
    rw [if_neg n1, if_neg n2, if_neg n3]
    omega
  have era : gI0 g m ra lb lr 12 ra = 16 := if_pos rfl
  have e35 : gI0 g m ra lb lr 12 (g 35) = 64 := (if_neg (ne 1 3 _ _ (by decide) rfl rfl)).trans (if_pos rfl)
  have fm_g6 : gI0 g m ra lb lr 1 (g 6) = 0 := (if_neg (fun z => z.elim (fun z => (Ne.symm (ne 19 22 _ _ (by decide) rfl rfl)) z) (fun z => z.elim (fun z => (Ne.symm (ne 17 22 _ _ (by decide) rfl rfl)) z) (fun z => (Ne.symm (ne 18 22 _ _ (by decide) rfl rfl)) z)))).trans (if_neg (fun z => z.elim (fun z => (Ne.symm (ne 16 22 _ _ (by decide) rfl rfl)) z) (fun z => z.elim (fun z => (Ne.symm (ne 14 22 _ _ (by decide) rfl rfl)) z) (fun z => (Ne.symm (ne 15 22 _ _ (by decide) rfl rfl)) z))))
  have fm_lb0 : gI0 g m ra lb lr 1 (lb 0) = 0 := (if_neg (fun z => z.elim (fun z => (Ne.symm (ne 19 20 _ _ (by decide) rfl rfl)) z) (fun z => z.elim (fun z => (Ne.symm (ne 17 20 _ _ (by decide) rfl rfl)) z) (fun z => (Ne.symm (ne 18 20 _ _ (by decide) rfl rfl)) z)))).trans (if_neg (fun z => z.elim (fun z => (Ne.symm (ne 16 20 _ _ (by decide) rfl rfl)) z) (fun z => z.elim (fun z => (Ne.symm (ne 14 20 _ _ (by decide) rfl rfl)) z) (fun z => (Ne.symm (ne 15 20 _ _ (by decide) rfl rfl)) z))))
  have fm_lr0 : gI0 g m ra lb lr 1 (lr 0) = 0 := (if_neg (fun z => z.elim (fun z => (Ne.symm (ne 19 21 _ _ (by decide) rfl rfl)) z) (fun z => z.elim (fun z => (Ne.symm (ne 17 21 _ _ (by decide) rfl rfl)) z) (fun z => (Ne.symm (ne 18 21 _ _ (by decide) rfl rfl)) z)))).trans (if_neg (fun z => z.elim (fun z => (Ne.symm (ne 16 21 _ _ (by decide) rfl rfl)) z) (fun z => z.elim (fun z => (Ne.symm (ne 14 21 _ _ (by decide) rfl rfl)) z) (fun z => (Ne.symm (ne 15 21 _ _ (by decide) rfl rfl)) z))))
  have fm_g7 : gI0 g m ra lb lr 1 (g 7) = 1 := if_pos (Or.inl rfl)
  have fm_lb1 : gI0 g m ra lb lr 1 (lb 1) = 1 := if_pos (Or.inr (Or.inl rfl))
  have fm_lr1 : gI0 g m ra lb lr 1 (lr 1) = 1 := if_pos (Or.inr (Or.inr rfl))
  have fm_g8 : gI0 g m ra lb lr 1 (g 8) = 2 := (if_neg (fun z => z.elim (fun z => (ne 16 19 _ _ (by decide) rfl rfl) z) (fun z => z.elim (fun z => (ne 16 17 _ _ (by decide) rfl rfl) z) (fun z => (ne 16 18 _ _ (by decide) rfl rfl) z)))).trans (if_pos (Or.inl rfl))
  have fm_lb2 : gI0 g m ra lb lr 1 (lb 2) = 2 := (if_neg (fun z => z.elim (fun z => (ne 14 19 _ _ (by decide) rfl rfl) z) (fun z => z.elim (fun z => (ne 14 17 _ _ (by decide) rfl rfl) z) (fun z => (ne 14 18 _ _ (by decide) rfl rfl) z)))).trans (if_pos (Or.inr (Or.inl rfl)))
  have fm_lr2 : gI0 g m ra lb lr 1 (lr 2) = 2 := (if_neg (fun z => z.elim (fun z => (ne 15 19 _ _ (by decide) rfl rfl) z) (fun z => z.elim (fun z => (ne 15 17 _ _ (by decide) rfl rfl) z) (fun z => (ne 15 18 _ _ (by decide) rfl rfl) z)))).trans (if_pos (Or.inr (Or.inr rfl)))
  have q140 : gI0 g m ra lb lr 14 (g 6) = lb 0 := if_pos rfl
  have q141 : gI0 g m ra lb lr 14 (g 7) = lb 1 := (if_neg (ne 19 22 _ _ (by decide) rfl rfl)).trans (if_pos rfl)
  have q142 : gI0 g m ra lb lr 14 (g 8) = lb 2 := (if_neg (ne 16 22 _ _ (by decide) rfl rfl)).trans (if_neg (ne 16 19 _ _ (by decide) rfl rfl))
  have q150 : gI0 g m ra lb lr 15 (g 6) = lr 0 := if_pos rfl
  have q151 : gI0 g m ra lb lr 15 (g 7) = lr 1 := (if_neg (ne 19 22 _ _ (by decide) rfl rfl)).trans (if_pos rfl)
  have q152 : gI0 g m ra lb lr 15 (g 8) = lr 2 := (if_neg (ne 16 22 _ _ (by decide) rfl rfl)).trans (if_neg (ne 16 19 _ _ (by decide) rfl rfl))
  have hl : ∀ x, F x = .inr (4, [.int 0, .ref (D.2 1002 1), .int 0]) → ∀ ka, rkL D I (gI0 g m ra lb lr) el F ka x := fun x hx ka => ⟨0, 0, D.2 1002 1, hx, show Int32.toInt 0 = ((0 : Nat) : Int) by decide, show ((0 : Nat) : Int) ≤ 1000000 by decide, Or.inl ⟨rfl, rfl, rfl⟩, Nat.le_refl _, show 2 * 0 ≤ 3 * 0 + 20 by decide, Or.inl rfl⟩
  refine ⟨fun b hb => ?_, fun b => ?_⟩
  · rcases lkK_o (inK g m ra lb lr) b with h | h
    · exact absurd h hb
    · exact hP b (List.mem_map.mpr ⟨_, h, rfl⟩)
  show rFit D I (gI0 g m ra lb lr) el F b (lkK (inK g m ra lb lr) b)
  generalize hk : lkK (inK g m ra lb lr) b = k
  rcases lkK_o (inK g m ra lb lr) b with h | h
  · rw [← hk, h]; exact trivial
  rw [hk] at h
  clear hk
  rcases List.mem_append.mp h with h | h
  · unfold inA at h
    simp only [List.mem_cons, Prod.mk.injEq, List.not_mem_nil, or_false] at h
    rcases h with ⟨rfl, rfl⟩ | ⟨rfl, rfl⟩ | ⟨rfl, rfl⟩ | ⟨rfl, rfl⟩ | ⟨rfl, rfl⟩ | ⟨rfl, rfl⟩ | ⟨rfl, rfl⟩ | ⟨rfl, rfl⟩ | ⟨rfl, rfl⟩ | ⟨rfl, rfl⟩ | ⟨rfl, rfl⟩ | ⟨rfl, rfl⟩ | ⟨rfl, rfl⟩ | ⟨rfl, rfl⟩ | ⟨rfl, rfl⟩ | ⟨rfl, rfl⟩ | ⟨rfl, rfl⟩ | ⟨rfl, rfl⟩ | ⟨rfl, rfl⟩ | ⟨rfl, rfl⟩ | ⟨rfl, rfl⟩ | ⟨rfl, rfl⟩ | ⟨rfl, rfl⟩ | ⟨rfl, rfl⟩ | ⟨rfl, rfl⟩ | ⟨rfl, rfl⟩ | ⟨rfl, rfl⟩
    · exact rk10_b hem ⟨⟨by decide, by decide⟩, ⟨by decide, by decide⟩, ⟨by decide, by decide⟩, ⟨by decide, by decide⟩, ⟨by decide, by decide⟩, ⟨by decide, by decide⟩, ⟨by decide, by decide⟩, ⟨by decide, by decide⟩, ⟨by decide, by decide⟩⟩ ⟨(mk 5 (g 28, 98) rfl), (mk 1 (g 35, 96) rfl), kg0, kg1, (mk 26 (g 2, 35) rfl), (mk 25 (g 3, 14) rfl), (mk 24 (g 4, 16) rfl), (mk 23 (g 5, 17) rfl), (mk 22 (g 6, 9) rfl), (mk 19 (g 7, 9) rfl), (mk 16 (g 8, 9) rfl), (mk 13 (g 15, 18) rfl), (mk 12 (g 16, 19) rfl), (mk 11 (g 17, 20) rfl), (mk 10 (g 18, 15) rfl), (mk 9 (g 19, 21) rfl), (mk 8 (g 20, 22) rfl), (mk 7 (g 21, 23) rfl), (mk 6 (g 22, 97) rfl), (mk 4 (g 29, 28) rfl), (mk 2 (g 31, 99) rfl), fm_g6, fm_g7, fm_g8⟩ ⟨Or.inl (by decide), Or.inl (by decide), by rw [e35]; decide⟩
    · exact ⟨64, fun _ => 0, he35, fun _ => ⟨show _ ≤ Int32.toInt 0 by decide, show Int32.toInt 0 ≤ _ by decide⟩, by decide, e35.symm⟩
    · exact ⟨fun _ => 0, he31, fun _ => ⟨show _ ≤ Int32.toInt 0 by decide, show Int32.toInt 0 ≤ _ by decide⟩⟩
    · exact ⟨16, fun _ => 0, hea, fun _ => ⟨show _ ≤ Int32.toInt 0 by decide, show Int32.toInt 0 ≤ _ by decide⟩, by decide, era.symm⟩
    · exact ⟨ra, 0, 0, heW, ⟨by decide, by decide⟩, by decide, kra, by rw [era]; decide⟩
    · exact ⟨0, fun _ => 0, he28, by decide⟩
    · exact ⟨fun _ => 0, he22⟩
    · exact ⟨fun _ => 0, he21⟩
    · exact ⟨fun _ => 0, he20⟩
    · exact ⟨fun _ => 0, he19, fun _ => ⟨show _ ≤ Int32.toInt 0 by decide, show Int32.toInt 0 ≤ _ by decide⟩⟩
    · exact ⟨fun _ => 0, he18, fun _ => ⟨show _ ≤ Int32.toInt 0 by decide, show Int32.toInt 0 ≤ _ by decide⟩⟩
    · exact ⟨fun _ => 0, he17, fun _ => ⟨show _ ≤ Int32.toInt 0 by decide, show Int32.toInt 0 ≤ _ by decide⟩⟩
    · exact ⟨fun _ => 0, he16⟩
    · exact ⟨fun _ => 0, he15, fun _ => ⟨show _ ≤ Int32.toInt 0 by decide, show Int32.toInt 0 ≤ _ by decide⟩⟩
    · exact ⟨hl _ hlb2 _, fun i hi => absurd hi (Nat.not_lt_zero _)⟩
    · exact ⟨hl _ hlr2 _, fun i hi => absurd hi (Nat.not_lt_zero _)⟩
    · exact ⟨lb 2, lr 2, 0, 0, hc2, ⟨q142, q152, by rw [fm_g8]; rfl⟩, (mk 14 (lb 2, 4) rfl), fm_lb2.trans fm_g8.symm, (mk 15 (lr 2, 5) rfl), fm_lr2.trans fm_g8.symm, by decide, show Int32.toInt 0 ≤ ((0 : Nat) : Int) by decide, by decide, show Int32.toInt 0 ≤ ((0 : Nat) : Int) by decide, show ((0 : Nat) : Int) ≤ 1000000 by decide, show ((0 : Nat) : Int) ≤ 1000000 by decide, Or.inl rfl, fun i hi => absurd hi (by have h0 : Int32.toInt 0 = 0 := (by decide); omega), fun i _ hi => absurd hi (Nat.not_lt_zero _), fun i _ hi => absurd hi (Nat.not_lt_zero _), ⟨show Int32.toInt 0 = ((0 : Nat) : Int) by decide, Nat.le_refl _⟩⟩
    · exact ⟨hl _ hlb1 _, fun i hi => absurd hi (Nat.not_lt_zero _)⟩
    · exact ⟨hl _ hlr1 _, fun i hi => absurd hi (Nat.not_lt_zero _)⟩
    · exact ⟨lb 1, lr 1, 0, 0, hc1, ⟨q141, q151, by rw [fm_g7]; rfl⟩, (mk 17 (lb 1, 4) rfl), fm_lb1.trans fm_g7.symm, (mk 18 (lr 1, 5) rfl), fm_lr1.trans fm_g7.symm, by decide, show Int32.toInt 0 ≤ ((0 : Nat) : Int) by decide, by decide, show Int32.toInt 0 ≤ ((0 : Nat) : Int) by decide, show ((0 : Nat) : Int) ≤ 1000000 by decide, show ((0 : Nat) : Int) ≤ 1000000 by decide, Or.inl rfl, fun i hi => absurd hi (by have h0 : Int32.toInt 0 = 0 := (by decide); omega), fun i _ hi => absurd hi (Nat.not_lt_zero _), fun i _ hi => absurd hi (Nat.not_lt_zero _), ⟨show Int32.toInt 0 = ((0 : Nat) : Int) by decide, Nat.le_refl _⟩⟩
    · exact ⟨hl _ hlb0 _, fun i hi => absurd hi (Nat.not_lt_zero _)⟩
    · exact ⟨hl _ hlr0 _, fun i hi => absurd hi (Nat.not_lt_zero _)⟩
    · exact ⟨lb 0, lr 0, 0, 0, hc0, ⟨q140, q150, by rw [fm_g6]; rfl⟩, (mk 20 (lb 0, 4) rfl), fm_lb0.trans fm_g6.symm, (mk 21 (lr 0, 5) rfl), fm_lr0.trans fm_g6.symm, by decide, show Int32.toInt 0 ≤ ((0 : Nat) : Int) by decide, by decide, show Int32.toInt 0 ≤ ((0 : Nat) : Int) by decide, show ((0 : Nat) : Int) ≤ 1000000 by decide, show ((0 : Nat) : Int) ≤ 1000000 by decide, Or.inl rfl, fun i hi => absurd hi (by have h0 : Int32.toInt 0 = 0 := (by decide); omega), fun i _ hi => absurd hi (Nat.not_lt_zero _), fun i _ hi => absurd hi (Nat.not_lt_zero _), ⟨show Int32.toInt 0 = ((0 : Nat) : Int) by decide, Nat.le_refl _⟩⟩
    · exact ⟨fun _ => 0, he5⟩
    · exact ⟨fun _ => 0, he4⟩
    · exact ⟨fun _ => 0, he3, fun _ => ⟨show _ ≤ Int32.toInt 0 by decide, show Int32.toInt 0 ≤ _ by decide⟩⟩
    · exact ⟨fun _ => 0, he2, fun _ _ => lb_Q0⟩
  · rcases List.mem_append.mp h with h | h
    · rcases List.mem_cons.mp h with h | h
      · cases h
        exact ⟨_, he1, fun i hi => ⟨if_pos hi, k1 i hi, d1 i hi⟩⟩
      · obtain ⟨i, hi, e⟩ := List.mem_map.mp h
        cases e
        exact ⟨fun _ => 0, hr1 i (List.mem_range.mp hi), fun _ _ => lb_Q0⟩
    · rcases List.mem_append.mp h with h | h
      · rcases List.mem_cons.mp h with h | h
        · cases h
          exact ⟨_, he0, fun i hi => ⟨if_pos hi, k0 i hi, d0 i hi⟩⟩
        · obtain ⟨i, hi, e⟩ := List.mem_map.mp h
          cases e
          exact ⟨fun _ => 0, hr0 i (List.mem_range.mp hi), fun _ _ => lb_Q0⟩
      · exact absurd h List.not_mem_nil
