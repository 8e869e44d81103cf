/-! the model's cells while it is made: the model's own, and the others by a list -/
def nwS (m : Nat) (e : va_E) (w : va_W) (P : List Nat) (F : Nat → va_E) : Prop := m ∈ P ∧ F m = e ∧ (∀ x, x ∈ w → x.1 ∈ P ∧ F x.1 = x.2) ∧ (m :: w.map Prod.fst).Nodup
section NWS
variable {m q : Nat} {e e1 x y : va_E} {w v : va_W} {P P1 : List Nat} {F F1 : Nat → va_E}
theorem nwS_put (h : nwS m e w P F) (h1 : F1 m = e1) (n : ∀ b, b ≠ m → F1 b = F b) : nwS m e1 w P F1 := by
  obtain ⟨a1, a2, a3, a4⟩ := h
  refine ⟨a1, h1, fun z hz => ⟨(a3 z hz).1, (n _ (fun e => ?_)).trans (a3 z hz).2⟩, a4⟩
  rw [List.nodup_cons] at a4
  exact a4.1 (List.mem_map.mpr ⟨z, hz, e⟩)
theorem nwS_L (h : nwS m e w P F) (hq : ∀ q, q ∈ v.map Prod.fst → q ∉ P) (hP : ∀ b, b ∈ P1 ↔ b ∈ P ∨ b ∈ v.map Prod.fst) (hx : ∀ x, x ∈ v → F1 x.1 = x.2) (n : ∀ b, b ∉ v.map Prod.fst → F1 b = F b) (hnd : (v.map Prod.fst).Nodup) : nwS m e (v ++ w) P1 F1 := by
  obtain ⟨a1, a2, a3, a4⟩ := h
  have nP : ∀ b, b ∈ P → b ∉ v.map Prod.fst := fun b hb z => hq b z hb
  refine ⟨(hP m).mpr (Or.inl a1), (n m (nP m a1)).trans a2, fun z hz => ?_, ?_⟩
  · rcases List.mem_append.mp hz with g | g
    · exact ⟨(hP _).mpr (Or.inr (List.mem_map.mpr ⟨z, g, rfl⟩)), hx z g⟩
    · exact ⟨(hP _).mpr (Or.inl (a3 z g).1), (n _ (nP _ (a3 z g).1)).trans (a3 z g).2⟩
  · rw [List.nodup_cons] at a4 ⊢
    rw [List.map_append]
    refine ⟨fun g => ?_, List.nodup_append.mpr ⟨hnd, a4.2, fun a ha b hb e => ?_⟩⟩
    · rcases List.mem_append.mp g with g | g
      · exact nP m a1 g
      · exact a4.1 g
    · obtain ⟨z, hz, ez⟩ := List.mem_map.mp hb
      exact hq a ha (by rw [e, ← ez]; exact (a3 z hz).1)
theorem nwS_n (h : nwS m e w P F) (hq : q ∉ P) (hP : ∀ b, b ∈ P1 ↔ b ∈ P ∨ b = q) (hx : F1 q = x) (n : ∀ b, b ≠ q → F1 b = F b) : nwS m e ((q, x) :: w) P1 F1 := by
  have g := nwS_L (v := [(q, x)]) (P1 := P1) (F1 := F1) h (fun b hb => by
    have : b = q := List.mem_singleton.mp hb
    rw [this]; exact hq) (fun b => by
    rw [hP b]
    exact ⟨fun z => z.imp id (fun z => List.mem_singleton.mpr z), fun z => z.imp id (fun z => List.mem_singleton.mp z)⟩) (fun z hz => by
    have : z = (q, x) := List.mem_singleton.mp hz
    rw [this]; exact hx) (fun b hb => n b (fun z => hb (List.mem_singleton.mpr z))) (List.nodup_cons.mpr ⟨List.not_mem_nil, List.nodup_nil⟩)
  exact g
/-- a constructor of the cell that was made last: it and what it makes -/
theorem nwS_c (h : nwS m e ((q, x) :: w) P F) (hs : rSub P P1) (fr : rFr [q] P F F1) (hy : F1 q = y) (hv : ∀ z, z ∈ v → z.1 ∈ P1 ∧ z.1 ∉ P ∧ F1 z.1 = z.2) (hnd : (v.map Prod.fst).Nodup) : nwS m e (v ++ (q, y) :: w) P1 F1 := by
  obtain ⟨a1, a2, a3, a4⟩ := h
  have a4' := a4
  rw [List.map_cons, List.nodup_cons, List.nodup_cons] at a4
  obtain ⟨b1, b2, b3⟩ := a4
  have hmq : m ≠ q := fun z => b1 (by rw [z]; exact List.mem_cons_self)
  have key : ∀ b, b ∈ P → b ≠ q → F1 b = F b := fun b hb hbq => fr b hb (nm_c hbq nm_n)
  have inP : ∀ b, b ∈ ((q, x) :: w).map Prod.fst → b ∈ P := fun b hb => by
    obtain ⟨z, hz, ez⟩ := List.mem_map.mp hb
    rw [← ez]; exact (a3 z hz).1
  refine ⟨hs m a1, (key m a1 hmq).trans a2, fun z hz => ?_, ?_⟩
  · rcases List.mem_append.mp hz with g | g
    · exact ⟨(hv z g).1, (hv z g).2.2⟩
    · rcases List.mem_cons.mp g with g | g
      · rw [g]; exact ⟨hs q (a3 (q, x) List.mem_cons_self).1, hy⟩
      · have hz' := a3 z (List.mem_cons_of_mem _ g)
        exact ⟨hs _ hz'.1, (key _ hz'.1 (fun t => b2 (by rw [← t]; exact List.mem_map.mpr ⟨z, g, rfl⟩))).trans hz'.2⟩
  · have hN : ((q, y) :: w).map Prod.fst = ((q, x) :: w).map Prod.fst := rfl
    rw [List.map_append, hN]
    rw [List.nodup_cons] at a4' ⊢
    refine ⟨fun g => ?_, List.nodup_append.mpr ⟨hnd, a4'.2, fun a ha b hb t => ?_⟩⟩
    · rcases List.mem_append.mp g with g | g
      · obtain ⟨z, hz, ez⟩ := List.mem_map.mp g
        exact (hv z hz).2.1 (by rw [ez]; exact a1)
      · exact a4'.1 g
    · obtain ⟨z, hz, ez⟩ := List.mem_map.mp ha
      exact (hv z hz).2.1 (by rw [ez, t]; exact inP b hb)
theorem nwS_at (h : nwS m e w P F) (i : Nat) {z : Nat × va_E} (hi : w[i]? = some z) : F z.1 = z.2 := (h.2.2.1 z (List.mem_of_getElem? hi)).2
end NWS
theorem mnL_nd {cA cB : ClassId} {q N K : Nat} : ((mnL cA cB q N K).map Prod.fst).Nodup := by
  unfold mnL
  rw [List.map_cons, List.map_map, List.nodup_cons]
  refine ⟨fun h => ?_, ?_⟩
  · obtain ⟨i, _, e⟩ := List.mem_map.mp h
    have e' : q + 1 + i = q := e
    omega
  · refine List.pairwise_map.mpr (List.Pairwise.imp (fun {a b} h e => h ?_) (List.nodup_range (n := N)))
    have h' : q + 1 + a = q + 1 + b := e
    omega
