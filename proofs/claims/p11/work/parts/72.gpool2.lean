/-! G over a pool that is the whole world: va_pl P F; cells taken out of it for a call, and put back -/
theorem rv_plf (P : List Nat) (F : Nat → va_E) : (va_pl P F).map (·.1) = P := by
  unfold va_pl
  rw [List.map_map]
  exact List.map_id' P
theorem rv_plm {P : List Nat} {F : Nat → va_E} {x : Nat × va_E} : x ∈ va_pl P F ↔ x.1 ∈ P ∧ x.2 = F x.1 := by
  unfold va_pl
  constructor
  · intro h
    obtain ⟨a, ha, e⟩ := List.mem_map.mp h
    subst e
    exact ⟨ha, rfl⟩
  · intro h
    exact List.mem_map.mpr ⟨x.1, h.1, by rw [← h.2]⟩
theorem rv_nd {A : Nat → Prop} {ws : va_W} (h : va_D A ws) : (ws.map (·.1)).Nodup := by
  unfold List.Nodup
  rw [List.pairwise_iff_getElem]
  intro i j hi hj hij he
  rw [List.length_map] at hi hj
  rw [List.getElem_map, List.getElem_map] at he
  have := h.1 i j _ _ (List.getElem?_eq_getElem hi) (List.getElem?_eq_getElem hj) he
  omega
theorem rv_D {A : Nat → Prop} {ws : va_W} (h : (ws.map (·.1)).Nodup) (h2 : ∀ x ∈ ws, A x.1) : va_D A ws := by
  refine ⟨fun i j p q hp hq he => ?_, fun k q hk => h2 q (List.mem_of_getElem? hk)⟩
  obtain ⟨hi, ei⟩ := List.getElem?_eq_some_iff.mp hp
  obtain ⟨hj, ej⟩ := List.getElem?_eq_some_iff.mp hq
  unfold List.Nodup at h
  rw [List.pairwise_iff_getElem] at h
  rcases Nat.lt_trichotomy i j with c | c | c
  · exact absurd (by rw [List.getElem_map, List.getElem_map, ei, ej]; exact he) (h i j (by rw [List.length_map]; exact hi) (by rw [List.length_map]; exact hj) c)
  · exact c
  · exact absurd (by rw [List.getElem_map, List.getElem_map, ei, ej]; exact he.symm) (h j i (by rw [List.length_map]; exact hj) (by rw [List.length_map]; exact hi) c)
theorem rv_idx {ws : va_W} : ∀ (xs : va_W), (∀ x ∈ xs, x ∈ ws) → ∃ is : List Nat, is.map (fun i => ws[i]?) = xs.map some
  | [], _ => ⟨[], rfl⟩
  | x :: xs, h => by
    obtain ⟨is, e⟩ := rv_idx xs (fun z hz => h z (List.mem_cons_of_mem _ hz))
    obtain ⟨i, hi⟩ := List.getElem?_of_mem (h x List.mem_cons_self)
    exact ⟨i :: is, by rw [List.map_cons, List.map_cons, e, hi]⟩
theorem rv_ndi {ws : va_W} : ∀ (is : List Nat) (xs : va_W), is.map (fun i => ws[i]?) = xs.map some → xs.Nodup → is.Nodup
  | [], _, _, _ => List.nodup_nil
  | i :: is, [], h, _ => by cases h
  | i :: is, x :: xs, h, hx => by
    have h1 : ws[i]? = some x := (List.cons.inj h).1
    have h2 := (List.cons.inj h).2
    rw [List.nodup_cons] at hx ⊢
    refine ⟨fun hm => hx.1 ?_, rv_ndi is xs h2 hx.2⟩
    have h3 : some x ∈ xs.map some := by
      rw [← h2, ← h1]
      exact List.mem_map.mpr ⟨i, hm, rfl⟩
    obtain ⟨y, hy, e⟩ := List.mem_map.mp h3
    cases e
    exact hy
theorem rv_pln {F : Nat → va_E} : ∀ (P : List Nat), P.Nodup → (va_pl P F).Nodup
  | [], _ => List.nodup_nil
  | a :: P, h => by
    rw [List.nodup_cons] at h
    show ((a, F a) :: va_pl P F).Nodup
    rw [List.nodup_cons]
    exact ⟨fun hm => h.1 (rv_plm.mp hm).1, rv_pln P h.2⟩
def r_up (F : Nat → va_E) (w : va_W) : Nat → va_E := fun b => match w.find? (fun x => x.1 == b) with
  | some x => x.2
  | none => F b
theorem r_up_not {F : Nat → va_E} {w : va_W} {b : Nat} (h : b ∉ w.map (·.1)) : r_up F w b = F b := by
  unfold r_up
  have : w.find? (fun x => x.1 == b) = none := by
    rw [List.find?_eq_none]
    intro x hx e
    exact h (List.mem_map.mpr ⟨x, hx, eq_of_beq e⟩)
  rw [this]
theorem r_up_mem {F : Nat → va_E} : ∀ {w : va_W}, (w.map (·.1)).Nodup → ∀ x ∈ w, r_up F w x.1 = x.2
  | [], _, _, hx => by cases hx
  | y :: w, h, x, hx => by
    rw [List.map_cons, List.nodup_cons] at h
    unfold r_up
    rcases List.mem_cons.mp hx with rfl | hx
    · rw [List.find?_cons_of_pos (by exact beq_self_eq_true _)]
    · have hne : ¬ (y.1 == x.1) = true := fun e => h.1 (by rw [eq_of_beq e]; exact List.mem_map.mpr ⟨x, hx, rfl⟩)
      rw [List.find?_cons_of_neg (p := fun z : Nat × va_E => z.1 == x.1) (a := y) hne]
      exact r_up_mem h.2 x hx
/-- the pool P, F becomes P1, F1: the cells at 'as' and new ones are now as w has them -/
def rN (P P1 : List Nat) (F F1 : Nat → va_E) (as : List Nat) (w : va_W) : Prop :=
  (∀ b, b ∈ P1 ↔ (b ∈ P ∧ b ∉ as) ∨ b ∈ w.map (·.1)) ∧ (∀ b ∈ w.map (·.1), b ∉ as → b ∉ P) ∧ (∀ x ∈ w, F1 x.1 = x.2) ∧ ∀ b, b ∉ w.map (·.1) → F1 b = F b
theorem rp_idx {A : Nat → Prop} {P as : List Nat} {F : Nat → va_E} (hD : va_D A (va_pl P F)) (has : as.Nodup) (hsub : ∀ a ∈ as, a ∈ P) : ∃ isC isR : List Nat, isC.map (fun i => (va_pl P F)[i]?) = (va_pl as F).map some ∧ isR.map (fun i => (va_pl P F)[i]?) = (va_pl (P.filter (fun b => decide (b ∉ as))) F).map some ∧ va_nd isC = true ∧ va_nd isR = true ∧ ∀ i ∈ isR, i ∉ isC := by
  have hP : P.Nodup := by
    have h := rv_nd hD
    rwa [rv_plf] at h
  obtain ⟨isC, hC⟩ := rv_idx (ws := va_pl P F) (va_pl as F) (fun x hx => rv_plm.mpr ⟨hsub _ (rv_plm.mp hx).1, (rv_plm.mp hx).2⟩)
  obtain ⟨isR, hR⟩ := rv_idx (ws := va_pl P F) (va_pl (P.filter (fun b => decide (b ∉ as))) F) (fun x hx => rv_plm.mpr ⟨(List.mem_filter.mp (rv_plm.mp hx).1).1, (rv_plm.mp hx).2⟩)
  refine ⟨isC, isR, hC, hR, r_nd _ (rv_ndi _ _ hC (rv_pln _ has)), r_nd _ (rv_ndi _ _ hR (rv_pln _ (hP.filter _))), ?_⟩
  intro i hi hj
  have h1 : (va_pl P F)[i]? ∈ (va_pl (P.filter (fun b => decide (b ∉ as))) F).map some := hR ▸ List.mem_map.mpr ⟨i, hi, rfl⟩
  have h2 : (va_pl P F)[i]? ∈ (va_pl as F).map some := hC ▸ List.mem_map.mpr ⟨i, hj, rfl⟩
  obtain ⟨x, hx, ex⟩ := List.mem_map.mp h1
  obtain ⟨y, hy, ey⟩ := List.mem_map.mp h2
  have e : x = y := Option.some.inj (ex.trans ey.symm)
  subst e
  exact of_decide_eq_true (List.mem_filter.mp (rv_plm.mp hx).1).2 (rv_plm.mp hy).1
section GP2
variable {v : gEnv} {l : Launch} {R : Room} {Qf : gFin} {k : gKey} {pc : Nat} {L : List (Nat × Value)} {st : List Value} {P : List Nat} {F : Nat → va_E} {cs sl : Nat}
variable {a ci N i : Nat} {fs : List Value} {x : Value} {C : String} {T : u_T} {ty : Nat → FieldType}
theorem Gp_re {as : List Nat} {w : va_W} (n : ∀ (P1 : List Nat) (F1 : Nat → va_E), rN P P1 F F1 as w → G v l R Qf k pc L st (va_pl P1 F1) cs sl) : G v l R Qf k pc L st (va_pl (P.filter (fun b => decide (b ∉ as))) F ++ w) cs sl := fun p e s m args below meth c A H locs ls C hP hD hS h => by
  have hnd := rv_nd hD
  rw [List.map_append, rv_plf, List.nodup_append] at hnd
  obtain ⟨n1, n2, n3⟩ := hnd
  have hdj : ∀ b, b ∈ P.filter (fun b => decide (b ∉ as)) → b ∉ w.map (·.1) := fun b hb hw => n3 b hb b hw rfl
  have hfr : ∀ b ∈ w.map (·.1), b ∉ as → b ∉ P := fun b hb ha hp => hdj b (List.mem_filter.mpr ⟨hp, decide_eq_true ha⟩) hb
  have ew : va_pl (P.filter (fun b => decide (b ∉ as)) ++ w.map (·.1)) (r_up F w) = va_pl (P.filter (fun b => decide (b ∉ as))) F ++ w := by
    unfold va_pl
    rw [List.map_append]
    congr 1
    · apply List.map_congr_left
      intro b hb
      rw [r_up_not (hdj b hb)]
    · rw [List.map_map]
      have : w.map ((fun a => (a, r_up F w a)) ∘ fun x => x.1) = w.map id := by
        apply List.map_congr_left
        intro x hx
        show (x.1, r_up F w x.1) = x
        rw [r_up_mem n2 x hx]
      rw [this, List.map_id]
  refine n (P.filter (fun b => decide (b ∉ as)) ++ w.map (·.1)) (r_up F w) ⟨fun b => ?_, hfr, r_up_mem n2, fun b hb => r_up_not hb⟩ p e s m args below meth c A H locs ls C (by rw [ew]; exact hP) (by rw [ew]; exact hD) hS h
  rw [List.mem_append, List.mem_filter]
  constructor
  · rintro (⟨h1, h2⟩ | h1)
    · exact Or.inl ⟨h1, of_decide_eq_true h2⟩
    · exact Or.inr h1
  · rintro (⟨h1, h2⟩ | h1)
    · exact Or.inl ⟨h1, decide_eq_true h2⟩
    · exact Or.inr h1
theorem Gp_get (f : Nat) (ha : a ∈ P) (he : F a = .inr (ci, fs)) (d : decode k.1 pc = .ok (.getfield i, 3)) (hc : gK v ci C T N ty) (hf : f < N) (hl : Cond.fieldLink k.2.2.1 i (T f).1 (T f).2.1 (T f).2.2.1 ∈ v.2.2.2.2) (hx : fs[f]? = some x)
    (n : G v l R Qf k (pc + 3) L (x :: st) (va_pl P F) cs sl) : G v l R Qf k pc L (.ref a :: st) (va_pl P F) cs sl := G_pget (X := []) f ha he d hc hf hl hx n
theorem Gp_getN {host : String} (f : Nat) (ha : a ∈ P) (he : F a = .inr (ci, fs)) (d : decode k.1 pc = .ok (.getfield i, 3)) (hc : gK v ci C T N ty) (hf : f < N) (hl : ∀ A s H, v.2.2.2.1 A s H → va_Nw (.fieldLinkNest k.2.2.1 i (T f).1 (T f).2.1 (T f).2.2.1 host) s) (hx : fs[f]? = some x)
    (n : G v l R Qf k (pc + 3) L (x :: st) (va_pl P F) cs sl) : G v l R Qf k pc L (.ref a :: st) (va_pl P F) cs sl := G_pgetN (X := []) f ha he d hc hf hl hx n
theorem Gp_put (f : Nat) (ha : a ∈ P) (he : F a = .inr (ci, fs)) (d : decode k.1 pc = .ok (.putfield i, 3)) (hc : gK v ci C T N ty) (hf : f < N) (hl : Cond.fieldLink k.2.2.1 i (T f).1 (T f).2.1 (T f).2.2.1 ∈ v.2.2.2.2) (hfin : (T f).2.2.2 = false) (hn : narrow (ty f) x = x) (hfit : fits (ty f) x = true) (hlen : f < fs.length)
    (n : ∀ F1 : Nat → va_E, F1 a = .inr (ci, fs.set f x) → (∀ b, b ≠ a → F1 b = F b) → G v l R Qf k (pc + 3) L st (va_pl P F1) cs sl) : G v l R Qf k pc L (x :: .ref a :: st) (va_pl P F) cs sl :=
  G_pput (X := []) f ha he d hc hf hl hfin hn hfit hlen (n _ (va_up_self _ _ _) (fun b hb => va_up_ne _ _ hb))
theorem Gp_putN {host : String} (f : Nat) (ha : a ∈ P) (he : F a = .inr (ci, fs)) (d : decode k.1 pc = .ok (.putfield i, 3)) (hc : gK v ci C T N ty) (hf : f < N) (hl : ∀ A s H, v.2.2.2.1 A s H → va_Nw (.fieldLinkNest k.2.2.1 i (T f).1 (T f).2.1 (T f).2.2.1 host) s) (hfin : (T f).2.2.2 = false) (hn : narrow (ty f) x = x) (hfit : fits (ty f) x = true) (hlen : f < fs.length)
    (n : ∀ F1 : Nat → va_E, F1 a = .inr (ci, fs.set f x) → (∀ b, b ≠ a → F1 b = F b) → G v l R Qf k (pc + 3) L st (va_pl P F1) cs sl) : G v l R Qf k pc L (x :: .ref a :: st) (va_pl P F) cs sl :=
  G_pputN (X := []) f ha he d hc hf hl hfin hn hfit hlen (n _ (va_up_self _ _ _) (fun b hb => va_up_ne _ _ hb))
/-- a cell made behind the pool goes into it -/
theorem Gp_in {q : Nat} {e : va_E} (n : ∀ (P1 : List Nat) (F1 : Nat → va_E), q ∉ P → (∀ b, b ∈ P1 ↔ b ∈ P ∨ b = q) → F1 q = e → (∀ b, b ≠ q → F1 b = F b) → G v l R Qf k pc L st (va_pl P1 F1) cs sl) : G v l R Qf k pc L st (va_pl P F ++ [(q, e)]) cs sl := by
  have h0 : P.filter (fun b => decide (b ∉ ([] : List Nat))) = P := by
    rw [List.filter_eq_self]
    intro b _
    exact decide_eq_true (List.not_mem_nil)
  have h1 : G v l R Qf k pc L st (va_pl (P.filter (fun b => decide (b ∉ ([] : List Nat)))) F ++ [(q, e)]) cs sl := by
    refine Gp_re (fun P1 F1 h => n P1 F1 ?_ (fun b => ?_) ?_ (fun b hb => ?_))
    · exact h.2.1 q (List.mem_singleton.mpr rfl) (List.not_mem_nil)
    · rw [h.1 b]
      constructor
      · rintro (⟨g, -⟩ | g)
        · exact Or.inl g
        · exact Or.inr (List.mem_singleton.mp g)
      · rintro (g | g)
        · exact Or.inl ⟨g, List.not_mem_nil⟩
        · exact Or.inr (List.mem_singleton.mpr g)
    · exact h.2.2.1 (q, e) (List.mem_singleton.mpr rfl)
    · exact h.2.2.2 b (fun hm => hb (List.mem_singleton.mp hm))
  rw [h0] at h1
  exact h1
section ARRP
variable {cA : ClassId} {M : Nat} {y z : Int32} {f : Nat → Int32}
theorem Gp_alen {b : vp_A} {fty : FieldType} (w : Int32) (t : Nat) (ha : a ∈ P) (he : F a = .inl (cA, b)) (d : decode k.1 pc = .ok (.arraylength, 1)) (ht : v.2.2.1[t]? = some (cA, fty)) (hy : Int32.ofNat b.1 = w)
    (n : G v l R Qf k (pc + 1) L (.int w :: st) (va_pl P F) cs sl) : G v l R Qf k pc L (.ref a :: st) (va_pl P F) cs sl := by
  obtain ⟨q, hq⟩ := va_pl_get (X := []) (f := F) ha
  exact G_alen w q t d (by rw [← he]; exact hq) ht hy n
theorem Gp_iald (t : Nat) (ha : a ∈ P) (he : F a = .inl (cA, M, .inl f)) (d : decode k.1 pc = .ok (.iaload, 1)) (ht : v.2.2.1[t]? = some (cA, .int)) (hin : vp_in y M) (n : G v l R Qf k (pc + 1) L (.int (f y.toNatClampNeg) :: st) (va_pl P F) cs sl) : G v l R Qf k pc L (.int y :: .ref a :: st) (va_pl P F) cs sl := by
  obtain ⟨q, hq⟩ := va_pl_get (X := []) (f := F) ha
  exact G_iald q t d (by rw [← he]; exact hq) ht hin n
theorem Gp_bald (t : Nat) (ha : a ∈ P) (he : F a = .inl (cA, M, .inl f)) (d : decode k.1 pc = .ok (.baload, 1)) (ht : v.2.2.1[t]? = some (cA, .byte)) (hin : vp_in y M) (n : G v l R Qf k (pc + 1) L (.int (f y.toNatClampNeg) :: st) (va_pl P F) cs sl) : G v l R Qf k pc L (.int y :: .ref a :: st) (va_pl P F) cs sl := by
  obtain ⟨q, hq⟩ := va_pl_get (X := []) (f := F) ha
  exact G_bald q t d (by rw [← he]; exact hq) ht hin n
theorem Gp_zald (t : Nat) (ha : a ∈ P) (he : F a = .inl (cA, M, .inl f)) (d : decode k.1 pc = .ok (.baload, 1)) (ht : v.2.2.1[t]? = some (cA, .boolean)) (hin : vp_in y M) (n : G v l R Qf k (pc + 1) L (.int (f y.toNatClampNeg) :: st) (va_pl P F) cs sl) : G v l R Qf k pc L (.int y :: .ref a :: st) (va_pl P F) cs sl := by
  obtain ⟨q, hq⟩ := va_pl_get (X := []) (f := F) ha
  exact G_zald q t d (by rw [← he]; exact hq) ht hin n
theorem Gp_lald {g : Nat → Int64} (t : Nat) (ha : a ∈ P) (he : F a = .inl (cA, M, .inr (.inl g))) (d : decode k.1 pc = .ok (.laload, 1)) (ht : v.2.2.1[t]? = some (cA, .long)) (hin : vp_in y M) (n : G v l R Qf k (pc + 1) L (.long (g y.toNatClampNeg) :: st) (va_pl P F) cs sl) : G v l R Qf k pc L (.int y :: .ref a :: st) (va_pl P F) cs sl := by
  obtain ⟨q, hq⟩ := va_pl_get (X := []) (f := F) ha
  exact G_lald q t d (by rw [← he]; exact hq) ht hin n
theorem Gp_iast (t : Nat) (ha : a ∈ P) (he : F a = .inl (cA, M, .inl f)) (d : decode k.1 pc = .ok (.iastore, 1)) (ht : v.2.2.1[t]? = some (cA, .int)) (hin : vp_in y M)
    (n : ∀ F1 : Nat → va_E, F1 a = .inl (cA, M, .inl (upd f y.toNatClampNeg z)) → (∀ b, b ≠ a → F1 b = F b) → G v l R Qf k (pc + 1) L st (va_pl P F1) cs sl) : G v l R Qf k pc L (.int z :: .int y :: .ref a :: st) (va_pl P F) cs sl := fun p e s m args below meth c A H locs ls C hP hD hS h => by
  obtain ⟨q, hq⟩ := va_pl_get (X := []) (f := F) ha
  exact G_iast q t d (by rw [← he]; exact hq) ht hin (va_pl_set (X := []) hD ha hq) (n _ (va_up_self _ _ _) (fun b hb => va_up_ne _ _ hb)) p e s m args below meth c A H locs ls C hP hD hS h
theorem Gp_bast (t : Nat) (ha : a ∈ P) (he : F a = .inl (cA, M, .inl f)) (d : decode k.1 pc = .ok (.bastore, 1)) (ht : v.2.2.1[t]? = some (cA, .byte)) (hin : vp_in y M)
    (n : ∀ F1 : Nat → va_E, F1 a = .inl (cA, M, .inl (upd f y.toNatClampNeg (vp_nar .byte z))) → (∀ b, b ≠ a → F1 b = F b) → G v l R Qf k (pc + 1) L st (va_pl P F1) cs sl) : G v l R Qf k pc L (.int z :: .int y :: .ref a :: st) (va_pl P F) cs sl := fun p e s m args below meth c A H locs ls C hP hD hS h => by
  obtain ⟨q, hq⟩ := va_pl_get (X := []) (f := F) ha
  exact G_bast q t d (by rw [← he]; exact hq) ht hin (va_pl_set (X := []) hD ha hq) (n _ (va_up_self _ _ _) (fun b hb => va_up_ne _ _ hb)) p e s m args below meth c A H locs ls C hP hD hS h
theorem Gp_zast (t : Nat) (ha : a ∈ P) (he : F a = .inl (cA, M, .inl f)) (d : decode k.1 pc = .ok (.bastore, 1)) (ht : v.2.2.1[t]? = some (cA, .boolean)) (hin : vp_in y M)
    (n : ∀ F1 : Nat → va_E, F1 a = .inl (cA, M, .inl (upd f y.toNatClampNeg (vp_nar .boolean z))) → (∀ b, b ≠ a → F1 b = F b) → G v l R Qf k (pc + 1) L st (va_pl P F1) cs sl) : G v l R Qf k pc L (.int z :: .int y :: .ref a :: st) (va_pl P F) cs sl := fun p e s m args below meth c A H locs ls C hP hD hS h => by
  obtain ⟨q, hq⟩ := va_pl_get (X := []) (f := F) ha
  exact G_zast q t d (by rw [← he]; exact hq) ht hin (va_pl_set (X := []) hD ha hq) (n _ (va_up_self _ _ _) (fun b hb => va_up_ne _ _ hb)) p e s m args below meth c A H locs ls C hP hD hS h
theorem Gp_last {g : Nat → Int64} {u : Int64} (t : Nat) (ha : a ∈ P) (he : F a = .inl (cA, M, .inr (.inl g))) (d : decode k.1 pc = .ok (.lastore, 1)) (ht : v.2.2.1[t]? = some (cA, .long)) (hin : vp_in y M)
    (n : ∀ F1 : Nat → va_E, F1 a = .inl (cA, M, .inr (.inl (vp_updL g y.toNatClampNeg u))) → (∀ b, b ≠ a → F1 b = F b) → G v l R Qf k (pc + 1) L st (va_pl P F1) cs sl) : G v l R Qf k pc L (.long u :: .int y :: .ref a :: st) (va_pl P F) cs sl := fun p e s m args below meth c A H locs ls C hP hD hS h => by
  obtain ⟨q, hq⟩ := va_pl_get (X := []) (f := F) ha
  exact G_last q t d (by rw [← he]; exact hq) ht hin (va_pl_set (X := []) hD ha hq) (n _ (va_up_self _ _ _) (fun b hb => va_up_ne _ _ hb)) p e s m args below meth c A H locs ls C hP hD hS h
end ARRP
end GP2
theorem gw_all (ws : va_W) : (List.range ws.length).map (fun i => ws[i]?) = ws.map some := by
  have h := r_places (X := []) (cx := []) (W := ws) [] rfl
  rw [List.nil_append, List.nil_append] at h
  simpa using h
section GPC
variable {v : gEnv} {l : Launch} {R : Room} {Qf : gFin} {k : gKey} {pc cs sl : Nat} {L : List (Nat × Value)} {st : List Value} {ws wc : va_W} {P : List Nat} {F : Nat → va_E}
variable {y : MethodName} {cc' : ByteArray} {nL' fr' lo' mc' ms' i b : Nat} {ret' : Option FieldType} {As : List Value} {Post' : Option Value → va_W → Nat → Nat → Prop} {XP' : String → Nat → va_W → Nat → Nat → Prop}
/-- calls with the whole world -/
theorem Gw_callV {ci N : Nat} {fs : List Value} {T : u_T} (hv : gOk v) (cp : CtA v l y cc' nL' ret' fr' lo' mc' ms' (.ref b :: As) (va_pl P F) Post' XP') (d : decode k.1 pc = .ok (.invokevirtual i, 3)) (hw : gCw v R k.2.2.1 i y cc' nL' ret' fr' lo' As.length) (w2 : Cond.instanceMethod y ∈ v.2.2.2.2) (w3 : Cond.selects y.cls y y ∈ v.2.2.2.2)
    (hb : b ∈ P) (he : F b = .inr (ci, fs)) (hcl : v.2.1[ci]? = some (y.cls, T, N)) (hcs : cs + mc' ≤ R.cells) (hsl : sl + ms' ≤ R.slots) (hcat : (st.map fun u => u.category).sum ≤ 8)
    (kk : ∀ r w dc ds, Post' r w dc ds → G v l R Qf k (pc + 3) L (r.toList ++ st) w (cs + dc) (sl + ds)) (kx : ∀ E q w dc ds, XP' E q w dc ds → GT v l R Qf k pc L st E q w (cs + dc) (sl + ds)) :
    G v l R Qf k pc L (As.reverse ++ .ref b :: st) (va_pl P F) cs sl := by
  obtain ⟨q, hq⟩ := va_pl_get (X := []) (f := F) hb
  exact G_callVA (wr := []) hv cp d hw w2 w3 q (by rw [← he]; exact hq) hcl (List.range (va_pl P F).length) [] (gw_all _) rfl (r_nd _ List.nodup_range) rfl (fun i hi => nomatch hi) hcs hsl hcat kk kx
theorem Gw_callS (hv : gOk v) (cp : CtA v l y cc' nL' ret' fr' lo' mc' ms' As (va_pl P F) Post' XP') (d : decode k.1 pc = .ok (.invokestatic i, 3)) (hw : gCw v R k.2.2.1 i y cc' nL' ret' fr' lo' As.length) (w2 : Cond.static y ∈ v.2.2.2.2)
    (hcs : cs + mc' ≤ R.cells) (hsl : sl + ms' ≤ R.slots) (hcat : (st.map fun u => u.category).sum ≤ 8)
    (kk : ∀ r w dc ds, Post' r w dc ds → G v l R Qf k (pc + 3) L (r.toList ++ st) w (cs + dc) (sl + ds)) (kx : ∀ E q w dc ds, XP' E q w dc ds → GT v l R Qf k pc L st E q w (cs + dc) (sl + ds)) :
    G v l R Qf k pc L (As.reverse ++ st) (va_pl P F) cs sl :=
  G_callSA (wr := []) hv cp d hw w2 (List.range (va_pl P F).length) [] (gw_all _) rfl (r_nd _ List.nodup_range) rfl (fun i hi => nomatch hi) hcs hsl hcat kk kx
theorem Gw_callSN {host : String} (hv : gOk v) (cp : CtA v l y cc' nL' ret' fr' lo' mc' ms' As (va_pl P F) Post' gNA) (d : decode k.1 pc = .ok (.invokestatic i, 3)) (hw : gCn v R k.2.2.1 i y host cc' nL' ret' fr' lo' As.length) (w2 : Cond.static y ∈ v.2.2.2.2)
    (hcs : cs + mc' ≤ R.cells) (hsl : sl + ms' ≤ R.slots) (hcat : (st.map fun u => u.category).sum ≤ 8)
    (kk : ∀ r w dc ds, Post' r w dc ds → G v l R Qf k (pc + 3) L (r.toList ++ st) w (cs + dc) (sl + ds)) :
    G v l R Qf k pc L (As.reverse ++ st) (va_pl P F) cs sl :=
  G_callSNA (wr := []) hv cp d hw w2 (List.range (va_pl P F).length) [] (gw_all _) rfl (r_nd _ List.nodup_range) rfl (fun i hi => nomatch hi) hcs hsl hcat kk
/-- calls of methods that see some cells alone -/
theorem Gp_callV {as : List Nat} {ci N : Nat} {fs : List Value} {T : u_T} (hv : gOk v) (cp : CtA v l y cc' nL' ret' fr' lo' mc' ms' (.ref b :: As) wc Post' gNA) (hwc : va_pl as F = wc) (has : as.Nodup) (hsub : ∀ a ∈ as, a ∈ P) (d : decode k.1 pc = .ok (.invokevirtual i, 3)) (hw : gCw v R k.2.2.1 i y cc' nL' ret' fr' lo' As.length) (w2 : Cond.instanceMethod y ∈ v.2.2.2.2) (w3 : Cond.selects y.cls y y ∈ v.2.2.2.2)
    (hb : b ∈ P) (he : F b = .inr (ci, fs)) (hcl : v.2.1[ci]? = some (y.cls, T, N)) (hcs : cs + mc' ≤ R.cells) (hsl : sl + ms' ≤ R.slots) (hcat : (st.map fun u => u.category).sum ≤ 8)
    (kk : ∀ r w dc ds, Post' r w dc ds → ∀ P1 F1, rN P P1 F F1 as w → G v l R Qf k (pc + 3) L (r.toList ++ st) (va_pl P1 F1) (cs + dc) (sl + ds)) :
    G v l R Qf k pc L (As.reverse ++ .ref b :: st) (va_pl P F) cs sl := fun p e s m args below meth c A H locs ls C hP hD hS h => by
  obtain ⟨q, hq⟩ := va_pl_get (X := []) (f := F) hb
  obtain ⟨isC, isR, h1, h2, h3, h4, h5⟩ := rp_idx hD has hsub
  subst hwc
  exact G_callVA hv cp d hw w2 w3 q (by rw [← he]; exact hq) hcl isC isR h1 h2 h3 h4 h5 hcs hsl hcat (fun r w dc ds hp => Gp_re (kk r w dc ds hp)) (fun _ _ _ _ _ z => z.elim) p e s m args below meth c A H locs ls C hP hD hS h
theorem Gp_callS {as : List Nat} (hv : gOk v) (cp : CtA v l y cc' nL' ret' fr' lo' mc' ms' As wc Post' gNA) (hwc : va_pl as F = wc) (has : as.Nodup) (hsub : ∀ a ∈ as, a ∈ P) (d : decode k.1 pc = .ok (.invokestatic i, 3)) (hw : gCw v R k.2.2.1 i y cc' nL' ret' fr' lo' As.length) (w2 : Cond.static y ∈ v.2.2.2.2)
    (hcs : cs + mc' ≤ R.cells) (hsl : sl + ms' ≤ R.slots) (hcat : (st.map fun u => u.category).sum ≤ 8)
    (kk : ∀ r w dc ds, Post' r w dc ds → ∀ P1 F1, rN P P1 F F1 as w → G v l R Qf k (pc + 3) L (r.toList ++ st) (va_pl P1 F1) (cs + dc) (sl + ds)) :
    G v l R Qf k pc L (As.reverse ++ st) (va_pl P F) cs sl := fun p e s m args below meth c A H locs ls C hP hD hS h => by
  obtain ⟨isC, isR, h1, h2, h3, h4, h5⟩ := rp_idx hD has hsub
  subst hwc
  exact G_callSA hv cp d hw w2 isC isR h1 h2 h3 h4 h5 hcs hsl hcat (fun r w dc ds hp => Gp_re (kk r w dc ds hp)) (fun _ _ _ _ _ z => z.elim) p e s m args below meth c A H locs ls C hP hD hS h
theorem Gp_callI {as : List Nat} (hv : gOk v) (cp : CtA v l y cc' nL' none fr' lo' mc' ms' (.ref b :: As) wc Post' gNA) (hwc : va_pl as F = wc) (has : as.Nodup) (hsub : ∀ a ∈ as, a ∈ P) (d : decode k.1 pc = .ok (.invokespecial i, 3)) (hw : gCw v R k.2.2.1 i y cc' nL' none fr' lo' As.length) (w2 : Cond.instanceMethod y ∈ v.2.2.2.2) (hin : y.name = "<init>")
    (hcs : cs + mc' ≤ R.cells) (hsl : sl + ms' ≤ R.slots) (hcat : (st.map fun u => u.category).sum ≤ 8)
    (kk : ∀ r w dc ds, Post' r w dc ds → ∀ P1 F1, rN P P1 F F1 as w → G v l R Qf k (pc + 3) L (r.toList ++ st) (va_pl P1 F1) (cs + dc) (sl + ds)) :
    G v l R Qf k pc L (As.reverse ++ .ref b :: st) (va_pl P F) cs sl := fun p e s m args below meth c A H locs ls C hP hD hS h => by
  obtain ⟨isC, isR, h1, h2, h3, h4, h5⟩ := rp_idx hD has hsub
  subst hwc
  exact G_callIA hv cp d hw w2 hin isC isR h1 h2 h3 h4 h5 hcs hsl hcat (fun r w dc ds hp => Gp_re (kk r w dc ds hp)) p e s m args below meth c A H locs ls C hP hD hS h
theorem Gp_callIN {as : List Nat} {host : String} (hv : gOk v) (cp : CtA v l y cc' nL' none fr' lo' mc' ms' (.ref b :: As) wc Post' gNA) (hwc : va_pl as F = wc) (has : as.Nodup) (hsub : ∀ a ∈ as, a ∈ P) (d : decode k.1 pc = .ok (.invokespecial i, 3)) (hw : gCn v R k.2.2.1 i y host cc' nL' none fr' lo' As.length) (w2 : Cond.instanceMethod y ∈ v.2.2.2.2) (hin : y.name = "<init>")
    (hcs : cs + mc' ≤ R.cells) (hsl : sl + ms' ≤ R.slots) (hcat : (st.map fun u => u.category).sum ≤ 8)
    (kk : ∀ r w dc ds, Post' r w dc ds → ∀ P1 F1, rN P P1 F F1 as w → G v l R Qf k (pc + 3) L (r.toList ++ st) (va_pl P1 F1) (cs + dc) (sl + ds)) :
    G v l R Qf k pc L (As.reverse ++ .ref b :: st) (va_pl P F) cs sl := fun p e s m args below meth c A H locs ls C hP hD hS h => by
  obtain ⟨isC, isR, h1, h2, h3, h4, h5⟩ := rp_idx hD has hsub
  subst hwc
  exact G_callINA hv cp d hw w2 hin isC isR h1 h2 h3 h4 h5 hcs hsl hcat (fun r w dc ds hp => Gp_re (kk r w dc ds hp)) p e s m args below meth c A H locs ls C hP hD hS h
end GPC
