/-! G over worlds with a pool: X ++ va_pl P F, P the addresses, F the cell at each -/
section GPOOL
variable {v : gEnv} {l : Launch} {R : Room} {Qf : gFin} {k : gKey} {pc : Nat} {L : List (Nat × Value)} {st : List Value} {X : va_W} {P : List Nat} {F : Nat → va_E} {cs sl : Nat}
variable {a ci N i : Nat} {fs : List Value} {x : Value} {C : String} {T : u_T} {ty : Nat → FieldType}
theorem G_pget (f : Nat) (ha : a ∈ P) (he : F a = .inr (ci, fs)) (d : decode k.1 pc = .ok (.getfield i, 3)) (hc : gK v ci C T N ty) (hf : f < N) (hl : Cond.fieldLink k.2.2.1 i (T f).1 (T f).2.1 (T f).2.2.1 ∈ v.2.2.2.2) (hx : fs[f]? = some x)
    (n : G v l R Qf k (pc + 3) L (x :: st) (X ++ va_pl P F) cs sl) : G v l R Qf k pc L (.ref a :: st) (X ++ va_pl P F) cs sl := by
  obtain ⟨q, hq⟩ := va_pl_get (X := X) (f := F) ha
  exact G_getf q f d (by rw [hq, he]) hc hf hl hx n
theorem G_pgetN {host : String} (f : Nat) (ha : a ∈ P) (he : F a = .inr (ci, fs)) (d : decode k.1 pc = .ok (.getfield i, 3)) (hc : gK v ci C T N ty) (hf : f < N) (hl : ∀ A s H, v.2.2.2.1 A s H → va_Nw (.fieldLinkNest k.2.2.1 i (T f).1 (T f).2.1 (T f).2.2.1 host) s) (hx : fs[f]? = some x)
    (n : G v l R Qf k (pc + 3) L (x :: st) (X ++ va_pl P F) cs sl) : G v l R Qf k pc L (.ref a :: st) (X ++ va_pl P F) cs sl := by
  obtain ⟨q, hq⟩ := va_pl_get (X := X) (f := F) ha
  exact G_getfN q f d (by rw [hq, he]) hc hf hl hx n
theorem G_pput (f : Nat) (ha : a ∈ P) (he : F a = .inr (ci, fs)) (d : decode k.1 pc = .ok (.putfield i, 3)) (hc : gK v ci C T N ty) (hf : f < N) (hl : Cond.fieldLink k.2.2.1 i (T f).1 (T f).2.1 (T f).2.2.1 ∈ v.2.2.2.2) (hfin : (T f).2.2.2 = false) (hn : narrow (ty f) x = x) (hfit : fits (ty f) x = true) (hlen : f < fs.length)
    (n : G v l R Qf k (pc + 3) L st (X ++ va_pl P (va_up F a (.inr (ci, fs.set f x)))) cs sl) : G v l R Qf k pc L (x :: .ref a :: st) (X ++ va_pl P F) cs sl := fun p e s m args below meth c A H locs ls C hP hD hS h => by
  obtain ⟨q, hq⟩ := va_pl_get (X := X) (f := F) ha
  exact G_putf q f d (by rw [hq, he]) hc hf hl hfin hn hfit hlen (va_pl_set hD ha hq) n p e s m args below meth c A H locs ls C hP hD hS h
theorem G_pputN {host : String} (f : Nat) (ha : a ∈ P) (he : F a = .inr (ci, fs)) (d : decode k.1 pc = .ok (.putfield i, 3)) (hc : gK v ci C T N ty) (hf : f < N) (hl : ∀ A s H, v.2.2.2.1 A s H → va_Nw (.fieldLinkNest k.2.2.1 i (T f).1 (T f).2.1 (T f).2.2.1 host) s) (hfin : (T f).2.2.2 = false) (hn : narrow (ty f) x = x) (hfit : fits (ty f) x = true) (hlen : f < fs.length)
    (n : G v l R Qf k (pc + 3) L st (X ++ va_pl P (va_up F a (.inr (ci, fs.set f x)))) cs sl) : G v l R Qf k pc L (x :: .ref a :: st) (X ++ va_pl P F) cs sl := fun p e s m args below meth c A H locs ls C hP hD hS h => by
  obtain ⟨q, hq⟩ := va_pl_get (X := X) (f := F) ha
  exact G_putfN q f d (by rw [hq, he]) hc hf hl hfin hn hfit hlen (va_pl_set hD ha hq) n p e s m args below meth c A H locs ls C hP hD hS h
/-- a cell made behind the pool goes into it -/
theorem G_pin {q : Nat} {e : va_E} (n : G v l R Qf k pc L st (X ++ va_pl (P ++ [q]) (va_up F q e)) cs sl) : G v l R Qf k pc L st ((X ++ va_pl P F) ++ [(q, e)]) cs sl := fun p e' s m args below meth c A H locs ls C hP hD hS h => by
  have hq : q ∉ P := fun hm => by
    obtain ⟨j, hj⟩ := va_pl_get (X := X) (f := F) hm
    have hlt := (List.getElem?_eq_some_iff.mp hj).1
    have h1 : ((X ++ va_pl P F) ++ [(q, e)])[j]? = some (q, F q) := by rw [List.getElem?_append_left hlt]; exact hj
    have h2 : ((X ++ va_pl P F) ++ [(q, e)])[(X ++ va_pl P F).length]? = some (q, e) := by rw [List.getElem?_append_right (Nat.le_refl _), Nat.sub_self]; rfl
    have h3 := hD.1 j _ _ _ h1 h2 rfl
    omega
  have hw : (X ++ va_pl P F) ++ [(q, e)] = X ++ va_pl (P ++ [q]) (va_up F q e) := by rw [List.append_assoc, va_pl_push hq]
  rw [hw] at hP hD
  exact n p e' s m args below meth c A H locs ls C hP hD hS h
/-- the places of some fixed cells and of the whole pool, for a call -/
theorem r_places {X cx W : va_W} (is : List Nat) (hs : is.map (fun i => X[i]?) = cx.map some) : (is ++ (List.range W.length).map (fun j => X.length + j)).map (fun i => (X ++ W)[i]?) = (cx ++ W).map some := by
  have hlt : ∀ i ∈ is, i < X.length := fun i hi => by
    have h1 : X[i]? ∈ is.map (fun i => X[i]?) := List.mem_map.mpr ⟨i, hi, rfl⟩
    rw [hs] at h1
    obtain ⟨q, -, hq⟩ := List.mem_map.mp h1
    exact (List.getElem?_eq_some_iff.mp hq.symm).1
  rw [List.map_append, List.map_append, ← hs, List.map_map]
  congr 1
  · apply List.map_congr_left
    intro i hi
    exact List.getElem?_append_left (hlt i hi)
  · apply List.ext_getElem?
    intro j
    simp only [List.getElem?_map]
    by_cases h : j < W.length
    · rw [List.getElem?_range h, List.getElem?_eq_getElem h]
      show some ((X ++ W)[X.length + j]?) = some (some W[j])
      rw [List.getElem?_append_right (Nat.le_add_right _ _), Nat.add_sub_cancel_left, List.getElem?_eq_getElem h]
    · rw [List.getElem?_eq_none (by simpa using Nat.le_of_not_lt h), List.getElem?_eq_none (Nat.le_of_not_lt h)]
      rfl
theorem r_nd : ∀ l : List Nat, l.Nodup → va_nd l = true
  | [], _ => rfl
  | a :: l, h => by
    rw [va_nd, Bool.and_eq_true]
    exact ⟨decide_eq_true (List.nodup_cons.mp h).1, r_nd l (List.nodup_cons.mp h).2⟩
end GPOOL
