/-! fields of a class above, named by the class itself -/
section GSAME
variable {v : gEnv} {l : Launch} {R : Room} {Qf : gFin} {k : gKey} {pc : Nat} {L : List (Nat × Value)} {st : List Value} {P : List Nat} {F : Nat → va_E} {cs sl : Nat}
variable {a ci N i : Nat} {fs : List Value} {x : Value} {C ref : String} {T : u_T} {ty : Nat → FieldType}
theorem Gp_getS (f : Nat) (ha : a ∈ P) (he : F a = .inr (ci, fs)) (d : decode k.1 pc = .ok (.getfield i, 3)) (hc : gK v ci C T N ty) (hf : f < N) (hl : Cond.fieldLink k.2.2.1 i ref (T f).2.1 (T f).2.2.1 ∈ v.2.2.2.2) (hs : Cond.sameField ref (T f).1 (T f).2.1 (T f).2.2.1 ∈ v.2.2.2.2) (hx : fs[f]? = some x)
    (n : G v l R Qf k (pc + 3) L (x :: st) (va_pl P F) cs sl) : G v l R Qf k pc L (.ref a :: st) (va_pl P F) cs sl := fun p e s m args below meth c A H locs ls C hP hD hS h => by
  obtain ⟨h1, h2, h3, h4, h5, h6, h7, h8, h9, h10, h11, h12, h13⟩ := id C
  obtain ⟨q, hq⟩ := va_pl_get (X := []) (f := F) ha
  rw [he] at hq
  exact va_get h1 h2 h8 hc.2.1 h4 h10 hP q hq hc.1 f hf (h8 _ hl) (u_same (h8 _ hs)) hx d (n p e s m args below meth c A H locs ls C hP hD hS h)
theorem Gp_putS (f : Nat) (ha : a ∈ P) (he : F a = .inr (ci, fs)) (d : decode k.1 pc = .ok (.putfield i, 3)) (hc : gK v ci C T N ty) (hf : f < N) (hl : Cond.fieldLink k.2.2.1 i ref (T f).2.1 (T f).2.2.1 ∈ v.2.2.2.2) (hs : Cond.sameField ref (T f).1 (T f).2.1 (T f).2.2.1 ∈ v.2.2.2.2) (hfin : (T f).2.2.2 = false) (hn : narrow (ty f) x = x) (hfit : fits (ty f) x = true) (hlen : f < fs.length)
    (n : ∀ F1 : Nat → va_E, F1 a = .inr (ci, fs.set f x) → (∀ b, b ≠ a → F1 b = F b) → G v l R Qf k (pc + 3) L st (va_pl P F1) cs sl) : G v l R Qf k pc L (x :: .ref a :: st) (va_pl P F) cs sl := fun p e s m args below meth c A H locs ls C hP hD hS h => by
  obtain ⟨h1, h2, h3, h4, h5, h6, h7, h8, h9, h10, h11, h12, h13⟩ := id C
  obtain ⟨q, hq⟩ := va_pl_get (X := []) (f := F) ha
  have hset := va_pl_set (X := []) (e := .inr (ci, fs.set f x)) hD ha hq
  rw [List.nil_append] at hset
  rw [he] at hq
  refine va_put h1 h2 h8 hc.2.1 ty hc.2.2.1 hc.2.2.2 h4 h10 hP hD hS q hq hc.1 f hf (h8 _ hl) (u_same (h8 _ hs)) hfin (hc.2.2.1 f hf) hn hfit hlen d (fun H1 locs1 hP1 hD1 hS1 => ?_)
  rw [hset] at hP1 hD1
  exact n _ (va_up_self _ _ _) (fun b hb => va_up_ne _ _ hb) p e s m args below meth c A H1 locs1 ls C hP1 hD1 hS1 h
end GSAME
