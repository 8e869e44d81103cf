/-! an address of the pool is none of a literal's -/
section GKNE
variable {v : gEnv} {l : Launch} {R : Room} {Qf : gFin} {k : gKey} {pc : Nat} {L : List (Nat × Value)} {st : List Value} {X : va_W} {P : List Nat} {F : Nat → va_E} {cs sl a b : Nat} {x : Value}
theorem G_pkne {o n0 d0 : String} (ha : a ∈ P) (hE : ∀ A s H, v.2.2.2.1 A s H → va_OF o n0 d0 x b A s H) (n : a ≠ b → G v l R Qf k pc L st (X ++ va_pl P F) cs sl) : G v l R Qf k pc L st (X ++ va_pl P F) cs sl := fun p e s m args below meth c A H locs ls C hP hD hS h => by
  obtain ⟨h1, h2, h3, h4, h5, h6, h7, h8, h9, h10, h11, h12, h13⟩ := id C
  obtain ⟨q, hq⟩ := va_pl_get (X := X) (f := F) ha
  have g1 : A a := hD.2 q _ hq
  obtain ⟨_, _, _, _, _, _, _, _, _, _, g2⟩ := hE _ _ _ h12
  exact n (fun e' => g2 (e' ▸ g1)) p e s m args below meth c A H locs ls C hP hD hS h
end GKNE
