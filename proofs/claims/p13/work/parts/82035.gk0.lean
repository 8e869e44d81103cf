/-! the same where the world is the pool alone -/
section GKN0
variable {v : gEnv} {l : Launch} {R : Room} {Qf : gFin} {k : gKey} {pc : Nat} {L : List (Nat × Value)} {st : List Value} {P : List Nat} {F : Nat → va_E} {cs sl a b : Nat} {x : Value}
theorem G_pkne0 {o n0 d0 : String} (ha : a ∈ P) (hE : ∀ A s H, v.2.2.2.1 A s H → va_OF o n0 d0 x b A s H) (n : a ≠ b → G v l R Qf k pc L st (va_pl P F) cs sl) : G v l R Qf k pc L st (va_pl P F) cs sl :=
  G_pkne (X := []) ha hE n
end GKN0
