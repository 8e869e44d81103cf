abbrev gTx := Nat × (Nat → Int32)
/-- an object with field j set -/
def cF (e : va_E) (j : Nat) (v : Value) : va_E := match e with
  | .inr (c, vs) => .inr (c, vs.set j v)
  | .inl x => .inl x
