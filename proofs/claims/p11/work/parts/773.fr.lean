/-- the cell that a field names -/
def fR (e : va_E) (k : Nat) : Nat := match e with
  | .inr (_, fs) => (match fs[k]? with | some (.ref x) => x | _ => 0)
  | _ => 0
