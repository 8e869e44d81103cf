/-- the blocks to which ways of E lead from S without those of N -/
def Wk (E : Nat → Nat → Prop) (S N : Nat → Prop) (b : Nat) : Prop := ∀ R : Nat → Prop, (∀ b, S b → ¬ N b → R b) → (∀ a b, R a → E a b → ¬ N b → R b) → R b
def WT (E : Nat → Nat → Prop) (S N : Nat → Prop) : Nat → Nat → Prop
  | 0, b => S b ∧ ¬ N b
  | p + 1, b => WT E S N p b ∨ ∃ a, WT E S N p a ∧ E a b ∧ ¬ N b
section LO
variable {E : Nat → Nat → Prop} {S N : Nat → Prop}
theorem Wk_i {b : Nat} (h : S b) (h2 : ¬ N b) : Wk E S N b := fun _ c1 _ => c1 b h h2
theorem Wk_s {a b : Nat} (h : Wk E S N a) (h2 : E a b) (h3 : ¬ N b) : Wk E S N b := fun R c1 c2 => c2 a b (h R c1 c2) h2 h3
theorem Wk_e {b : Nat} (h : Wk E S N b) : ¬ N b ∧ (S b ∨ ∃ a, Wk E S N a ∧ E a b) := by
  have q := h (fun b => Wk E S N b ∧ ¬ N b ∧ (S b ∨ ∃ a, Wk E S N a ∧ E a b)) (fun b h1 h2 => ⟨Wk_i h1 h2, h2, Or.inl h1⟩) (fun a b h1 h2 h3 => ⟨Wk_s h1.1 h2 h3, h3, Or.inr ⟨a, h1.1, h2⟩⟩)
  exact q.2
theorem WT_so : ∀ p b, WT E S N p b → Wk E S N b
  | 0, _, h => Wk_i h.1 h.2
  | p + 1, b, h => h.elim (WT_so p b) (fun ⟨a, h1, h2, h3⟩ => Wk_s (WT_so p a h1) h2 h3)
theorem WT_0 : ∀ p b, S b → ¬ N b → WT E S N p b
  | 0, _, h, h2 => ⟨h, h2⟩
  | p + 1, b, h, h2 => Or.inl (WT_0 p b h h2)
/-- nothing comes any more: it is all -/
theorem WT_cl {p : Nat} (h : ∀ b, WT E S N (p + 1) b → WT E S N p b) (b : Nat) : WT E S N p b ↔ Wk E S N b :=
  ⟨WT_so p b, fun w => w (WT E S N p) (fun b h1 h2 => WT_0 p b h1 h2) (fun a b h1 h2 h3 => h b (Or.inr ⟨a, h1, h2, h3⟩))⟩
theorem WT_n {n : Nat} (hS : ∀ b, S b → b < n) (hE : ∀ a b, E a b → b < n) (b : Nat) : WT E S N n b ↔ Wk E S N b := by
  have hb : ∀ p b, WT E S N p b → b < n := fun p => by
    induction p with
    | zero => exact fun b h => hS b h.1
    | succ p ih => exact fun b h => h.elim (ih b) (fun ⟨a, _, h2, _⟩ => hE a b h2)
  refine WT_cl (fun b h => ?_) b
  exact chn_st (WT E S N) n (fun p b h => Or.inl h) (fun p hp b _ h => by
    rcases h with h | ⟨a, h1, h2, h3⟩
    · exact h
    · exact Or.inr ⟨a, hp a (hb (p + 1) a h1) h1, h2, h3⟩) b (hb (n + 1) b h) h
theorem Wk_c {E' : Nat → Nat → Prop} {S' N' : Nat → Prop} {b : Nat} (hE : ∀ a b, E a b → E' a b) (hS : ∀ b, S b → S' b) (hN : ∀ b, N' b → N b) (h : Wk E S N b) : Wk E' S' N' b := fun R c1 c2 => h R (fun b h1 h2 => c1 b (hS b h1) (fun z => h2 (hN b z))) (fun a b h1 h2 h3 => c2 a b h1 (hE a b h2) (fun z => h3 (hN b z)))
end LO
/-- the ways of a program, its blocks that are reached, those that close a loop of h, the loop, the depth -/
def Ed (P : gPg) (a b : Nat) : Prop := a < P.1 ∧ ∃ i : Nat, i < 2 ∧ P.2.2.2 a i = (b : Int)
def rAll (P : gPg) (b : Nat) : Prop := Wk (Ed P) (fun b => b = 0) (fun _ => False) b
def clo (P : gPg) (h c : Nat) : Prop := Ed P c h ∧ rAll P c ∧ ¬ Wk (Ed P) (fun b => b = 0) (fun b => b = h) c
def InL (P : gPg) (h b : Nat) : Prop := (∃ c, clo P h c) ∧ (b = h ∨ Wk (fun a b => Ed P b a) (clo P h) (fun b => b = h ∨ ¬ rAll P b) b)
noncomputable def dpt (P : gPg) (b : Nat) : Nat := min 4 (cntP (fun h => InL P h b) P.1)
