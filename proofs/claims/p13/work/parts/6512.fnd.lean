/-! what is given out: colours for names, slots shared -/
section FND
variable {R : gPg} {col sf : Nat → Int} {sl b j u t : Nat} {J : Nat → Nat → Prop} {l : Nat → Int}
def cM (col : Nat → Int) (x : Int) : Int := if 0 ≤ x then col x.toNat else x
def rmL (col : Nat → Int) (l : Nat → Int) : Nat → Int := fun f => if f = 1 ∨ f = 2 ∨ f = 4 then cM col (l f) else l f
def rmP (R : gPg) (col : Nat → Int) : gPg := (R.1, R.2.1, fun b j => rmL col (R.2.2.1 b j), R.2.2.2)
/-- the numbers of the first slots: each the least that none JOINED to it has -/
noncomputable def shN (J : Nat → Nat → Prop) : Nat → Nat → Int
  | 0 => fun _ => -1
  | t + 1 => fun u => if u = t then (lcl J (shN J t) t : Int) else shN J t u
def shL (sf : Nat → Int) (l : Nat → Int) : Nat → Int := fun f => if f = 5 ∧ (l 0 = 17 ∨ l 0 = 18) then sf (l 5).toNat else l f
def shP (R : gPg) (sf : Nat → Int) : gPg := (R.1, R.2.1, fun b j => shL sf (R.2.2.1 b j), R.2.2.2)
noncomputable def fnP (Z : gPg × (Nat → Int) × Nat) : gPg := shP (rmP Z.1 Z.2.1) (shN (Jn (rmP Z.1 Z.2.1) true 2000) Z.2.2)
/-- the slots that stand in R are below sl -/
def soO (R : gPg) (sl : Nat) : Prop := ∀ b j, b < R.1 → j < R.2.1 b → R.2.2.1 b j 0 = 17 ∨ R.2.2.1 b j 0 = 18 → 0 ≤ R.2.2.1 b j 5 ∧ R.2.2.1 b j 5 < (sl : Int)
theorem soO_rm (h : soO R sl) : soO (rmP R col) sl := h
theorem shN_e : shN J (t + 1) t = (lcl J (shN J t) t : Int) := if_pos rfl
theorem shN_n (h : u ≠ t) : shN J (t + 1) u = shN J t u := if_neg h
theorem shN_hi : ∀ t, t ≤ u → shN J t u = -1
  | 0, _ => rfl
  | t + 1, h => by rw [shN_n (show u ≠ t by omega)]; exact shN_hi t (by omega)
theorem Jn_N {N M v : Nat} {s : Bool} (hv : v < N) (hu : u < N) (hv2 : v < M) (hu2 : u < M) (h : Jn R s M v u) : Jn R s N v u := by
  obtain ⟨b, j, q1, q2, q3⟩ := h
  refine ⟨b, j, q1, q2, ?_⟩
  rcases q3 with ⟨_, _, q⟩ | ⟨_, _, q⟩
  · exact Or.inl ⟨hv, hu, q⟩
  · exact Or.inr ⟨hu, hv, q⟩
/-- the least number that none of those before has -/
theorem shN_l {g : Nat → Int} {c : Nat} (hg : ∀ u, u < t → g u = shN J t u) (hb : ∀ u, u < t → g u ≤ (u : Int)) (hc : c ≤ t) (h1 : ∀ d, d < c → ∃ u, u < t ∧ g u = (d : Int) ∧ J t u) (h2 : c < t → ∀ u, u < t → g u = (c : Int) → ¬ J t u) : lcl J (shN J t) t = c := by
  refine lcl_e ⟨fun u hu e => ?_, fun d hd => ?_⟩
  · by_cases q : u < t
    · rw [← hg u q] at e
      by_cases z : c < t
      · exact h2 z u q e hu
      · have := hb u q
        omega
    · rw [shN_hi t (by omega)] at e
      omega
  · obtain ⟨u, q1, q2, q3⟩ := h1 d hd
    exact ⟨u, q3, by rw [← hg u q1]; exact q2⟩
theorem rmL_0 : rmL col l 0 = l 0 := rfl
theorem rmL_1 : rmL col l 1 = cM col (l 1) := rfl
theorem rmL_2 : rmL col l 2 = cM col (l 2) := rfl
theorem rmL_3 : rmL col l 3 = l 3 := rfl
theorem rmL_4 : rmL col l 4 = cM col (l 4) := rfl
theorem rmL_5 : rmL col l 5 = l 5 := rfl
theorem shL_n {f : Nat} (h : f ≠ 5) : shL sf l f = l f := if_neg (fun z => h z.1)
theorem shL_5 (h : l 0 = 17 ∨ l 0 = 18) : shL sf l 5 = sf (l 5).toNat := if_pos ⟨rfl, h⟩
theorem shL_5n (h : ¬ (l 0 = 17 ∨ l 0 = 18)) : shL sf l 5 = l 5 := if_neg (fun z => h z.2)
end FND
