/-! giveAll: names over calls that leave the rows; the colouring of the rows -/
section RGA
variable {D : va_G} {I : FieldType → ClassId} {P P1 : List Nat} {F F1 : Nat → va_E} {γ el γ1 el1 : Nat → Nat → Nat} {f c i j b j1 b1 x n : Nat} {R : Nat → Nat → va_E → Prop} {W : List Nat} {g : Nat → Int32} {s : Int}
theorem rPl_str (hT : RS D I P F γ el) (hc : γ 0 c = 9) (hcf : γ 1 c = f) (hs : rStr γ W F F1) (hW : 1 ∉ W) (h : rPl γ el F c (γ 6 f) R) : rPl γ el F1 c (γ 6 f) R := rPl_fr hT hc hcf h (fun a ha _ => hs a (by omega) (by omega) (by rw [ha]; exact hW))
theorem rNI_str (hT : RS D I P F γ el) (hc : γ 0 c = 9) (hcf : γ 1 c = f) (hs : rStr γ W F F1) (hW : 1 ∉ W) (h : rNI γ el F c (γ 6 f) s) : rNI γ el F1 c (γ 6 f) s := by
  obtain ⟨g, h1, h2⟩ := h
  exact ⟨g, rPl_str hT hc hcf hs hW h1, h2⟩
theorem rNI_put {a k : Nat} (hT : RS D I P F γ el) (hc : γ 0 c = 9) (hcf : γ 1 c = f) (hn : ∀ z, z ≠ a → F1 z = F z) (hk : rKd γ a k) (h1 : k ≠ 1) (h : rNI γ el F c (γ 6 f) s) : rNI γ el F1 c (γ 6 f) s := by
  obtain ⟨g, q1, h2⟩ := h
  exact ⟨g, rPl_fr hT hc hcf q1 (fun z hz _ => hn z (rn_ty (show rKd γ z 1 from hz) hk (fun e => h1 e.symm))), h2⟩
theorem rNI_mg {F0 : Nat → va_E} {γ0 el0 : Nat → Nat → Nat} (hm : ∀ N : Nat → Prop, rPl γ0 el0 F0 c (γ0 6 f) (fun _ _ => rNx N) → rPl γ el F c (γ 6 f) (fun _ _ => rNx N)) (h : rNI γ0 el0 F0 c (γ0 6 f) s) : rNI γ el F c (γ 6 f) s := by
  obtain ⟨g, q1, h2⟩ := h
  exact ⟨g, hm _ q1, h2⟩
theorem rNI_s {s1 : Int} (h : rNI γ el F c n s) (e : s1 = s) : rNI γ el F c n s1 := by rw [e]; exact h
theorem gq_str {v : Nat → Nat → Prop} (hT : RS D I P F γ el) (hc : γ 0 c = 9) (hcf : γ 1 c = f) (hs : rStr γ W F F1) (hW : 1 ∉ W) (h : rGr γ el F c (γ 6 f) g v) : rGr γ el F1 c (γ 6 f) g v := by
  have e : ∀ i j, i < γ 6 f → F1 (rAt γ el c i j) = F (rAt γ el c i j) := fun i j hi => by
    obtain ⟨k1, k2⟩ := rAt_k (j := j) hT hc hcf hi
    exact hs _ (by omega) (by omega) (by rw [k1]; exact hW)
  refine ⟨fun i hi j hj z => ?_, fun m hm => ?_⟩
  · rw [e i j hi]
    exact h.1 i hi j hj z
  · obtain ⟨i, j, hi, hj, q⟩ := h.2 m hm
    exact ⟨i, j, hi, hj, by rw [e i j hi]; exact q⟩
/-- rows not coloured yet have names with colours -/
def cqR (h : Nat → Int32) (b j : Nat) (i j' : Nat) (e : va_E) : Prop := (b < i ∨ (i = b ∧ j ≤ j')) → rNm (fun m => 0 ≤ (h m).toInt) e
theorem cq_0 {h : Nat → Int32} (hg : rGr γ el F c n g (vA n)) (hc : ∀ m, rSd g m → 0 ≤ (h m).toInt) : rPl γ el F c n (cqR h 0 0) := fun i hi j hj _ => rNm_mono hc (hg.1 i hi j hj hi)
theorem cq_at {h : Nat → Int32} (hp : rPl γ el F c n (cqR h b j)) (hx : rAt γ el c b j = x) (hb : b < n) (hj : j ≤ γ 2 (rwL γ el c b)) : rNm (fun m => 0 ≤ (h m).toInt) (F x) := by
  have z := hp b hb j hj (Or.inr ⟨rfl, Nat.le_refl _⟩)
  rw [hx] at z
  exact z
theorem cq_put {h : Nat → Int32} (hT : RS D I P F γ el) (hc : γ 0 c = 9) (hcf : γ 1 c = f) (hp : rPl γ el F c (γ 6 f) (cqR h b j)) (hn : ∀ z, z ≠ x → F1 z = F z) (hx : rAt γ el c b j = x) (hb : b < γ 6 f) (hj : j ≤ γ 2 (rwL γ el c b)) (h1 : j1 = j + 1) : rPl γ el F1 c (γ 6 f) (cqR h b j1) := by
  subst h1
  exact rPl_put hT hc hcf hp hn hx hb hj (fun i j' e hne z q => z (by omega)) (fun q => by omega)
theorem cq_nx {h : Nat → Int32} (hp : rPl γ el F c n (cqR h b j)) (hb : b1 = b + 1) : rPl γ el F c n (cqR h b1 0) := by
  subst hb
  exact rPl_mono hp (fun i j' e _ _ z q => z (by omega))
end RGA
