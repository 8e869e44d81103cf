/-! multianewarray with its rows, in a pool -/
theorem va_Dn {A : Nat → Prop} {ws new : va_W} {D : va_G} {cl : List vw_C} {H : Heap} (hD : va_D A ws) (hP : va_P D cl ws H) (hn : ∀ (k : Nat) (q : Nat × va_E), new[k]? = some q → q.1 = H.size + k) (hA : ∀ a, H.size ≤ a → A a) : va_D A (ws ++ new) := by
  have key : ∀ (k : Nat) (q : Nat × va_E), (ws ++ new)[k]? = some q → (ws[k]? = some q ∧ q.1 < H.size) ∨ (ws.length ≤ k ∧ q.1 = H.size + (k - ws.length)) := by
    intro k q hk
    by_cases hl : k < ws.length
    · rw [List.getElem?_append_left hl] at hk
      exact Or.inl ⟨hk, (hP k q hk).lt⟩
    · rw [List.getElem?_append_right (by omega)] at hk
      exact Or.inr ⟨by omega, hn _ _ hk⟩
  refine ⟨fun i j x y hi hj hxy => ?_, fun k q hk => ?_⟩
  · rcases key i x hi with ⟨h1, l1⟩ | ⟨h1, l1⟩ <;> rcases key j y hj with ⟨h2, l2⟩ | ⟨h2, l2⟩
    · exact hD.1 i j x y h1 h2 hxy
    · omega
    · omega
    · omega
  · rcases key k q hk with ⟨h1, _⟩ | ⟨_, l1⟩
    · exact hD.2 k q h1
    · rw [l1]; exact hA _ (by omega)
/-- what multianewarray makes: the array of rows at q, its rows behind it -/
def mnL (cA cB : ClassId) (q N K : Nat) : va_W := (q, .inl (cA, N, .inr (.inr (.inr (.inr (fun i => if i < N then some (q + 1 + i) else none)))))) :: (List.range N).map (fun i => (q + 1 + i, (.inl (cB, K, .inr (.inl (fun _ => 0))) : va_E)))
theorem mnL_at {cA cB : ClassId} {q N K k : Nat} {x : Nat × va_E} (h : (mnL cA cB q N K)[k]? = some x) : (k = 0 ∧ x = (q, .inl (cA, N, .inr (.inr (.inr (.inr (fun i => if i < N then some (q + 1 + i) else none))))))) ∨ ∃ j, k = j + 1 ∧ j < N ∧ x = (q + 1 + j, .inl (cB, K, .inr (.inl (fun _ => 0)))) := by
  unfold mnL at h
  cases k with
  | zero => exact Or.inl ⟨rfl, (Option.some.inj h).symm⟩
  | succ j =>
    rw [List.getElem?_cons_succ, List.getElem?_map] at h
    by_cases hj : j < N
    · rw [List.getElem?_range hj] at h
      exact Or.inr ⟨j, rfl, hj, (Option.some.inj h).symm⟩
    · rw [List.getElem?_eq_none (by rw [List.length_range]; omega)] at h
      cases h
theorem gm_outV (cO : ClassId) (N h0 : Nat) : gm_out cO N h0 N = vp_cell cO (N, .inr (.inr (.inr (.inr (fun i => if i < N then some (h0 + 1 + i) else none))))) := by
  show _ = arrV cO N (fun j => va_rf (if j < N then some (h0 + 1 + j) else none))
  unfold gm_out arrV
  congr 2
  funext j
  show (if j.val < N then Value.ref (h0 + 1 + j.val) else Value.null) = va_rf (if j.val < N then some (h0 + 1 + j.val) else none)
  rw [if_pos j.isLt, if_pos j.isLt]
  rfl
theorem gm_inV (cI : ClassId) (K : Nat) : gm_in cI K (defaultValue .long) = vp_cell cI (K, .inr (.inl (fun _ => 0))) := by
  show _ = arrV cI K (fun _ => .long 0)
  unfold gm_in arrV
  congr 1
  apply Array.ext
  · simp
  · intro i h1 h2
    simp [defaultValue]
section GMN
variable {v : gEnv} {l : Launch} {R : Room} {Qf : gFin} {k : gKey} {pc : Nat} {L : List (Nat × Value)} {st : List Value} {ws : va_W} {cs sl i : Nat}
theorem G_mna {cA cB : ClassId} {z w : Int32} {N K : Nat} (t t2 : Nat) (d : decode k.1 pc = .ok (.multianewarray i 2, 4)) (w1 : Cond.classLink k.2.2.1 i ("[" ++ (FieldType.array .long).toString) ∈ v.2.2.2.2) (hE : ∀ A s H, v.2.2.2.1 A s H → gAr .long s) (w3 : Cond.arrayClass .long ∈ v.2.2.2.2)
    (ht : v.2.2.1[t]? = some (cA, .array .long)) (ht2 : v.2.2.1[t2]? = some (cB, .long)) (hN : z.toNatClampNeg = N) (hK : w.toNatClampNeg = K) (hz : ¬ z < 0) (hw : ¬ w < 0) (hb1 : N * 4 ≤ 536870912) (hb2 : K * 8 ≤ 536870912) (hcs : cs + (1 + N) ≤ R.cells) (hsl : sl + (N + N * K) ≤ R.slots)
    (n : ∀ q : Nat, G v l R Qf k (pc + 4) L (.ref q :: st) (ws ++ mnL cA cB q N K) (cs + 1 + N) (sl + N + N * K)) : G v l R Qf k pc L (.int w :: .int z :: st) ws cs sl := fun p e s m args below meth c A H locs ls C hP hD hS h => by
  obtain ⟨h1, h2, h3, h4, h5, h6, h7, h8, h9, h10, h11, h12, h13⟩ := id C
  refine gm_mna h1 h2 h4 (h8 _ w1) (hE _ _ _ h12) (h8 _ w3) hN hK hz hw hb1 hb2 (by omega) rfl rfl hcs hsl d (fun cO cI cz kO kI f1 f2 f3 f4 f5 f6 => ?_)
  have hA : s.vm.findClass ("[" ++ (FieldType.array .long).toString) = some cA := (h10.2 t _ ht).2
  have hB : s.vm.findClass (FieldType.array .long).toString = some cB := (h10.2 t2 _ ht2).2
  have e1 : cO = cA := Option.some.inj (f1.symm.trans hA)
  have e2 : cI = cB := Option.some.inj (f2.symm.trans hB)
  subst e1 e2
  have hold : ∀ q : Nat, q < H.size → (H.push (gm_out cO N H.size N) ++ Array.replicate N (gm_in cI K (defaultValue .long)))[q]? = H[q]? := fun q hq => by
    rw [Array.getElem?_append_left (by simp; omega), Array.getElem?_push, if_neg (by omega)]
  have hout : (H.push (gm_out cO N H.size N) ++ Array.replicate N (gm_in cI K (defaultValue .long)))[H.size]? = some (gm_out cO N H.size N) := by
    rw [Array.getElem?_append_left (by simp), Array.getElem?_push, if_pos rfl]
  have hin : ∀ j : Nat, j < N → (H.push (gm_out cO N H.size N) ++ Array.replicate N (gm_in cI K (defaultValue .long)))[H.size + 1 + j]? = some (gm_in cI K (defaultValue .long)) := fun j hj => by
    rw [Array.getElem?_append_right (by simp), Array.getElem?_replicate]
    rw [if_pos (by simp; omega)]
  refine n H.size p e s m args below meth c A _ locs ls C ((hP.kept (fun j x hx => hold _ (hP j x hx).lt)).app (fun j x hx => ?_)) (va_Dn hD hP (fun j x hx => ?_) (fun a ha => h11 a (Nat.le_trans hS.1 ha))) ⟨Nat.le_trans hS.1 (by simp; omega), fun q g1 g2 => (hold q (Nat.lt_of_lt_of_le g1 hS.1)).trans (hS.2.1 q g1 g2), hS.2.2⟩ h
  · rcases mnL_at hx with ⟨-, rfl⟩ | ⟨j', -, hj', rfl⟩
    · exact hout.trans (by rw [gm_outV])
    · exact (hin j' hj').trans (by rw [gm_inV])
  · rcases mnL_at hx with ⟨q0, rfl⟩ | ⟨j', q0, hj', rfl⟩
    · rw [q0]; rfl
    · show H.size + 1 + j' = H.size + j
      omega
end GMN
section GPN
variable {v : gEnv} {l : Launch} {R : Room} {Qf : gFin} {k : gKey} {pc : Nat} {L : List (Nat × Value)} {st : List Value} {P : List Nat} {F : Nat → va_E} {cs sl : Nat}
/-- cells made behind the pool go into it -/
theorem Gp_inL {w : va_W} (n : ∀ (P1 : List Nat) (F1 : Nat → va_E), (∀ q, q ∈ w.map Prod.fst → q ∉ P) → (∀ b, b ∈ P1 ↔ b ∈ P ∨ b ∈ w.map Prod.fst) → (∀ x, x ∈ w → F1 x.1 = x.2) → (∀ b, b ∉ w.map Prod.fst → F1 b = F b) → G v l R Qf k pc L st (va_pl P1 F1) cs sl) : G v l R Qf k pc L st (va_pl P F ++ w) cs sl := by
  have h0 : P.filter (fun b => decide (b ∉ ([] : List Nat))) = P := by
    rw [List.filter_eq_self]
    intro b _
    exact decide_eq_true (List.not_mem_nil)
  have h1 : G v l R Qf k pc L st (va_pl (P.filter (fun b => decide (b ∉ ([] : List Nat)))) F ++ w) cs sl := by
    refine Gp_re (fun P1 F1 h => n P1 F1 (fun q hq => h.2.1 q hq List.not_mem_nil) (fun b => ?_) h.2.2.1 h.2.2.2)
    rw [h.1 b]
    constructor
    · rintro (⟨g, -⟩ | g)
      · exact Or.inl g
      · exact Or.inr g
    · rintro (g | g)
      · exact Or.inl ⟨g, List.not_mem_nil⟩
      · exact Or.inr g
  rw [h0] at h1
  exact h1
end GPN
