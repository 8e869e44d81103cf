/-! G: statics, texts, 'new T[n][k]' of which nothing is kept, a thrown object -/
section GRF
variable {v : gEnv} {l : Launch} {R : Room} {Qf : gFin} {k : gKey} {pc : Nat} {L : List (Nat × Value)} {st : List Value} {ws : va_W} {cs sl i : Nat}
theorem G_gets {C n0 d0 : String} {X : Value → Prop} (d : decode k.1 pc = .ok (.getstatic i, 3)) (hl : Cond.fieldLink k.2.2.1 i C n0 d0 ∈ v.2.2.2.2) (hE : ∀ A s H, v.2.2.2.1 A s H → ∃ x, X x ∧ va_Z C n0 d0 x A s H) (n : ∀ x, X x → G v l R Qf k (pc + 3) L (x :: st) ws cs sl) : G v l R Qf k pc L st ws cs sl := fun p e s m args below meth c A H locs ls C hP hD hS h => by
  obtain ⟨h1, h2, h3, h4, h5, h6, h7, h8, h9, h10, h11, h12, h13⟩ := id C
  obtain ⟨x, g1, g2⟩ := hE _ _ _ h12
  exact va_gets h1 h2 g2 hS h4 (h8 _ hl) (fun _ z => z) d (n x g1 p e s m args below meth c A H locs ls C hP hD hS h)
theorem G_ldcS {tx : String} (d : decode k.1 pc = .ok (.ldc i, 2)) (hE : ∀ A s H, v.2.2.2.1 A s H → ∃ a, vk_R k.2.2.1 i tx a s) (n : ∀ a, G v l R Qf k (pc + 2) L (.ref a :: st) ws cs sl) : G v l R Qf k pc L st ws cs sl := fun p e s m args below meth c A H locs ls C hP hD hS h => by
  obtain ⟨h1, h2, h3, h4, h5, h6, h7, h8, h9, h10, h11, h12, h13⟩ := id C
  obtain ⟨a, g1⟩ := hE _ _ _ h12
  exact va_ldcS h1 h2 h4 g1 d (n a p e s m args below meth c A H locs ls C hP hD hS h)
theorem G_mna0 {ty : FieldType} {z w : Int32} {N K : Nat} (d : decode k.1 pc = .ok (.multianewarray i 2, 4)) (w1 : Cond.classLink k.2.2.1 i ("[" ++ (FieldType.array ty).toString) ∈ v.2.2.2.2) (hE : ∀ A s H, v.2.2.2.1 A s H → gAr ty s) (w3 : Cond.arrayClass ty ∈ v.2.2.2.2)
    (hN : z.toNatClampNeg = N) (hK : w.toNatClampNeg = K) (hz : ¬ z < 0) (hw : ¬ w < 0) (hb1 : N * 4 ≤ 536870912) (hb2 : K * componentBytes ty ≤ 536870912) (hb3 : K ≤ 536870912) (hv : fits ty (defaultValue ty) = true) (hv2 : (defaultValue ty).isDefault = true) (hcs : cs + (1 + N) ≤ R.cells) (hsl : sl + (N + N * K) ≤ R.slots)
    (n : ∀ q : Nat, G v l R Qf k (pc + 4) L (.ref q :: st) ws (cs + 1 + N) (sl + N + N * K)) : G v l R Qf k pc L (.int w :: .int z :: st) ws cs sl := fun p e s m args below meth c A H locs ls C hP hD hS h => by
  obtain ⟨h1, h2, h3, h4, h5, h6, h7, h8, h9, h10, h11, h12, h13⟩ := id C
  refine gm_mna h1 h2 h4 (h8 _ w1) (hE _ _ _ h12) (h8 _ w3) hN hK hz hw hb1 hb2 hb3 hv hv2 hcs hsl d (fun cO cI cz kO kI f1 f2 f3 f4 f5 f6 => ?_)
  have hold : ∀ q : Nat, q < H.size → (H.push (gm_out cO N H.size N) ++ Array.replicate N (gm_in cI K (defaultValue ty)))[q]? = H[q]? := fun q hq => by
    rw [Array.getElem?_append_left (by simp; omega), Array.getElem?_push, if_neg (by omega)]
  exact n H.size p e s m args below meth c A _ locs ls C (hP.kept (fun j x hx => hold _ (hP j x hx).lt)) hD ⟨Nat.le_trans hS.1 (by simp; omega), fun q g1 g2 => (hold q (Nat.lt_of_lt_of_le g1 hS.1)).trans (hS.2.1 q g1 g2), hS.2.2⟩ h
theorem gx_athrow {p : Program} {e : Env} {s : State} {m : MethodId} {args : Array Value} {below : List Frame} {meth : Method} {c : Code} {H : Heap} {locs : List Loc} {Q : State → Prop} {cc : ByteArray} {ls : Array Slot} {q : Nat} (hexec : p.tables.exec = Jvm.exec) (hb : c.code = cc) (hdg : decode cc pc = .ok (.athrow, 1))
    (n : vx_W p l e R s m args below meth c H locs cs sl Q (F0 m pc ls st) q) : W p l e R s m args below meth c H locs cs sl Q (F0 m pc ls (.ref q :: st)) := by
  intro T hT X
  obtain ⟨t, a, b⟩ := n T hT X
  refine ⟨t, ?_, b⟩
  jvm_step X.here [hexec, hb, hdg, athrow.wp_sem]
  exact a
theorem G_athrow {a ci N : Nat} {fs : List Value} {E : String} {T : u_T} (q : Nat) (d : decode k.1 pc = .ok (.athrow, 1)) (he : ws[q]? = some (a, .inr (ci, fs))) (hc : v.2.1[ci]? = some (E, T, N)) (n : GT v l R Qf k pc L st E a ws cs sl) : G v l R Qf k pc L (.ref a :: st) ws cs sl := fun p e s m args below meth c A H locs ls C hP hD hS h => by
  obtain ⟨h1, h2, h3, h4, h5, h6, h7, h8, h9, h10, h11, h12, h13⟩ := id C
  obtain ⟨q', g0, cell, g1, g2, g3, -⟩ := hP q _ he
  exact gx_athrow h1 h2 d (n p e s m args below meth c A H locs ls cell C hP hD hS h g1 g3 (by rw [g2]; exact (h10.1 ci _ hc).2.1))
end GRF
