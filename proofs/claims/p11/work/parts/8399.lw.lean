/-! a literal by the wide form -/
theorem G_ldwK {v : gEnv} {l : Launch} {R : Room} {Qf : gFin} {k : gKey} {pc cs sl i a : Nat} {L : List (Nat × Value)} {st : List Value} {ws : va_W} {tx : String} (d : decode k.1 pc = .ok (.ldc_w i, 3)) (hE : ∀ A s H, v.2.2.2.1 A s H → vk_R k.2.2.1 i tx a s) (n : G v l R Qf k (pc + 3) L (.ref a :: st) ws cs sl) : G v l R Qf k pc L st ws cs sl := fun p e s m args below meth c A H locs ls C hP hD hS h => by
  obtain ⟨h1, h2, h3, h4, h5, h6, h7, h8, h9, h10, h11, h12, h13⟩ := id C
  have hZ := hE _ _ _ h12
  intro T hT X
  obtain ⟨t, s1, s2⟩ := n p e s m args below meth c A H locs ls C hP hD hS h T hT X
  refine ⟨t, ?_, s2⟩
  obtain ⟨kc, cf, j, q, w1, w2, w3, -, w4, w5⟩ := Cond.stringRef_spec h4 (hZ.1 : (Cond.stringRef k.2.2.1 i tx).before args s = true)
  have hq : q = a := by
    have z := w5.symm.trans hZ.2
    cases z
    rfl
  subst hq
  obtain ⟨kd, x1, x2⟩ := X.warmed.alike.2.2 _ _ w1
  have hres : kd.resolved[i]? = some (some (.string q)) := by
    rcases X.warmed.entry w1 x1 i with z | ⟨z, -⟩
    · exact z.trans w4
    · rw [w4] at z; cases z
  have hd : decode c.code (F0 m pc ls st).pc = .ok (.ldc_w i, 3) := by rw [h2]; exact d
  jvm_step X.here [h1, hd, ldc_w.wp_string (e := e) (s := T) (f := F0 m pc ls st) X.here.top x1 (by rw [x2]; exact w2) w3 hres]
  exact s1
