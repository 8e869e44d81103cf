theorem nz_x {x z : Int64} (hz : z = x ^^^ (-1)) (q : lb_Q x 32) : ¬ z = 0 := fun e => by
  have h : (x ^^^ (-1)).toBitVec.getLsbD 40 = false := by rw [← hz, e]; rfl
  rw [Int64.toBitVec_xor, BitVec.getLsbD_xor, show (-1 : Int64).toBitVec.getLsbD 40 = true by decide] at h
  have h2 : x.toBitVec.getLsbD 40 = true := by
    cases k : x.toBitVec.getLsbD 40
    · rw [k] at h
      exact absurd h (by decide)
    · rfl
  have := q 40 (by decide) h2
  omega
theorem gB_nb {z : Int32} (b : gB z 0 1) : gB (vp_nar .boolean z) 0 1 := by rw [nb_z b]; exact b
