/-! give: class and model answer the same -/
theorem gv_q {Q : gPg} {a1 k r err : Int32} {c : gCv} {f1 : Nat → Int64} {fl : Int}
    (hc : (fl = 0 ∧ c.2.1.toInt = 0) ∨ (fl ≠ 0 ∧ c.2.1.toInt = 1 ∧ lkS Q c.2.2.2.1 c.2.2.2.2.1 c.2.2.2.2.2.1 c.2.2.2.2.2.2.1 ∧ cdC c Q ∧ ∃ (B : Int → Int) (n : Int), bOk B n ∧ okP B n Q)) (hm0 : fl = 0 → gv0 a1 err) (hm1 : fl ≠ 0 → gvA Q a1 r err)
    (hk : (k = 0 ∧ ∃ z : Int32, f1 0 = z.toInt64 ∧ gvT a1 c z) ∨ (k = 1 ∧ tx_SpillForge_give_0 a1) ∨ (k = 2 ∧ tx_SpillForge_give_1 a1 c.2.1)) : err = k ∧ (k = 0 → f1 0 = r.toInt64) := by
  have z1 : Int32.toInt 1 = 1 := by decide
  have z2 : Int32.toInt 2 = 2 := by decide
  have z0 : Int32.toInt 0 = 0 := by decide
  rcases hc with ⟨e0, eh⟩ | ⟨e0, eh, hS, hC, B, n, hB, hP⟩
  · rcases hk with ⟨q1, z, q2, q3⟩ | ⟨q1, q2⟩ | ⟨q1, q2⟩
    · exact absurd eh q3.2.2.1
    · have x := gvx_0 q2
      rcases hm0 e0 with ⟨y1, y2⟩ | ⟨y1, y2, y3⟩
      · exact ⟨Int32.toInt_inj.mp (by rw [y2, q1]; exact z1.symm), fun y => absurd (q1.symm.trans y) (by decide)⟩
      · omega
    · have x := gvx_1 q2
      rcases hm0 e0 with ⟨y1, y2⟩ | ⟨y1, y2, y3⟩
      · omega
      · exact ⟨Int32.toInt_inj.mp (by rw [y3, q1]; exact z2.symm), fun y => absurd (q1.symm.trans y) (by decide)⟩
  · have hA := hm1 e0
    rcases hk with ⟨q1, z, q2, q3⟩ | ⟨q1, q2⟩ | ⟨q1, q2⟩
    · rcases hA with ⟨r1, r2⟩ | ⟨r1, r2, r3, Z, r4⟩
      · have x1 := q3.1
        have x2 := q3.2.1
        omega
      · obtain ⟨Z2, r5⟩ := q3.2.2.2 B n Q hB hP hC hS.1
        refine ⟨Int32.toInt_inj.mp (by rw [r3, q1]; exact z0.symm), fun _ => ?_⟩
        rw [q2]
        exact congrArg Int32.toInt64 (Int32.toInt_inj.mp (GVr_u r5 r4).1)
    · have x := gvx_0 q2
      rcases hA with ⟨r1, r2⟩ | ⟨r1, r2, r3, Z, r4⟩
      · exact ⟨Int32.toInt_inj.mp (by rw [r2, q1]; exact z1.symm), fun y => absurd (q1.symm.trans y) (by decide)⟩
      · omega
    · have x := gvx_1 q2
      omega
