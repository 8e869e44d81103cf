/-! the reference's letters are the listing's -/
section LQ
variable {γ el : Nat → Nat → Nat} {F : Nat → va_E} {Q : gPg} {cc b j : Nat} {l g : Nat → Int} {x n : Int} {op t a c rA rB sl f s : Int32}
theorem zrS_S : ∀ o : Nat, o < 14 → zrS ((o : Int) + 1) = zlS (o : Int) := by decide +kernel
theorem i_ne {y z : Int32} (h : y.toInt ≠ z.toInt) : ¬ y = z := fun e => h (by rw [e])
theorem i_eq {y z : Int32} (h : y.toInt = z.toInt) : y = z := Int32.toInt_inj.mp h
theorem zrO_O (h : opdE x n a rA) : zrO rA a = zlO x n := by
  unfold zrO zlO
  rcases h with ⟨h1, h2, h3⟩ | ⟨h1, h2, h3⟩
  · rw [if_neg (i_ne (z := 0) (by rw [h1]; decide)), if_pos h3, h2]
  · rw [if_pos (i_eq (z := 0) (by rw [h1]; decide)), if_neg (by omega), h3]
theorem zrL_R (hO : rnO l) (hs : stL6 l 0) (h : rwF l op t a c rA rB sl) : zrL op t a c sl rA rB = zlR l ++ [10] := by
  have ol := op_l hO h
  obtain ⟨e1, e2, e3, e4, e5, e6⟩ := h
  rcases ol with ⟨y, z⟩ | ⟨y, z⟩ | ⟨y, z⟩ | ⟨y, z⟩ | ⟨y, z⟩ | ⟨y, y2, z⟩
  · obtain ⟨-, y1, y3⟩ := e2 z
    unfold zrL zrH zrA zqB zlR
    rw [if_neg (i_ne (z := 22) (by rw [show Int32.toInt 22 = 22 by decide]; omega)), if_neg (i_ne (z := 23) (by rw [show Int32.toInt 23 = 23 by decide]; omega)), if_neg (i_ne (z := 20) (by rw [show Int32.toInt 20 = 20 by decide]; omega)), if_neg (i_ne (z := 21) (by rw [show Int32.toInt 21 = 21 by decide]; omega)), if_neg (by omega), if_neg (by omega), if_neg (by omega)]
    unfold zlE
    rw [if_neg (by omega), if_neg (by omega), if_neg (by omega), zrO_O y3, y1]
    show ((([118] ++ dgI (l 1)) ++ [32, 61, 32]) ++ (zlO (l 2) (l 3) ++ ([] ++ [10])) : List Int32) = ((([118] ++ dgI (l 1)) ++ [32, 61, 32]) ++ (zlO (l 2) (l 3) ++ [])) ++ [10]
    simp only [List.append_assoc, List.nil_append, List.append_nil]
  · obtain ⟨-, y1⟩ := e3 z
    unfold zrL zrH zrA zqB zlR
    rw [if_neg (i_ne (z := 22) (by rw [show Int32.toInt 22 = 22 by decide]; omega)), if_neg (i_ne (z := 23) (by rw [show Int32.toInt 23 = 23 by decide]; omega)), if_pos (i_eq (z := 20) (by rw [show Int32.toInt 20 = 20 by decide]; omega)), if_neg (by omega), if_neg (by omega), if_neg (by omega)]
    unfold zlE
    rw [if_pos z, y1]
    show ((([118] ++ dgI (l 1)) ++ [32, 61, 32]) ++ ([105, 110] ++ ([] ++ [10])) : List Int32) = ((([118] ++ dgI (l 1)) ++ [32, 61, 32]) ++ [105, 110]) ++ [10]
    simp only [List.append_assoc, List.nil_append]
  · obtain ⟨-, y3⟩ := e4 z
    unfold zrL zrH zrA zqB zlR
    rw [if_pos (i_eq (z := 22) (by rw [show Int32.toInt 22 = 22 by decide]; omega)), if_neg (i_ne (z := 20) (by rw [show Int32.toInt 20 = 20 by decide]; omega)), if_neg (i_ne (z := 21) (by rw [show Int32.toInt 21 = 21 by decide]; omega)), if_neg (by omega), if_pos (by omega)]
    rw [zrO_O y3]
    show ([115, 104, 111, 119, 32] ++ (zlO (l 2) (l 3) ++ ([] ++ [10])) : List Int32) = ([115, 104, 111, 119, 32] ++ zlO (l 2) (l 3)) ++ [10]
    rw [List.append_assoc]
    rfl
  · obtain ⟨-, y1, y5⟩ := e5 z
    unfold zrL zrH zrA zqB zlR
    rw [if_neg (i_ne (z := 22) (by rw [show Int32.toInt 22 = 22 by decide]; omega)), if_neg (i_ne (z := 23) (by rw [show Int32.toInt 23 = 23 by decide]; omega)), if_neg (i_ne (z := 20) (by rw [show Int32.toInt 20 = 20 by decide]; omega)), if_pos (i_eq (z := 21) (by rw [show Int32.toInt 21 = 21 by decide]; omega)), if_neg (by omega), if_neg (by omega), if_neg (by omega)]
    unfold zlE
    rw [if_neg (by omega), if_pos z, y1, y5]
    show ((([118] ++ dgI (l 1)) ++ [32, 61, 32]) ++ (([115, 108, 111, 116, 32] ++ dgI (l 5)) ++ ([] ++ [10])) : List Int32) = ((([118] ++ dgI (l 1)) ++ [32, 61, 32]) ++ ([115, 108, 111, 116, 32] ++ dgI (l 5))) ++ [10]
    simp only [List.append_assoc, List.nil_append]
  · obtain ⟨-, y3, y5⟩ := e6 z
    have p2 : 0 ≤ l 2 := hs z
    have eO : zlO (l 2) (l 3) = 118 :: dgI (l 2) := if_pos p2
    unfold zrL zrH zrA zqB zlR
    rw [if_neg (i_ne (z := 22) (by rw [show Int32.toInt 22 = 22 by decide]; omega)), if_pos (i_eq (z := 23) (by rw [show Int32.toInt 23 = 23 by decide]; omega)), if_neg (i_ne (z := 20) (by rw [show Int32.toInt 20 = 20 by decide]; omega)), if_neg (i_ne (z := 21) (by rw [show Int32.toInt 21 = 21 by decide]; omega)), if_neg (by omega), if_neg (by omega), if_pos (by omega)]
    rw [zrO_O y3, eO, y5]
    show ((([115, 108, 111, 116, 32] ++ dgI (l 5)) ++ [32, 61, 32]) ++ (([118] ++ dgI (l 2)) ++ ([] ++ [10])) : List Int32) = (([115, 108, 111, 116, 32] ++ dgI (l 5)) ++ (([32, 61, 32] ++ [118]) ++ dgI (l 2))) ++ [10]
    simp only [List.append_assoc, List.nil_append]
  · obtain ⟨y0, y1, y3, y4⟩ := e1 (by omega)
    obtain ⟨q, hq⟩ : ∃ q : Nat, l 0 = (q : Int) := ⟨(l 0).toNat, by omega⟩
    have eS : zrS op.toInt = zlS (l 0) := by rw [hq, show op.toInt = (q : Int) + 1 by omega]; exact zrS_S q (by omega)
    unfold zrL zrH zrA zqB zlR
    rw [if_neg (i_ne (z := 22) (by rw [show Int32.toInt 22 = 22 by decide]; omega)), if_neg (i_ne (z := 23) (by rw [show Int32.toInt 23 = 23 by decide]; omega)), if_neg (i_ne (z := 20) (by rw [show Int32.toInt 20 = 20 by decide]; omega)), if_neg (i_ne (z := 21) (by rw [show Int32.toInt 21 = 21 by decide]; omega)), if_pos (by omega), if_neg (by omega), if_neg (by omega)]
    unfold zlE
    rw [if_neg (by omega), if_neg (by omega), if_pos (by omega), zrO_O y3, zrO_O y4, y1, eS]
    show ((([118] ++ dgI (l 1)) ++ [32, 61, 32]) ++ (zlO (l 2) (l 3) ++ (((([32] ++ zlS (l 0)) ++ [32]) ++ zlO (l 4) (l 5)) ++ [10])) : List Int32) = ((([118] ++ dgI (l 1)) ++ [32, 61, 32]) ++ (zlO (l 2) (l 3) ++ ((([32] ++ zlS (l 0)) ++ [32]) ++ zlO (l 4) (l 5)))) ++ [10]
    simp only [List.append_assoc]
theorem zrE_F (hE : edO l) (hG : edG (l 0) (g 0) (g 1)) (h : edR l op a rA) (hg : gLX (l 0) g f s) : zrE op a rA f s = zlF g l ++ [10] := by
  obtain ⟨r19, r20, r21⟩ := h
  unfold edG at hG
  unfold zrE zrJ zrK zrM zrN zlF
  rcases hG with ⟨z, -⟩ | ⟨z, -⟩ | ⟨z, -⟩
  · have y := r19 z
    have y2 := (hg.1 z).1
    rw [if_pos (i_eq (z := 30) (by rw [show Int32.toInt 30 = 30 by decide]; omega)), if_pos (i_eq (z := 30) (by rw [show Int32.toInt 30 = 30 by decide]; omega)), if_neg (i_ne (z := 32) (by rw [show Int32.toInt 32 = 32 by decide]; omega)), if_neg (i_ne (z := 31) (by rw [show Int32.toInt 31 = 31 by decide]; omega)), if_neg (by omega), if_pos z, y2]
    show ([106, 117, 109, 112] ++ ([] ++ (([32, 98] ++ dgI (g 0)) ++ ([] ++ [10]))) : List Int32) = (([106, 117, 109, 112] ++ [32, 98]) ++ dgI (g 0)) ++ [10]
    simp only [List.append_assoc, List.nil_append]
  · obtain ⟨y, y3⟩ := r20 z
    obtain ⟨y2, y4⟩ := hg.2 z
    rw [if_neg (i_ne (z := 30) (by rw [show Int32.toInt 30 = 30 by decide]; omega)), if_pos (i_eq (z := 31) (by rw [show Int32.toInt 31 = 31 by decide]; omega)), if_neg (i_ne (z := 30) (by rw [show Int32.toInt 30 = 30 by decide]; omega)), if_neg (i_ne (z := 32) (by rw [show Int32.toInt 32 = 32 by decide]; omega)), if_pos (i_eq (z := 31) (by rw [show Int32.toInt 31 = 31 by decide]; omega)), if_neg (by omega), if_neg (by omega), zrO_O y3, y2, y4]
    show ([105, 102, 32] ++ (zlO (l 2) (l 3) ++ (([32, 98] ++ dgI (g 0)) ++ (([32, 98] ++ dgI (g 1)) ++ [10]))) : List Int32) = ((([105, 102, 32] ++ zlO (l 2) (l 3)) ++ ([32, 98] ++ dgI (g 0))) ++ ([32, 98] ++ dgI (g 1))) ++ [10]
    simp only [List.append_assoc]
  · obtain ⟨y, y3⟩ := r21 z
    rw [if_neg (i_ne (z := 30) (by rw [show Int32.toInt 30 = 30 by decide]; omega)), if_neg (i_ne (z := 31) (by rw [show Int32.toInt 31 = 31 by decide]; omega)), if_neg (i_ne (z := 30) (by rw [show Int32.toInt 30 = 30 by decide]; omega)), if_pos (i_eq (z := 32) (by rw [show Int32.toInt 32 = 32 by decide]; omega)), if_neg (i_ne (z := 31) (by rw [show Int32.toInt 31 = 31 by decide]; omega)), if_pos z, zrO_O y3]
    show ([114, 101, 116, 32] ++ (zlO (l 2) (l 3) ++ ([] ++ ([] ++ [10]))) : List Int32) = ([114, 101, 116, 32] ++ zlO (l 2) (l 3)) ++ [10]
    simp only [List.append_assoc, List.nil_append]
theorem zrR_J (h : rfX γ el F cc Q) (hP : rnP Q) (hS : stQ Q) (hb : b < Q.1) : ∀ j, j + 1 ≤ Q.2.1 b → zrR el F (rwL γ el cc b) j = zlJ Q b j
  | 0, _ => rfl
  | j + 1, hj => by
    have i := zrR_J h hP hS hb j (by omega)
    have m := (h.2.1 b hb).1
    have q : lnX (rwB Q b j) (Q.2.2.1 b j) (F (rAt γ el cc b j)) := h.2.2 b hb j (by omega)
    rw [show rwB Q b j = true from decide_eq_true (by omega), show rAt γ el cc b j = el (rwL γ el cc b) j from if_pos (by omega)] at q
    unfold lnX at q
    rw [if_pos rfl] at q
    obtain ⟨-, hO⟩ := rn_r hP hb (show j < Q.2.1 b by omega) (by
      rcases rn_row hP hb (show j < Q.2.1 b by omega) with z | z
      · exact z.1
      · omega)
    show zrR el F (rwL γ el cc b) j ++ zlW (F (el (rwL γ el cc b) j)) = zlJ Q b j ++ zlN (Q.2.2.2 b) (Q.2.2.1 b j)
    have e : zlW (F (el (rwL γ el cc b) j)) = zlR (Q.2.2.1 b j) ++ [10] := zrL_R hO (hS b j hb (by omega)) q
    have e2 : zlN (Q.2.2.2 b) (Q.2.2.1 b j) = zlR (Q.2.2.1 b j) ++ [10] := by unfold zlN; rw [if_pos (by have := hO.1; omega)]
    rw [i, e, e2]
theorem zrC_G (h : rfX γ el F cc Q) (hP : rnP Q) (hS : stQ Q) (hb : b < Q.1) : zrC γ el F (el (γ 14 cc) b) b = zlG Q b := by
  have m := h.2.1 b hb
  obtain ⟨m1, m2⟩ := m
  have i := zrR_J h hP hS hb (γ 2 (rwL γ el cc b)) (by omega)
  have q : lnX (rwB Q b (γ 2 (rwL γ el cc b))) (Q.2.2.1 b (γ 2 (rwL γ el cc b))) (F (rAt γ el cc b (γ 2 (rwL γ el cc b)))) := h.2.2 b hb _ (by omega)
  rw [show rwB Q b (γ 2 (rwL γ el cc b)) = false from decide_eq_false (by omega), show rAt γ el cc b (γ 2 (rwL γ el cc b)) = γ 15 (el (γ 14 cc) b) from if_neg (by omega)] at q
  unfold lnX at q
  rw [if_neg (by decide)] at q
  rw [show Q.2.1 b - 1 = γ 2 (rwL γ el cc b) by omega] at m2
  have hr := rn_row hP hb (show γ 2 (rwL γ el cc b) < Q.2.1 b by omega)
  have hE : 19 ≤ Q.2.2.1 b (γ 2 (rwL γ el cc b)) 0 ∧ edO (Q.2.2.1 b (γ 2 (rwL γ el cc b))) ∧ edG (Q.2.2.1 b (γ 2 (rwL γ el cc b)) 0) (Q.2.2.2 b 0) (Q.2.2.2 b 1) := by
    rcases hr with z | z
    · omega
    · exact ⟨z.1, z.2.2⟩
  have e : zlV (F (γ 15 (el (γ 14 cc) b))) (fI (F (el (γ 14 cc) b)) 2) (fI (F (el (γ 14 cc) b)) 3) = zlF (Q.2.2.2 b) (Q.2.2.1 b (γ 2 (rwL γ el cc b))) ++ [10] := zrE_F hE.2.1 hE.2.2 q m2
  have e2 : zlN (Q.2.2.2 b) (Q.2.2.1 b (γ 2 (rwL γ el cc b))) = zlF (Q.2.2.2 b) (Q.2.2.1 b (γ 2 (rwL γ el cc b))) ++ [10] := by unfold zlN; rw [if_neg (by omega)]
  have e3 : zlJ Q b (Q.2.1 b) = zlJ Q b (γ 2 (rwL γ el cc b)) ++ zlN (Q.2.2.2 b) (Q.2.2.1 b (γ 2 (rwL γ el cc b))) := by rw [← m1]; rfl
  unfold zrC zlG
  rw [e, e3, e2]
  show ((([98] ++ dgI (b : Int)) ++ [58]) ++ [10]) ++ (zrR el F (rwL γ el cc b) (γ 2 (rwL γ el cc b)) ++ _) = (([98] ++ dgI (b : Int)) ++ ([58] ++ [10])) ++ _
  rw [i]
  simp only [List.append_assoc]
theorem zrP_B (h : rfX γ el F cc Q) (hP : rnP Q) (hS : stQ Q) : ∀ k, k ≤ Q.1 → zrP γ el F cc k = zlB Q k
  | 0, _ => rfl
  | k + 1, hk => by
    show zrP γ el F cc k ++ zrC γ el F (el (γ 14 cc) k) k = zlB Q k ++ zlG Q k
    rw [zrP_B h hP hS k (by omega), zrC_G h hP hS (by omega)]
end LQ
