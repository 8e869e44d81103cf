section
/-! the listing is written: the words' builder fits again -/
section WDE
variable {D : va_G} {I : FieldType → ClassId} {P P0 : List Nat} {F F0 : Nat → va_E} {γ el : Nat → Nat → Nat} {W a n k : Nat} {c : Int32} {ws : List Int32}
/-- a cell of the pool that had no kind gets one -/
theorem RS_kd (hT : RS D I P F γ el) (h0 : γ 0 a = 0) (haP : a ∈ P) (hfit : rFit D I (gNw γ a k) el F a k) : RS D I P F (gNw γ a k) el := by
  have hT' : RS D I (P.filter (fun b => b != a)) F γ el := ⟨fun b hb => List.mem_filter.mpr ⟨hT.1 b hb, by
    have : b ≠ a := fun e => hb (by rw [e]; exact h0)
    simpa using this⟩, hT.2⟩
  exact RS_nw hT' (fun z => by have := (List.mem_filter.mp z).2; simp at this) (fun b hb => (List.mem_filter.mp hb).1) haP (fun _ _ => rfl) hfit
theorem wdS_end (h : wdS D I P0 F0 γ el W P F a n c ws) (hn : n ≤ 16777216) : ∃ γ1 : Nat → Nat → Nat, RS D I P F γ1 el ∧ (∀ j, j ≠ 0 → j ≠ 12 → γ1 j = γ j) ∧ (∀ b, γ 0 b ≠ 0 → γ1 0 b = γ 0 b ∧ γ1 12 b = γ 12 b) ∧ γ1 0 a = 29 ∧ γ1 12 a = n := by
  obtain ⟨h1, ⟨h2, h3, mb, h4, h5⟩, ⟨h6, f, h7, h8⟩, h9, h10, h11, -, -⟩ := h
  have haW : a ≠ W := rn_ao h7 h4
  have ne : ∀ b, b ≠ W → F b = sW F F0 W b := fun b hb => (sW_ne hb).symm
  rcases h9 with ⟨q1, q2⟩ | q
  · refine ⟨γ, RS_set h1.1 ne (show rKd γ W 28 from h3) (by decide) ⟨a, mb, c, h4, h5, h10.1, q1, by rw [← q2]; exact h11⟩, fun _ _ _ => rfl, fun _ _ => ⟨rfl, rfl⟩, q1, q2.symm⟩
  · have r1 : RS D I P (sW F F0 W) (gLn γ a n) el := RS_ln h1.1 q
    have l0 : ∀ b, gLn γ a n 0 b = γ 0 b := fun b => if_neg (fun z => absurd z.1 (by decide))
    have l12 : gLn γ a n 12 a = n := if_pos ⟨rfl, rfl⟩
    have n12 : gNw (gLn γ a n) a 29 12 = gLn γ a n 12 := gNw_j (by decide)
    have ka : gNw (gLn γ a n) a 29 0 a = 29 := if_pos ⟨rfl, rfl⟩
    have r2 : RS D I P (sW F F0 W) (gNw (gLn γ a n) a 29) el := RS_kd r1 ((l0 a).trans q) h6 ⟨n, f, (sW_ne haW).trans h7, h8, by omega, by rw [n12, l12]⟩
    have kW : gNw (gLn γ a n) a 29 0 W = 28 := (gNw_ne (Ne.symm haW)).trans ((l0 W).trans h3)
    refine ⟨gNw (gLn γ a n) a 29, RS_set r2 ne (show rKd _ W 28 from kW) (by decide) ⟨a, mb, c, h4, h5, h10.1, ka, by rw [n12, l12]; exact h11⟩, fun j hj0 hj12 => ?_, fun b hb => ⟨?_, ?_⟩, ka, by rw [n12, l12]⟩
    · rw [gNw_j hj0]
      funext b
      exact if_neg (fun z => hj12 z.1)
    · have hba : b ≠ a := fun e => hb (by rw [e]; exact q)
      exact (gNw_ne hba).trans (l0 b)
    · have hba : b ≠ a := fun e => hb (by rw [e]; exact q)
      rw [n12]
      exact if_neg (fun z => hba z.2)
/-- letters j, .. of an array -/
def mkW (f : Nat → Int32) : Nat → Nat → List Int32
  | _, 0 => []
  | j, m + 1 => f j :: mkW f (j + 1) m
theorem mkW_l {f : Nat → Int32} : ∀ m j, (mkW f j m).length = m
  | 0, _ => rfl
  | m + 1, j => by
    show (mkW f (j + 1) m).length + 1 = m + 1
    rw [mkW_l m]
theorem mkW_g {f : Nat → Int32} : ∀ m j i, i < m → (mkW f j m).getD i 0 = f (j + i)
  | 0, _, i, h => absurd h (Nat.not_lt_zero i)
  | m + 1, j, 0, _ => rfl
  | m + 1, j, i + 1, h => by
    show (f j :: mkW f (j + 1) m).getD (i + 1) 0 = f (j + (i + 1))
    rw [List.getD_cons_succ, mkW_g m (j + 1) i (by omega), Nat.add_assoc, Nat.add_comm 1 i]
/-- before the listing -/
theorem wdS_beg (hT : RS D I P F γ el) (hW : γ 0 W = 28) : ∃ (a n : Nat) (c : Int32) (ws : List Int32), wdS D I P F γ el W P F a n c ws ∧ γ 0 a = 29 ∧ n = γ 12 a ∧ n ≤ 16777216 := by
  obtain ⟨a, mb, c, h1, h2, h3, h4, h5⟩ := show rk_28 γ (F W) from RS_o hT hW
  have h4' : γ 0 a = 29 := h4
  obtain ⟨n, f, g1, g2, g3, g4⟩ := show rk_29 I γ a (F a) from RS_o hT h4
  have e : sW F F W = F := by
    funext b
    unfold sW
    split
    · rename_i h; rw [h]
    · rfl
  exact ⟨a, n, c, mkW f 0 c.toInt.toNat, ⟨by rw [e]; exact rSk_rf hT, ⟨hT.1 W (by omega), hW, mb, h1, h2⟩, ⟨hT.1 a (by omega), f, g1, g2⟩, Or.inl ⟨h4', g4⟩, ⟨h3, by omega⟩, by omega, by rw [mkW_l]; omega, fun i hi => by rw [mkW_l] at hi; rw [cB_of g1, mkW_g _ _ _ hi, Nat.zero_add]⟩, h4', g4, by omega⟩
end WDE
theorem rsum_l {g : Nat → Nat} {p q : Nat} : ∀ n, rsum (fun i => p * g i + q) n = p * rsum g n + q * n
  | 0 => by simp [rsum]
  | n + 1 => by
    show rsum (fun i => p * g i + q) n + (p * g n + q) = p * (rsum g n + g n) + q * (n + 1)
    rw [rsum_l n, Nat.mul_add, Nat.mul_add]
    omega
/-- how many letters a listing has -/
theorem lc_let {D : va_G} {I : FieldType → ClassId} {P : List Nat} {F : Nat → va_E} {γ el : Nat → Nat → Nat} {cc f : Nat} (hT : RS D I P F γ el) (hc : γ 0 cc = 9) (hcf : γ 1 cc = f) (h6 : 0 < γ 6 f) : rsum (fun i => 52 * γ 2 (γ 14 (el (γ 14 cc) i)) + 60) (γ 6 f) ≤ 52 * γ 16 f + 2400 := by
  obtain ⟨lb, lr, rn, md, w1, -⟩ := show rk_9 γ el cc (F cc) from RS_o hT hc
  obtain ⟨u2, u3, u4, u5, u6, u7, u8, u9, u10, u11, u12, u13, u14, u15, u16, u17⟩ := rk9_at w1 (show rk_9 γ el cc (F cc) from RS_o hT hc)
  rw [hcf] at u13
  have umd := u13.resolve_left (by omega)
  unfold rCd at u17
  rw [hcf] at u17
  have e : md.toInt.toNat = γ 6 f := by omega
  rw [e] at u17
  rw [rsum_l, u2.1]
  have h1 := u17.2
  omega
/-- the model's result is a new array -/
theorem ls_fin {D : va_G} {I : FieldType → ClassId} {P P3 : List Nat} {F F4 : Nat → va_E} {γ el : Nat → Nat → Nat} {m q L r28 r35 : Nat} {f : Nat → Int32} {v9 v10 v11 v12 v13 v14 v23 v24 v25 v26 v27 v30 v32 v33 v34 : Int32} (hT : RS D I P F γ el) (hm : γ 0 m = 10) (hq : q ∉ P) (hs : rSub P P3) (mq : q ∈ P3) (hF : ∀ b, b ≠ m → b ≠ q → F4 b = F b) (eq : F4 q = .inl (I .byte, L, .inl f)) (hf : gF f (-128) 127) (hL : L ≤ 16777216)
    (em : F4 m = mdE γ r28 q v9 v10 v11 v12 v13 v14 v23 v24 v25 v26 v27 v30 v32 v33 v34) (h1 : rM1 v9 v10 v11 v14 v25 v26 v27 v32 v34) (hk : mdK γ r28 r35) (h2 : (v9.toInt = 0 ∨ 0 < γ 6 0 ∨ 0 < γ 23 0) ∧ (v10.toInt = 0 ∨ 0 < γ 6 1 ∨ 0 < γ 23 1)) (h34 : v34.toInt ≤ (L : Int)) : RS D I P3 F4 (gNw (gLn γ q L) q 96) el := by
  have q0 : γ 0 q = 0 := RS_new hT hq
  have hmq : m ≠ q := fun e => by rw [e, q0] at hm; cases hm
  have l0 : ∀ b, gLn γ q L 0 b = γ 0 b := fun b => if_neg (fun z => absurd z.1 (by decide))
  have lj : ∀ j, j ≠ 12 → gLn γ q L j = γ j := fun j hj => by
    funext b
    exact if_neg (fun z => hj z.1)
  have l12 : gLn γ q L 12 q = L := if_pos ⟨rfl, rfl⟩
  have gj : ∀ j, j ≠ 0 → j ≠ 12 → gNw (gLn γ q L) q 96 j = γ j := fun j a b => (gNw_j a).trans (lj j b)
  have n12 : gNw (gLn γ q L) q 96 12 = gLn γ q L 12 := gNw_j (by decide)
  have kq : gNw (gLn γ q L) q 96 0 q = 96 := if_pos ⟨rfl, rfl⟩
  have kb : ∀ b k, k ≠ 0 → rKd γ b k → rKd (gNw (gLn γ q L) q 96) b k := fun b k hk h => by
    have h' : γ 0 b = k := h
    have hb : b ≠ q := fun z => by rw [z, q0] at h'; omega
    exact (gNw_ne hb).trans ((l0 b).trans h')
  have r1 : RS D I P F (gLn γ q L) el := RS_ln hT q0
  obtain ⟨F', hF'⟩ : ∃ F' : Nat → va_E, F' = fun b => if b = m then F m else F4 b := ⟨_, rfl⟩
  have f1 : ∀ b, b ≠ q → F' b = F b := fun b hb => by
    rw [hF']
    show (if b = m then F m else F4 b) = F b
    by_cases e : b = m
    · rw [if_pos e, e]
    · rw [if_neg e]; exact hF b e hb
  have f2 : F' q = F4 q := by rw [hF']; exact if_neg (Ne.symm hmq)
  have r2 : RS D I P3 F' (gNw (gLn γ q L) q 96) el := RS_nw r1 hq hs mq (fun b hb => f1 b (fun e => hb (by rw [e, l0]; exact q0))) ⟨L, f, f2.trans eq, hf, by omega, by rw [n12, l12]⟩
  have hK : mdK (gNw (gLn γ q L) q 96) r28 q := by
    obtain ⟨h1, h2, h3, h4, h5, h6, h7, h8, h9, h10, h11, h12, h13, h14, h15, h16, h17, h18, h19, h20, h21, h22, h23, h24⟩ := hk
    unfold mdK rF1
    rw [gj 9 (by decide) (by decide), gj 1 (by decide) (by decide)]
    exact ⟨kb _ _ (by decide) h1, kq, kb _ _ (by decide) h3, kb _ _ (by decide) h4, kb _ _ (by decide) h5, kb _ _ (by decide) h6, kb _ _ (by decide) h7, kb _ _ (by decide) h8, kb _ _ (by decide) h9, kb _ _ (by decide) h10, kb _ _ (by decide) h11, kb _ _ (by decide) h12, kb _ _ (by decide) h13, kb _ _ (by decide) h14, kb _ _ (by decide) h15, kb _ _ (by decide) h16, kb _ _ (by decide) h17, kb _ _ (by decide) h18, kb _ _ (by decide) h19, kb _ _ (by decide) h20, kb _ _ (by decide) h21, h22, h23, h24⟩
  have km : gNw (gLn γ q L) q 96 0 m = 10 := kb m 10 (by decide) hm
  have e9 := gj 9 (by decide) (by decide)
  have em' : F4 m = mdE (gNw (gLn γ q L) q 96) r28 q v9 v10 v11 v12 v13 v14 v23 v24 v25 v26 v27 v30 v32 v33 v34 := by
    rw [em]
    unfold mdE
    rw [e9]
  refine RS_md r2 km (fun b hb => ?_) em' h1 hK ?_
  · rw [hF']; exact (if_neg hb).symm
  · unfold rM2
    rw [gj 6 (by decide) (by decide), gj 23 (by decide) (by decide), n12, l12]
    exact ⟨h2.1, h2.2, h34⟩
end
section
theorem dr_cX17_list___96 : decode cX17_list__ 96 = .ok (.iload_n 2, 1) := by decide +kernel
theorem dr_cX17_list___97 : decode cX17_list__ 97 = .ok (.aload_n 0, 1) := by decide +kernel
theorem dr_cX17_list___98 : decode cX17_list__ 98 = .ok (.getfield 426, 3) := by decide +kernel
theorem dr_cX17_list___101 : decode cX17_list__ 101 = .ok (.if_icmp .ge 24, 3) := by decide +kernel
theorem dr_cX17_list___104 : decode cX17_list__ 104 = .ok (.aload_n 0, 1) := by decide +kernel
theorem dr_cX17_list___105 : decode cX17_list__ 105 = .ok (.getfield 378, 3) := by decide +kernel
theorem dr_cX17_list___108 : decode cX17_list__ 108 = .ok (.iload_n 2, 1) := by decide +kernel
theorem dr_cX17_list___109 : decode cX17_list__ 109 = .ok (.aload_n 0, 1) := by decide +kernel
theorem dr_cX17_list___110 : decode cX17_list__ 110 = .ok (.getfield 316, 3) := by decide +kernel
theorem dr_cX17_list___113 : decode cX17_list__ 113 = .ok (.iload_n 2, 1) := by decide +kernel
theorem dr_cX17_list___114 : decode cX17_list__ 114 = .ok (.invokevirtual 443, 3) := by decide +kernel
theorem wr_11_209 : (Jvm.Cond.methodLink "SpillForgeModel" (443 : Nat) ({ cls := "java/lang/StringBuilder", name := "charAt", desc := "(I)C" } : Jvm.MethodName)) ∈ gw := gw_11 209 rfl rfl
theorem wr_11_212 : (Jvm.Cond.code ({ cls := "java/lang/StringBuilder", name := "charAt", desc := "(I)C" } : Jvm.MethodName) prog_35_method_88_code (2 : Nat) (Option.some Jvm.ClassFile.FieldType.char)) ∈ gw := gw_11 212 rfl rfl
theorem wr_11_210 : (Jvm.Cond.instanceMethod ({ cls := "java/lang/StringBuilder", name := "charAt", desc := "(I)C" } : Jvm.MethodName)) ∈ gw := gw_11 210 rfl rfl
theorem wr_11_211 : (Jvm.Cond.selects "java/lang/StringBuilder" ({ cls := "java/lang/StringBuilder", name := "charAt", desc := "(I)C" } : Jvm.MethodName) ({ cls := "java/lang/StringBuilder", name := "charAt", desc := "(I)C" } : Jvm.MethodName)) ∈ gw := gw_11 211 rfl rfl
theorem dr_cX17_list___117 : decode cX17_list__ 117 = .ok (.i2b, 1) := by decide +kernel
theorem dr_cX17_list___118 : decode cX17_list__ 118 = .ok (.bastore, 1) := by decide +kernel
theorem dr_cX17_list___119 : decode cX17_list__ 119 = .ok (.iinc 2 1, 3) := by decide +kernel
theorem dr_cX17_list___122 : decode cX17_list__ 122 = .ok (.goto (-26), 3) := by decide +kernel
theorem dr_cX17_list___0 : decode cX17_list__ 0 = .ok (.aload_n 0, 1) := by decide +kernel
theorem dr_cX17_list___1 : decode cX17_list__ 1 = .ok (.iconst 0, 1) := by decide +kernel
theorem dr_cX17_list___2 : decode cX17_list__ 2 = .ok (.putfield 380, 3) := by decide +kernel
theorem dr_cX17_list___26 : decode cX17_list__ 26 = .ok (.aload_n 0, 1) := by decide +kernel
theorem dr_cX17_list___27 : decode cX17_list__ 27 = .ok (.iconst 1, 1) := by decide +kernel
theorem dr_cX17_list___28 : decode cX17_list__ 28 = .ok (.invokevirtual 385, 3) := by decide +kernel
theorem dr_cX17_list___31 : decode cX17_list__ 31 = .ok (.ireturn, 1) := by decide +kernel
theorem dr_cX17_list___48 : decode cX17_list__ 48 = .ok (.invokevirtual 438, 3) := by decide +kernel
theorem wr_11_121 : (Jvm.Cond.methodLink "SpillForgeModel" (438 : Nat) ({ cls := "SpillForgeModel", name := "list", desc := "(LSpillForgeModel$Code;)V" } : Jvm.MethodName)) ∈ gw := gw_11 121 rfl rfl
theorem wr_11_124 : (Jvm.Cond.code ({ cls := "SpillForgeModel", name := "list", desc := "(LSpillForgeModel$Code;)V" } : Jvm.MethodName) prog_14_method_32_code (5 : Nat) (Option.none : Option Jvm.ClassFile.FieldType)) ∈ gw := gw_11 124 rfl rfl
theorem wr_11_123 : (Jvm.Cond.instanceMethod ({ cls := "SpillForgeModel", name := "list", desc := "(LSpillForgeModel$Code;)V" } : Jvm.MethodName)) ∈ gw := gw_11 123 rfl rfl
theorem wr_p_116 : Cond.selects "SpillForgeModel" ⟨"SpillForgeModel", "list", "(LSpillForgeModel$Code;)V"⟩ ⟨"SpillForgeModel", "list", "(LSpillForgeModel$Code;)V"⟩ ∈ gw := gw_p _ 116 rfl rfl rfl
theorem dr_cX17_list___94 : decode cX17_list__ 94 = .ok (.iconst 0, 1) := by decide +kernel
theorem dr_cX17_list___95 : decode cX17_list__ 95 = .ok (.istore_n 2, 1) := by decide +kernel
theorem dr_cX17_list___125 : decode cX17_list__ 125 = .ok (.aload_n 0, 1) := by decide +kernel
theorem dr_cX17_list___126 : decode cX17_list__ 126 = .ok (.getfield 426, 3) := by decide +kernel
theorem dr_cX17_list___129 : decode cX17_list__ 129 = .ok (.ireturn, 1) := by decide +kernel
theorem dr_cX17_list___51 : decode cX17_list__ 51 = .ok (.aload_n 0, 1) := by decide +kernel
theorem dr_cX17_list___52 : decode cX17_list__ 52 = .ok (.aload_n 0, 1) := by decide +kernel
theorem dr_cX17_list___53 : decode cX17_list__ 53 = .ok (.getfield 316, 3) := by decide +kernel
theorem dr_cX17_list___56 : decode cX17_list__ 56 = .ok (.invokevirtual 440, 3) := by decide +kernel
theorem wr_11_208 : (Jvm.Cond.methodLink "SpillForgeModel" (440 : Nat) ({ cls := "java/lang/StringBuilder", name := "length", desc := "()I" } : Jvm.MethodName)) ∈ gw := gw_11 208 rfl rfl
theorem wr_11_234 : (Jvm.Cond.selects "java/lang/StringBuilder" ({ cls := "java/lang/StringBuilder", name := "length", desc := "()I" } : Jvm.MethodName) ({ cls := "java/lang/StringBuilder", name := "length", desc := "()I" } : Jvm.MethodName)) ∈ gw := gw_11 234 rfl rfl
theorem dr_cX17_list___59 : decode cX17_list__ 59 = .ok (.putfield 426, 3) := by decide +kernel
theorem dr_cX17_list___62 : decode cX17_list__ 62 = .ok (.aload_n 0, 1) := by decide +kernel
theorem dr_cX17_list___63 : decode cX17_list__ 63 = .ok (.getfield 378, 3) := by decide +kernel
theorem dr_cX17_list___66 : decode cX17_list__ 66 = .ok (.arraylength, 1) := by decide +kernel
theorem dr_cX17_list___67 : decode cX17_list__ 67 = .ok (.aload_n 0, 1) := by decide +kernel
theorem dr_cX17_list___68 : decode cX17_list__ 68 = .ok (.getfield 426, 3) := by decide +kernel
theorem dr_cX17_list___71 : decode cX17_list__ 71 = .ok (.if_icmp .ge 23, 3) := by decide +kernel
theorem dr_cX17_list___74 : decode cX17_list__ 74 = .ok (.aload_n 0, 1) := by decide +kernel
theorem dr_cX17_list___75 : decode cX17_list__ 75 = .ok (.aload_n 0, 1) := by decide +kernel
theorem dr_cX17_list___76 : decode cX17_list__ 76 = .ok (.getfield 426, 3) := by decide +kernel
theorem dr_cX17_list___79 : decode cX17_list__ 79 = .ok (.iconst 2, 1) := by decide +kernel
theorem dr_cX17_list___80 : decode cX17_list__ 80 = .ok (.aload_n 0, 1) := by decide +kernel
theorem dr_cX17_list___81 : decode cX17_list__ 81 = .ok (.getfield 378, 3) := by decide +kernel
theorem dr_cX17_list___84 : decode cX17_list__ 84 = .ok (.arraylength, 1) := by decide +kernel
theorem dr_cX17_list___85 : decode cX17_list__ 85 = .ok (.imul, 1) := by decide +kernel
theorem dr_cX17_list___86 : decode cX17_list__ 86 = .ok (.invokestatic 189, 3) := by decide +kernel
theorem dr_cX17_list___89 : decode cX17_list__ 89 = .ok (.newarray .byte, 2) := by decide +kernel
theorem dr_cX17_list___91 : decode cX17_list__ 91 = .ok (.putfield 378, 3) := by decide +kernel
theorem dr_cX17_list___32 : decode cX17_list__ 32 = .ok (.aload_n 0, 1) := by decide +kernel
theorem dr_cX17_list___33 : decode cX17_list__ 33 = .ok (.iload_n 1, 1) := by decide +kernel
theorem dr_cX17_list___34 : decode cX17_list__ 34 = .ok (.ifCond .eq 10, 3) := by decide +kernel
theorem dr_cX17_list___44 : decode cX17_list__ 44 = .ok (.aload_n 0, 1) := by decide +kernel
theorem dr_cX17_list___45 : decode cX17_list__ 45 = .ok (.getfield 361, 3) := by decide +kernel
theorem dr_cX17_list___37 : decode cX17_list__ 37 = .ok (.aload_n 0, 1) := by decide +kernel
theorem dr_cX17_list___38 : decode cX17_list__ 38 = .ok (.getfield 365, 3) := by decide +kernel
theorem dr_cX17_list___41 : decode cX17_list__ 41 = .ok (.goto 7, 3) := by decide +kernel
theorem dr_cX17_list___5 : decode cX17_list__ 5 = .ok (.iload_n 1, 1) := by decide +kernel
theorem dr_cX17_list___6 : decode cX17_list__ 6 = .ok (.ifCond .eq 13, 3) := by decide +kernel
theorem dr_cX17_list___19 : decode cX17_list__ 19 = .ok (.aload_n 0, 1) := by decide +kernel
theorem dr_cX17_list___20 : decode cX17_list__ 20 = .ok (.getfield 414, 3) := by decide +kernel
theorem dr_cX17_list___23 : decode cX17_list__ 23 = .ok (.ifCond .ne 9, 3) := by decide +kernel
theorem dr_cX17_list___9 : decode cX17_list__ 9 = .ok (.aload_n 0, 1) := by decide +kernel
theorem dr_cX17_list___10 : decode cX17_list__ 10 = .ok (.getfield 416, 3) := by decide +kernel
theorem dr_cX17_list___13 : decode cX17_list__ 13 = .ok (.ifCond .ne 19, 3) := by decide +kernel
theorem dr_cX17_list___16 : decode cX17_list__ 16 = .ok (.goto 10, 3) := by decide +kernel
abbrev ky_lsb : gKey := (cX17_list__, 3, "SpillForgeModel", (some FieldType.int), [], "list", fun _ _ => True)
set_option maxRecDepth 100000 in
set_option maxHeartbeats 4000000 in
theorem ls_cp {l : Launch} {D : va_G} {I : FieldType → ClassId} {P : List Nat} {F1 : Nat → va_E} {γ : Nat → Nat → Nat} {m Ra N a n cs sl mc ms r28 : Nat} {Qf : gFin} {fa : Nat → Int32} {gi mb v9 v10 v11 v12 v13 v14 v23 v24 v25 v26 v27 v30 v32 v33 v34 : Int32} (hl0 : l.stackTraces = false) (mm : m ∈ P) (mR : Ra ∈ P) (mW : γ 9 29 ∈ P) (ma : a ∈ P) (hmR : m ≠ Ra) (hWR : γ 9 29 ≠ Ra) (haR : a ≠ Ra)
    (em : F1 m = mdE γ r28 Ra v9 v10 v11 v12 v13 v14 v23 v24 v25 v26 v27 v30 v32 v33 v34) (eW : F1 (γ 9 29) = .inr (1, [.ref a, .int 0, .int mb, .int v34])) (ea : F1 a = .inl (I .byte, n, .inl fa)) (bmb : gB mb 0 1) (b34 : gB v34 0 8000000) (bfa : gF fa (-128) 127) (hn : v34.toInt ≤ (n : Int)) (hn2 : n ≤ 16777216) (hN : v34.toInt ≤ (N : Int)) (hcs : cs ≤ mc) (hsl : sl ≤ ms)
    (kk : ∀ (F : Nat → va_E) (k : Int32) (f : Nat → Int32), (∀ b, b ≠ Ra → F b = F1 b) → F Ra = .inl (I .byte, N, .inl f) → gF f (-128) 127 → (∀ i, i < v34.toInt.toNat → f i = fa i) → G (gV D I) l (gRm 9 230 mc ms) Qf ky_lsb 125 [(2, .int k), (0, .ref m), (1, .int gi)] [] (va_pl P F) cs sl) :
    ∀ (μ : Nat) (F : Nat → va_E) (k : Int32) (f : Nat → Int32), v34.toInt - k.toInt < (μ : Int) → 0 ≤ k.toInt → k.toInt ≤ v34.toInt → (∀ b, b ≠ Ra → F b = F1 b) → F Ra = .inl (I .byte, N, .inl f) → gF f (-128) 127 → (∀ i, i < k.toInt.toNat → f i = fa i) → G (gV D I) l (gRm 9 230 mc ms) Qf ky_lsb 96 [(2, .int k), (0, .ref m), (1, .int gi)] [] (va_pl P F) cs sl := by
  intro μ
  induction μ with
  | zero => intro F k f h _ h1 _ _ _ _; exact absurd h (by omega)
  | succ μ ih =>
  intro F k f hμ h0 h1 hF eR hf hfa
  have em' := (hF m hmR).trans em
  have eW' := (hF _ hWR).trans eW
  have ea' := (hF a haR).trans ea
  have q34 := b34.2
  refine G_iload_n 0 dr_cX17_list___96 rfl ?_
  refine G_aload_n 1 dr_cX17_list___97 rfl ?_
  refine Gp_get 34 mm em' dr_cX17_list___98 (gk_X17 D I) (Nat.le_of_ble_eq_true rfl) wr_7_108 rfl ?_
  refine G_icmp_ge 125 dr_cX17_list___101 (by decide +kernel) (fun hc => kk F k f hF eR hf (fun i hi => hfa i (by have q : v34.toInt ≤ k.toInt := gj_le hc rfl; omega))) (fun hc => ?_)
  have hlt : k.toInt < v34.toInt := gj_nle hc rfl
  refine G_aload_n 1 dr_cX17_list___104 rfl ?_
  refine Gp_get 35 mm em' dr_cX17_list___105 (gk_X17 D I) (Nat.le_of_ble_eq_true rfl) wr_7_109 rfl ?_
  refine G_iload_n 0 dr_cX17_list___108 rfl ?_
  refine G_aload_n 1 dr_cX17_list___109 rfl ?_
  refine Gp_get 29 mm em' dr_cX17_list___110 (gk_X17 D I) (Nat.le_of_ble_eq_true rfl) wr_7_103 rfl ?_
  refine G_iload_n 0 dr_cX17_list___113 rfl ?_
  refine Gw_callV (As := [.int k]) (gV_ok D I) (cp_658601_StringBuilder_charAt l hl0 D I P F (γ 9 29) a k mb v34 fa n mW ma eW' ea' ⟨h0, by omega⟩ bmb (gB_w b34 (by decide) (by decide)) bfa hlt hn (by omega)) dr_cX17_list___114 ⟨wr_11_209, wr_1_20, wr_11_212, by decide, rfl, (Nat.le_of_ble_eq_true rfl), (Nat.le_of_ble_eq_true rfl)⟩ wr_11_210 wr_11_211 mW eW' rfl (show _ ≤ mc by omega) (show _ ≤ ms by omega) (Nat.le_of_ble_eq_true rfl) (fun r w dc ds hp => ?_) (fun _ _ _ _ _ z => z.elim)
  obtain ⟨o, rfl, rfl, hdc, hds, bo, ht⟩ := hp
  change G _ _ _ _ _ _ _ (.int o :: .int k :: .ref Ra :: []) _ _ _
  refine G_widen (cs' := cs) (sl' := sl) (by omega) (by omega) ?_
  refine G_i2b dr_cX17_list___117 (G_nam fun z hz => ?_)
  refine Gp_bast 1 mR eR dr_cX17_list___118 rfl (gB_inr h0 (by omega)) (fun F2 e2 n2 => ?_)
  obtain ⟨k1, hk1⟩ : ∃ z, z = k + 1 := ⟨_, rfl⟩
  have ek : k1.toInt = k.toInt + 1 := by rw [gI_add hk1 (⟨h0, by omega⟩ : gB k 0 8000000) (gBl (show Int32.toInt 1 = 1 by decide)) (by decide) (by decide), show Int32.toInt 1 = 1 from by decide]
  refine G_iinc (L' := [(2, .int k1), (0, .ref m), (1, .int gi)]) k1 0 dr_cX17_list___119 rfl (by rw [hk1]; rfl) (Nat.le_of_ble_eq_true rfl) rfl ?_
  refine G_goto 96 dr_cX17_list___122 (by decide +kernel) ?_
  exact ih F2 k1 _ (by omega) (by omega) (by omega) (fun b hb => (n2 b hb).trans (hF b hb)) e2 (gF_upd rfl hf gB_byte) (fun i hi => by
    have ekn : k.toNatClampNeg = k.toInt.toNat := rfl
    by_cases c : i = k.toInt.toNat
    · rw [c, ekn, updE]; exact chbt hz ht
    · rw [ekn, updN c]; exact hfa i (by omega))
abbrev ky_mno : gKey := (cX17_no, 2, "SpillForgeModel", (some FieldType.int), [], "no", fun _ _ => True)
/-- what no(x) leaves: the model's thrown -/
def noP (D : va_G) (I : FieldType → ClassId) (P : List Nat) (F : Nat → va_E) (γ el : Nat → Nat → Nat) (m : Nat) (x : Int32) : Option Value → va_W → Nat → Nat → Prop := fun r w dc ds => ∃ F1 : Nat → va_E, r = some (.int 0) ∧ w = va_pl P F1 ∧ RS D I P F1 γ el ∧ (∀ b, b ≠ m → F1 b = F b) ∧ fI (F1 m) 9 = fI (F m) 9 ∧ fI (F1 m) 10 = fI (F m) 10 ∧ fI (F1 m) 32 = fI (F m) 32 ∧ dc ≤ 0 ∧ ds ≤ 0 ∧ fR (F1 m) 35 = fR (F m) 35 ∧ mO (F1 m) = mO (F m) ∧ fI (F1 m) 30 = x
theorem cp_mno (l : Launch) (hl0 : l.stackTraces = false) (D : va_G) (I : FieldType → ClassId) {P : List Nat} {F : Nat → va_E} {γ el : Nat → Nat → Nat} {m : Nat} {x : Int32} (hT : RS D I P F γ el) (hm : γ 0 m = 10) :
    CtA (gV D I) l yX17_no cX17_no 2 (some FieldType.int) 0 0 0 0 [.ref m, .int x] (va_pl P F) (noP D I P F γ el m x) gNA := by
  refine CtA_of hl0 (by decide) (Nat.le_of_ble_eq_true rfl) ?_
  obtain ⟨r28, r35, v9, v10, v11, v12, v13, v14, v23, v24, v25, v26, v27, v30, v32, v33, v34, he, hM1, hK, hM2⟩ := rk10_m (show rk_10 γ (F m) from RS_o hT hm)
  have mm : m ∈ P := hT.1 m (by omega)
  refine G_aload_n 0 dr_cX17_no_0 rfl ?_
  refine G_iload_n 1 dr_cX17_no_1 rfl ?_
  refine Gp_put 30 mm he dr_cX17_no_2 (gk_X17 D I) (Nat.le_of_ble_eq_true rfl) wr_7_104 rfl rfl rfl (Nat.le_of_ble_eq_true rfl) (fun F1 e1 n1 => ?_)
  have e1' : F1 m = mdE γ r28 r35 v9 v10 v11 v12 v13 v14 v23 v24 v25 v26 v27 x v32 v33 v34 := e1
  refine G_iconst 0 dr_cX17_no_5 (by decide +kernel) ?_
  exact G_iretA dr_cX17_no_6 rfl (Nat.le_refl _) (Nat.le_refl _) ⟨F1, rfl, rfl, RS_md hT hm n1 e1' hM1 hK hM2, n1, by rw [e1', he]; rfl, by rw [e1', he]; rfl, by rw [e1', he]; rfl, Nat.le_refl _, Nat.le_refl _, by rw [e1', he]; rfl, by rw [e1', he]; rfl, by rw [e1']; rfl⟩
/-- what list(given) costs: by the growth of the words and of the result -/
def lsC (n L n1 L1 C dc ds : Nat) : Prop := n ≤ n1 ∧ (n1 = n ∨ n1 ≤ 2 * C + 16) ∧ L ≤ L1 ∧ (L1 = L ∨ L1 ≤ 2 * C) ∧ 128 * dc + 64 * n + 2 * L ≤ 64 * n1 + 2 * L1 ∧ ds + 2 * n + 2 * L ≤ 2 * n1 + 2 * L1
theorem lsA {n n2 L C K dc ds mc ms : Nat} {c2 : Int} (hK : K ≤ C) (h1 : c2 ≤ 0 + (K : Int)) (h2 : n ≤ n2) (h3 : n2 = n ∨ (n2 : Int) ≤ 2 * c2 + 16) (h4 : 2 * dc + n ≤ n2) (h5 : ds + 2 * n ≤ 2 * n2) (hr : rmW mc ms n C) : lsC n L n2 L C dc ds ∧ dc ≤ mc ∧ ds ≤ ms ∧ n2 ≤ 8000000 ∧ c2 ≤ 2000000 := by
  obtain ⟨r1, r2, r3, r4, r5⟩ := hr
  exact ⟨⟨h2, by omega, Nat.le_refl _, Or.inl rfl, by omega, by omega⟩, by omega, by omega, by omega, by omega⟩
theorem lsB {n n2 L N C K dc ds mc ms : Nat} {c2 : Int} (hK : K ≤ C) (h1 : c2 ≤ 0 + (K : Int)) (h2 : n ≤ n2) (h3 : n2 = n ∨ (n2 : Int) ≤ 2 * c2 + 16) (h4 : 2 * dc + n ≤ n2) (h5 : ds + 2 * n ≤ 2 * n2) (hr : rmW mc ms n C) (h2C : 2 * C ≤ ms) (hL64 : 64 ≤ L) (hL : (L : Int) < c2) (hN : (N : Int) = c2 ∨ N = 2 * L) (hN1 : c2 ≤ (N : Int)) (hN2 : 2 * L ≤ N) : lsC n L n2 N C (dc + 1) (ds + N) ∧ dc + 1 ≤ mc ∧ ds + N ≤ ms ∧ N ≤ 4000000 := by
  obtain ⟨r1, r2, r3, r4, r5⟩ := hr
  exact ⟨⟨h2, by omega, by omega, by omega, by omega, by omega⟩, by omega, by omega, by omega⟩
def lsP (D : va_G) (I : FieldType → ClassId) (P : List Nat) (F : Nat → va_E) (γ el : Nat → Nat → Nat) (m C : Nat) (gi : Int32) : Option Value → va_W → Nat → Nat → Prop := fun r w dc ds => ∃ (P1 : List Nat) (F1 : Nat → va_E) (γ1 : Nat → Nat → Nat) (x : Int32) (n1 L1 : Nat),
  r = some (.int x) ∧ w = va_pl P1 F1 ∧ RS D I P1 F1 γ1 el ∧ rSub P P1 ∧ rStr γ [96] F F1 ∧ (∀ j, j ≠ 0 → j ≠ 12 → γ1 j = γ j) ∧ (∀ b, γ 0 b ≠ 0 → γ1 0 b = γ 0 b ∧ γ1 12 b = γ 12 b) ∧ fI (F1 m) 9 = fI (F m) 9 ∧ fI (F1 m) 10 = fI (F m) 10 ∧ fI (F1 m) 32 = fI (F m) 32 ∧ ((mO (F1 m)).1.1, (mO (F1 m)).2) = ((mO (F m)).1.1, (mO (F m)).2) ∧
  γ1 12 (fR (F1 (γ 9 29)) 0) = n1 ∧ γ1 12 (fR (F1 m) 35) = L1 ∧ lsC (γ 12 (fR (F (γ 9 29)) 0)) (γ 12 (fR (F m) 35)) n1 L1 C dc ds ∧
  ((((gi = 0 ∧ (fI (F m) 9).toInt = 0) ∨ (¬ gi = 0 ∧ (fI (F m) 10).toInt = 0)) ∧ (fI (F1 m) 30).toInt = 1 ∧ (fR (F1 m) 35 = fR (F m) 35 ∧ fI (F1 m) 34 = fI (F m) 34) ∧ F1 (fR (F m) 35) = F (fR (F m) 35)) ∨ ((fI (F1 m) 30).toInt = 0 ∧ ∃ (F' : Nat → va_E) (cc f : Nat), (∀ b, b ≠ m → F' b = F b) ∧ ((gi = 0 ∧ (fI (F m) 9).toInt ≠ 0 ∧ cc = γ 9 6 ∧ f = 0) ∨ (¬ gi = 0 ∧ (fI (F m) 10).toInt ≠ 0 ∧ cc = γ 9 7 ∧ f = 1)) ∧ x.toInt = ((zrP γ el F' cc (γ 6 f)).length : Int) ∧ fI (F1 m) 34 = x ∧ lt9 (zrP γ el F' cc (γ 6 f)) (cB (F1 (fR (F1 m) 35)))))
set_option maxRecDepth 100000 in
set_option maxHeartbeats 4000000 in
theorem cp_lsb (l : Launch) (hl0 : l.stackTraces = false) (D : va_G) (I : FieldType → ClassId) {P : List Nat} {F : Nat → va_E} {γ el : Nat → Nat → Nat} {m C mc ms : Nat} {gi : Int32} (hT : RS D I P F γ el) (hm : γ 0 m = 10) (hf9 : (fI (F m) 9).toInt = 0 ∨ 0 < γ 6 0) (hf10 : (fI (F m) 10).toInt = 0 ∨ 0 < γ 6 1) (hC0 : (fI (F m) 9).toInt = 0 ∨ 52 * γ 16 0 + 2400 ≤ C) (hC1 : 52 * γ 16 1 + 2400 ≤ C) (hr : rmW mc ms (γ 12 (fR (F (γ 9 29)) 0)) C) (h2C : 2 * C ≤ ms) (h64 : 64 ≤ γ 12 (fR (F m) 35)) :
    CtA (gV D I) l yX17_list__ cX17_list__ 3 (some FieldType.int) 9 230 mc ms [.ref m, .int gi] (va_pl P F) (lsP D I P F γ el m C gi) gNA := by
  refine CtA_of hl0 (by decide) (Nat.le_of_ble_eq_true rfl) ?_
  obtain ⟨r28, r35, v9, v10, v11, v12, v13, v14, v23, v24, v25, v26, v27, v30, v32, v33, v34, he, hM1, hK, hM2⟩ := rk10_m (show rk_10 γ (F m) from RS_o hT hm)
  have mm : m ∈ P := hT.1 m (by omega)
  have e9 : fI (F m) 9 = v9 := by rw [he]; rfl
  have e10 : fI (F m) 10 = v10 := by rw [he]; rfl
  have e32 : fI (F m) 32 = v32 := by rw [he]; rfl
  have e35 : fR (F m) 35 = r35 := by rw [he]; rfl
  obtain ⟨k0, k1, k2, k3, k4, k5, k6, k7, k8, k9, k10, k11, k12, k13, k14, k15, k16, k17, k18, kW, k20, k21, k22, k23⟩ := id hK
  have hW28 : γ 0 (γ 9 29) = 28 := kW
  have h27 : γ 0 r35 = 96 := k1
  have hWm : γ 9 29 ≠ m := fun e => by rw [e, hm] at hW28; cases hW28
  have hRm : r35 ≠ m := fun e => by rw [e, hm] at h27; cases h27
  have z0 : Int32.toInt 0 = 0 := by decide
  have z2 : Int32.toInt 2 = 2 := by decide
  refine G_aload_n 0 dr_cX17_list___0 rfl ?_
  refine G_iconst 0 dr_cX17_list___1 (by decide +kernel) ?_
  refine Gp_put 30 mm he dr_cX17_list___2 (gk_X17 D I) (Nat.le_of_ble_eq_true rfl) wr_7_104 rfl rfl rfl (Nat.le_of_ble_eq_true rfl) (fun F1 e1 n1 => ?_)
  have e1' : F1 m = mdE γ r28 r35 v9 v10 v11 v12 v13 v14 v23 v24 v25 v26 v27 0 v32 v33 v34 := e1
  have hT1 := RS_md hT hm n1 e1' hM1 hK hM2
  have eW1 : F1 (γ 9 29) = F (γ 9 29) := n1 _ hWm
  have lo : 1 ≤ mc := hr.2.1
  have k26 : ((gi = 0 ∧ (fI (F m) 9).toInt = 0) ∨ (¬ gi = 0 ∧ (fI (F m) 10).toInt = 0)) → G (gV D I) l (gRm 9 230 mc ms) (gMA (gV D I) (lsP D I P F γ el m C gi) gNA mc ms) ky_lsb 26 [(0, .ref m), (1, .int gi)] [] (va_pl P F1) 0 0 := fun hno => by
    refine G_aload_n 0 dr_cX17_list___26 rfl ?_
    refine G_iconst 1 dr_cX17_list___27 (by decide +kernel) ?_
    refine Gw_callV (As := [.int 1]) (gV_ok D I) (cp_mno l hl0 D I (x := 1) hT1 hm) dr_cX17_list___28 ⟨wr_7_191, wr_1_14, wr_7_194, by decide, rfl, (Nat.le_of_ble_eq_true rfl), (Nat.le_of_ble_eq_true rfl)⟩ wr_7_193 wr_p_73 mm e1' rfl (Nat.zero_le _) (Nat.zero_le _) (Nat.le_of_ble_eq_true rfl) (fun r w dc ds hp => ?_) (fun _ _ _ _ _ z => z.elim)
    obtain ⟨F2, rfl, rfl, hT2, n2, y9, y10, y32, hdc, hds, y35, yO, y30⟩ := hp
    change G _ _ _ _ _ _ _ (.int 0 :: []) _ _ _
    refine G_iretA dr_cX17_list___31 rfl (by omega) (by omega) ⟨P, F2, γ, 0, _, _, rfl, rfl, hT2, rSub_rf, fun b h0 hb _ => have q : b ≠ m := (fun e => by rw [e, hm] at hb; omega); (n2 b q).trans (n1 b q), fun _ _ _ => rfl, fun _ _ => ⟨rfl, rfl⟩, ?_, ?_, ?_, ?_, rfl, rfl, ?_, Or.inl ⟨hno, by rw [y30]; decide, ⟨by rw [y35, e1', e35]; rfl, by rw [show fI (F2 m) 34 = fI (F1 m) 34 from congrArg (fun z => z.1.2) yO, e1', he]; rfl⟩, by rw [e35, n2 _ hRm, n1 _ hRm]⟩⟩
    · rw [y9, e1', he]; rfl
    · rw [y10, e1', he]; rfl
    · rw [y32, e1', he]; rfl
    · rw [show ((mO (F2 m)).1.1, (mO (F2 m)).2) = ((mO (F1 m)).1.1, (mO (F1 m)).2) from congrArg (fun z => (z.1.1, z.2)) yO, e1', he]; rfl
    · have g1 : fR (F2 (γ 9 29)) 0 = fR (F (γ 9 29)) 0 := by rw [n2 _ hWm, eW1]
      have g2 : fR (F2 m) 35 = fR (F m) 35 := by rw [y35, e1', e35]; rfl
      rw [g1, g2]
      exact ⟨Nat.le_refl _, Or.inl rfl, Nat.le_refl _, Or.inl rfl, by omega, by omega⟩
  have k48 : ∀ cc f : Nat, ((gi = 0 ∧ (fI (F m) 9).toInt ≠ 0 ∧ cc = γ 9 6 ∧ f = 0) ∨ (¬ gi = 0 ∧ (fI (F m) 10).toInt ≠ 0 ∧ cc = γ 9 7 ∧ f = 1)) → γ 0 cc = 9 → γ 1 cc = f → 0 < γ 6 f → 52 * γ 16 f + 2400 ≤ C → G (gV D I) l (gRm 9 230 mc ms) (gMA (gV D I) (lsP D I P F γ el m C gi) gNA mc ms) ky_lsb 48 [(0, .ref m), (1, .int gi)] [.ref cc, .ref m] (va_pl P F1) 0 0 := fun cc f hyes hc9 hcf h6 hCf => by
    obtain ⟨a, n, c, ws0, hb, ha29, hn12, hn16⟩ := wdS_beg hT1 hW28
    obtain ⟨mb0, ew0, -⟩ := hb.2.1.2.2
    have ea0 : fR (F (γ 9 29)) 0 = a := by rw [← eW1, ew0]; rfl
    rw [ea0, ← hn12] at hr
    have hlet := lc_let hT1 hc9 hcf h6
    refine Gw_callV (As := [.ref cc]) (gV_ok D I) (cp_lcd l hl0 D I (C := C) hT1 hm e1' hc9 hcf h6 hb (Int.ofNat_le.mpr (Nat.le_trans hlet hCf)) hr) dr_cX17_list___48 ⟨wr_11_121, wr_1_14, wr_11_124, by decide, rfl, (Nat.le_of_ble_eq_true rfl), (Nat.le_of_ble_eq_true rfl)⟩ wr_11_123 wr_p_116 mm e1' rfl (show 0 + mc ≤ mc by omega) (show 0 + ms ≤ ms by omega) (Nat.le_of_ble_eq_true rfl) (fun r w dc ds hp => ?_) (fun _ _ _ _ _ z => z.elim)
    obtain ⟨P2, F2, a2, n2, c2, rfl, rfl, h2, q2⟩ := hp
    change G _ _ _ _ _ _ _ [] _ _ _
    refine G_widen (cs' := dc) (sl' := ds) (by omega) (by omega) ?_
    obtain ⟨q21, q22, q23, q24, q25, q26⟩ := q2
    rw [z0] at q21 q22
    have hKC : rsum (fun i => 52 * γ 2 (γ 14 (el (γ 14 cc) i)) + 60) (γ 6 f) ≤ C := Nat.le_trans hlet hCf
    obtain ⟨x1, x2, x3, x4, x5⟩ := lsA (L := γ 12 r35) hKC q22 q23 q24 q25 q26 hr
    obtain ⟨mm2, em2⟩ := wdS_F h2 hm (by decide) (by decide) (by decide)
    have em2' := em2.trans e1'
    obtain ⟨mR2, eR2⟩ := wdS_F h2 h27 (by decide) (by decide) (by decide)
    obtain ⟨-, ⟨mW2, -, mb, eW2, bmb⟩, ⟨ma2, fA, ea2, bfA⟩, -, bc2, hc2, hL2, hw2⟩ := id h2
    rw [cB_of ea2] at hw2
    obtain ⟨γ3, hT3, hj3, hk3, ka3, na3⟩ := wdS_end h2 (by omega)
    have g9 : γ3 9 = γ 9 := hj3 9 (by decide) (by decide)
    have hm3 : γ3 0 m = 10 := (hk3 m (by omega)).1.trans hm
    have h273 : γ3 0 r35 = 96 := (hk3 r35 (by omega)).1.trans h27
    have h123 : γ3 12 r35 = γ 12 r35 := (hk3 r35 (by omega)).2
    obtain ⟨L, fL, eL, bfL, hL16, hL12⟩ := show rk_96 I γ3 r35 (F2 r35) from RS_o hT3 h273
    have hLL : L = γ 12 r35 := hL12.trans h123
    have hL64 : 64 ≤ L := by rw [hLL, ← e35]; exact h64
    have haW : a2 ≠ γ 9 29 := fun e => by rw [e, eW2] at ea2; cases ea2
    have ham : a2 ≠ m := fun e => by rw [e, hm3] at ka3; cases ka3
    have haR : a2 ≠ r35 := fun e => by rw [e, h273] at ka3; cases ka3
    have hWR : γ 9 29 ≠ r35 := fun e => by rw [← e, hW28] at h27; cases h27
    have hs2 : rSub P P2 := h2.1.2.1
    have hc20 : 0 ≤ c2.toInt := by omega
    have b34 : gB c2 0 8000000 := ⟨hc20, by omega⟩
    have hst2 : rStr γ [96] F F2 := fun b h0 hb _ => have q : b ≠ m := (fun e => by rw [e, hm] at hb; omega); ((wdS_F h2 (rfl : γ 0 b = γ 0 b) h0 (by omega) (by omega)).2).trans (n1 b q)
    have k94 : ∀ (P4 : List Nat) (F4 : Nat → va_E) (γ4 : Nat → Nat → Nat) (Ra N cs4 sl4 : Nat) (fa : Nat → Int32), RS D I P4 F4 γ4 el → rSub P2 P4 → rStr γ [96] F F4 → (∀ j, j ≠ 0 → j ≠ 12 → γ4 j = γ j) → (∀ b, γ 0 b ≠ 0 → γ4 0 b = γ 0 b ∧ γ4 12 b = γ 12 b) → F4 m = mdE γ r28 Ra v9 v10 v11 v12 v13 v14 v23 v24 v25 v26 v27 0 v32 v33 c2 → F4 (γ 9 29) = F2 (γ 9 29) → F4 a2 = F2 a2 → γ4 12 a2 = n2 → Ra ∈ P4 → m ≠ Ra → γ 9 29 ≠ Ra → a2 ≠ Ra → F4 Ra = .inl (I .byte, N, .inl fa) → gF fa (-128) 127 → γ4 0 Ra = 96 → γ4 12 Ra = N → c2.toInt ≤ (N : Int) → N ≤ 16777216 → lsC n (γ 12 r35) n2 N C cs4 sl4 → cs4 ≤ mc → sl4 ≤ ms → G (gV D I) l (gRm 9 230 mc ms) (gMA (gV D I) (lsP D I P F γ el m C gi) gNA mc ms) ky_lsb 94 [(0, .ref m), (1, .int gi)] [] (va_pl P4 F4) cs4 sl4 := by
      intro P4 F4 γ4 Ra N cs4 sl4 fa hT4 hs4 hst4 hj4 hk4 em4 eW4 ea4 na4 mR4 hmR hWRa haRa eR4 bf4 k27 n27 hcN hN16 hcost hcs hsl
      refine G_iconst 0 dr_cX17_list___94 (by decide +kernel) ?_
      refine G_istore_n (L' := [(2, .int 0), (0, .ref m), (1, .int gi)]) dr_cX17_list___95 (Nat.le_of_ble_eq_true rfl) rfl ?_
      refine ls_cp hl0 (hs4 _ mm2) mR4 (hs4 _ mW2) (hs4 _ ma2) hmR hWRa haRa em4 (eW4.trans eW2) (ea4.trans ea2) bmb b34 bfA hc2 (by omega) hcN hcs hsl (fun F5 k5 f5 hF5 eR5 hf5 hfa5 => ?_) (c2.toInt.toNat + 1) F4 0 fa (by rw [z0]; omega) (by rw [z0]; decide) (by rw [z0]; omega) (fun _ _ => rfl) eR4 bf4 (fun i hi => absurd hi (by rw [z0]; exact Nat.not_lt_zero i))
      have hT5 := RS_set hT4 hF5 (show rKd γ4 Ra 96 from k27) (by decide) ⟨N, f5, eR5, hf5, by omega, n27.symm⟩
      have em5 : F5 m = mdE γ r28 Ra v9 v10 v11 v12 v13 v14 v23 v24 v25 v26 v27 0 v32 v33 c2 := (hF5 m hmR).trans em4
      refine G_aload_n 1 dr_cX17_list___125 rfl ?_
      refine Gp_get 34 (hs4 _ mm2) em5 dr_cX17_list___126 (gk_X17 D I) (Nat.le_of_ble_eq_true rfl) wr_7_108 rfl ?_
      refine G_iretA dr_cX17_list___129 rfl hcs hsl ⟨P4, F5, γ4, c2, n2, N, rfl, rfl, hT5, fun b hb => hs4 b (hs2 b hb), fun b h0 hb hw => (hF5 b (fun e => by have q := (hk4 b h0).1; rw [e, k27] at q; exact hw (by rw [e, ← q]; exact List.mem_cons_self))).trans (hst4 b h0 hb hw), hj4, hk4, ?_, ?_, ?_, ?_, ?_, ?_, ?_, Or.inr ⟨by rw [em5]; exact z0, F1, cc, f, n1, hyes, hL2, by rw [em5]; rfl, fun i hi => ?_⟩⟩
      · rw [em5, he]; rfl
      · rw [em5, he]; rfl
      · rw [em5, he]; rfl
      · rw [em5, he]; rfl
      · have g1 : fR (F5 (γ 9 29)) 0 = a2 := by rw [hF5 _ hWRa, eW4, eW2]; rfl
        rw [g1]; exact na4
      · have g2 : fR (F5 m) 35 = Ra := by rw [em5]; rfl
        rw [g2]; exact n27
      · rw [ea0, e35, ← hn12]; exact hcost
      · have g2 : fR (F5 m) 35 = Ra := by rw [em5]; rfl
        rw [g2, cB_of eR5, hfa5 i (by omega)]; exact hw2 i hi
    refine G_aload_n 0 dr_cX17_list___51 rfl ?_
    refine G_aload_n 0 dr_cX17_list___52 rfl ?_
    refine Gp_get 29 mm2 em2' dr_cX17_list___53 (gk_X17 D I) (Nat.le_of_ble_eq_true rfl) wr_7_103 rfl ?_
    refine Gw_callV (As := []) (gV_ok D I) (cp_658573_StringBuilder_length l hl0 D I P2 F2 (γ 9 29) a2 mb c2 fA n2 mW2 ma2 eW2 ea2 bmb bc2 bfA (by omega)) dr_cX17_list___56 ⟨wr_11_208, wr_1_20, wr_8_89, by decide, rfl, (Nat.le_of_ble_eq_true rfl), (Nat.le_of_ble_eq_true rfl)⟩ wr_8_88 wr_11_234 mW2 eW2 rfl (show _ ≤ mc by omega) (show _ ≤ ms by omega) (Nat.le_of_ble_eq_true rfl) (fun r w dc3 ds3 hp => ?_) (fun _ _ _ _ _ z => z.elim)
    obtain ⟨rfl, rfl, hdc3, hds3⟩ := hp
    change G _ _ _ _ _ _ _ (.int c2 :: .ref m :: []) _ _ _
    refine G_widen (cs' := dc) (sl' := ds) (by omega) (by omega) ?_
    refine Gp_put 34 mm2 em2' dr_cX17_list___59 (gk_X17 D I) (Nat.le_of_ble_eq_true rfl) wr_7_108 rfl rfl rfl (Nat.le_of_ble_eq_true rfl) (fun F3 e3 n3 => ?_)
    have e3' : F3 m = mdE γ r28 r35 v9 v10 v11 v12 v13 v14 v23 v24 v25 v26 v27 0 v32 v33 c2 := e3
    have hst3 : rStr γ [96] F F3 := fun b h0 hb hw => (n3 b (fun e => by rw [e, hm] at hb; omega)).trans (hst2 b h0 hb hw)
    have eR3 : F3 r35 = .inl (I .byte, L, .inl fL) := (n3 _ hRm).trans eL
    refine G_aload_n 0 dr_cX17_list___62 rfl ?_
    refine Gp_get 35 mm2 e3' dr_cX17_list___63 (gk_X17 D I) (Nat.le_of_ble_eq_true rfl) wr_7_109 rfl ?_
    refine Gp_alen (Int32.ofNat L) 1 mR2 eR3 dr_cX17_list___66 rfl rfl (G_nam fun z hz => ?_)
    have ez : z.toInt = (L : Nat) := gI_ofM hz (by omega)
    refine G_aload_n 0 dr_cX17_list___67 rfl ?_
    refine Gp_get 34 mm2 e3' dr_cX17_list___68 (gk_X17 D I) (Nat.le_of_ble_eq_true rfl) wr_7_108 rfl ?_
    have em3 : F3 m = mdE γ3 r28 r35 v9 v10 v11 v12 v13 v14 v23 v24 v25 v26 v27 0 v32 v33 c2 := by
      rw [e3']
      unfold mdE
      rw [g9]
    obtain ⟨p9, p10, p11, p14, p25, p26, p27, p32, p34⟩ := hM1
    have hM13 : rM1 v9 v10 v11 v14 v25 v26 v27 v32 c2 := ⟨p9, p10, p11, p14, p25, p26, p27, p32, gB_w b34 (by decide) (by decide)⟩
    have hK3 : mdK γ3 r28 r35 := by
      obtain ⟨s28, s35, u9, u10, u11, u12, u13, u14, u23, u24, u25, u26, u27, u30, u32, u33, u34, ue, -, uK, -⟩ := rk10_m (show rk_10 γ3 (F2 m) from RS_o hT3 hm3)
      have w1 : fR (F2 m) 28 = s28 := by rw [ue]; rfl
      have w2 : fR (F2 m) 28 = r28 := by rw [em2']; rfl
      have w3 : fR (F2 m) 35 = s35 := by rw [ue]; rfl
      have w4 : fR (F2 m) 35 = r35 := by rw [em2']; rfl
      rw [w1.symm.trans w2, w3.symm.trans w4] at uK
      exact uK
    have h2f : (v9.toInt = 0 ∨ 0 < γ3 6 0 ∨ 0 < γ3 23 0) ∧ (v10.toInt = 0 ∨ 0 < γ3 6 1 ∨ 0 < γ3 23 1) := by
      rw [hj3 6 (by decide) (by decide), hj3 23 (by decide) (by decide)]
      exact ⟨hM2.1, hM2.2.1⟩
    refine G_icmp_ge 94 dr_cX17_list___71 (by decide +kernel) (fun hc => ?_) (fun hc => ?_)
    · have hle : c2.toInt ≤ z.toInt := gj_le hc rfl
      have hT3' := RS_md hT3 hm3 n3 em3 hM13 hK3 ⟨h2f.1, h2f.2, by omega⟩
      exact k94 P2 F3 γ3 r35 L dc ds fL hT3' rSub_rf hst3 hj3 hk3 e3' (n3 _ hWm) (n3 _ ham) na3 mR2 (Ne.symm hRm) hWR haR eR3 bfL h273 hL12.symm (by omega) (by omega) (by rw [← hLL] at x1 ⊢; exact x1) x2 x3
    · have hlt : z.toInt < c2.toInt := gj_nle hc rfl
      refine G_aload_n 0 dr_cX17_list___74 rfl ?_
      refine G_aload_n 0 dr_cX17_list___75 rfl ?_
      refine Gp_get 34 mm2 e3' dr_cX17_list___76 (gk_X17 D I) (Nat.le_of_ble_eq_true rfl) wr_7_108 rfl ?_
      refine G_iconst 2 dr_cX17_list___79 (by decide +kernel) ?_
      refine G_aload_n 0 dr_cX17_list___80 rfl ?_
      refine Gp_get 35 mm2 e3' dr_cX17_list___81 (gk_X17 D I) (Nat.le_of_ble_eq_true rfl) wr_7_109 rfl ?_
      refine Gp_alen (Int32.ofNat L) 1 mR2 eR3 dr_cX17_list___84 rfl rfl (G_nam fun y hy => ?_)
      have ey : y.toInt = (L : Nat) := gI_ofM hy (by omega)
      have by' : gB y 0 8000000 := ⟨by omega, by omega⟩
      refine G_imul dr_cX17_list___85 (G_nam fun t ht => ?_)
      have et : t.toInt = 2 * y.toInt := by rw [gI_mul ht (gBl z2) by' (by decide) (by decide) (by decide), z2]
      refine G_mmax dr_cX17_list___86 wr_11_21 wr_1_140 wr_1_6 wr_1_141 (Nat.le_of_ble_eq_true rfl) (Nat.le_of_ble_eq_true rfl) (show dc ≤ mc by omega) (show ds ≤ ms by omega) (G_nam fun u hu => ?_)
      have eu := gI_max hu
      obtain ⟨N, hN⟩ : ∃ N : Nat, N = u.toInt.toNat := ⟨_, rfl⟩
      have hu0 : (N : Int) = u.toInt := by omega
      obtain ⟨y1, y2, y3, y4⟩ := lsB (L := L) (N := N) hKC q22 q23 q24 q25 q26 hr h2C hL64 (by omega) (by omega) (by omega) (by omega)
      refine G_newa 1 (N, .inl (fun _ => 0)) dr_cX17_list___89 rfl rfl (by intro C h; cases h) wr_1_66 (fun _ => ga_byte _ _) (g_n0 (by omega)) (show u.toNatClampNeg = N from hN.symm) (show N * 1 ≤ 536870912 by omega) (show dc + 1 ≤ mc by omega) (show ds + N ≤ ms by omega) (fun A => Gp_in (fun P4 F4 hq hP e4 n4 => ?_))
      have hs4 : rSub P2 P4 := rSub_new (rSub_rf (P := P2)) hP
      have mA4 : A ∈ P4 := (hP A).mpr (Or.inr rfl)
      have nA : ∀ b, b ∈ P2 → b ≠ A := fun b hb e => hq (e ▸ hb)
      have e4m : F4 m = mdE γ r28 r35 v9 v10 v11 v12 v13 v14 v23 v24 v25 v26 v27 0 v32 v33 c2 := (n4 m (nA m mm2)).trans e3'
      refine Gp_put 35 (hs4 m mm2) e4m dr_cX17_list___91 (gk_X17 D I) (Nat.le_of_ble_eq_true rfl) wr_7_109 rfl rfl rfl (Nat.le_of_ble_eq_true rfl) (fun F5 e5 n5 => ?_)
      have e5' : F5 m = mdE γ r28 A v9 v10 v11 v12 v13 v14 v23 v24 v25 v26 v27 0 v32 v33 c2 := e5
      have em5 : F5 m = mdE γ3 r28 A v9 v10 v11 v12 v13 v14 v23 v24 v25 v26 v27 0 v32 v33 c2 := by
        rw [e5']
        unfold mdE
        rw [g9]
      have A0 : γ3 0 A = 0 := RS_new hT3 hq
      have hAm : A ≠ m := fun e => by rw [e, hm3] at A0; cases A0
      have eA5 : F5 A = .inl (I .byte, N, .inl (fun _ => 0)) := (n5 A hAm).trans e4
      have hT5 := ls_fin hT3 hm3 hq hs4 mA4 (fun b hb hbA => (n5 b hb).trans ((n4 b hbA).trans (n3 b hb))) eA5 (fun _ => ⟨show _ ≤ Int32.toInt 0 by decide, show Int32.toInt 0 ≤ _ by decide⟩) (by omega) em5 hM13 hK3 h2f (by omega)
      have l0 : ∀ b, gLn γ3 A N 0 b = γ3 0 b := fun b => if_neg (fun w => absurd w.1 (by decide))
      have lj : ∀ j, j ≠ 12 → gLn γ3 A N j = γ3 j := fun j hj => by
        funext b
        exact if_neg (fun w => hj w.1)
      have l12 : ∀ b, b ≠ A → gLn γ3 A N 12 b = γ3 12 b := fun b hb => if_neg (fun w => hb w.2)
      have g12 : gNw (gLn γ3 A N) A 96 12 = gLn γ3 A N 12 := gNw_j (by decide)
      have hne : ∀ b, γ 0 b ≠ 0 → b ≠ A := fun b hb e => hb (by
        have := (hk3 b hb).1
        rw [e, A0] at this
        rw [e]
        exact this.symm)
      refine k94 P4 F5 (gNw (gLn γ3 A N) A 96) A N (dc + 1) (ds + N) (fun _ => 0) hT5 hs4 (fun b h0 hb hw => (n5 b (fun e => by rw [e, hm] at hb; omega)).trans ((n4 b (hne b h0)).trans (hst3 b h0 hb hw))) (fun j h0 h12 => (gNw_j h0).trans ((lj j h12).trans (hj3 j h0 h12))) (fun b hb => ⟨(gNw_ne (hne b hb)).trans ((l0 b).trans (hk3 b hb).1), ?_⟩) e5' ((n5 _ hWm).trans ((n4 _ (nA _ mW2)).trans (n3 _ hWm))) ((n5 _ ham).trans ((n4 _ (nA _ ma2)).trans (n3 _ ham))) ?_ mA4 (Ne.symm hAm) (nA _ mW2) (nA _ ma2) eA5 (fun _ => ⟨show _ ≤ Int32.toInt 0 by decide, show Int32.toInt 0 ≤ _ by decide⟩) (if_pos ⟨rfl, rfl⟩) ?_ (by omega) (by omega) (by rw [← hLL]; exact y1) y2 y3
      · rw [g12, l12 b (hne b hb)]; exact (hk3 b hb).2
      · rw [g12, l12 a2 (nA _ ma2)]; exact na3
      · rw [g12]; exact if_pos ⟨rfl, rfl⟩
  have nz : ∀ x : Int32, ¬ x = 0 → x.toInt ≠ 0 := fun x hx e => hx (Int32.toInt_inj.mp (e.trans z0.symm))
  have k32 : (¬ gi = 0 → 0 < γ 6 1 ∧ (fI (F m) 10).toInt ≠ 0) → (gi = 0 → 0 < γ 6 0 ∧ 52 * γ 16 0 + 2400 ≤ C ∧ (fI (F m) 9).toInt ≠ 0) → G (gV D I) l (gRm 9 230 mc ms) (gMA (gV D I) (lsP D I P F γ el m C gi) gNA mc ms) ky_lsb 32 [(0, .ref m), (1, .int gi)] [] (va_pl P F1) 0 0 := fun h1 h0 => by
    refine G_aload_n 0 dr_cX17_list___32 rfl ?_
    refine G_iload_n 1 dr_cX17_list___33 rfl ?_
    refine G_if_eq 44 dr_cX17_list___34 (by decide +kernel) (fun hc => ?_) (fun hc => ?_)
    · refine G_aload_n 0 dr_cX17_list___44 rfl ?_
      exact Gp_get 6 mm e1' dr_cX17_list___45 (gk_X17 D I) (Nat.le_of_ble_eq_true rfl) wr_7_80 rfl (k48 _ 0 (Or.inl ⟨hc, (h0 hc).2.2, rfl, rfl⟩) k8 k21 (h0 hc).1 (h0 hc).2.1)
    · refine G_aload_n 0 dr_cX17_list___37 rfl ?_
      refine Gp_get 7 mm e1' dr_cX17_list___38 (gk_X17 D I) (Nat.le_of_ble_eq_true rfl) wr_7_81 rfl ?_
      exact G_goto 48 dr_cX17_list___41 (by decide +kernel) (k48 _ 1 (Or.inr ⟨hc, (h1 hc).2, rfl, rfl⟩) k9 k22 (h1 hc).1 hC1)
  refine G_iload_n 1 dr_cX17_list___5 rfl ?_
  refine G_if_eq 19 dr_cX17_list___6 (by decide +kernel) (fun hc => ?_) (fun hc => ?_)
  · refine G_aload_n 0 dr_cX17_list___19 rfl ?_
    refine Gp_get 9 mm e1' dr_cX17_list___20 (gk_X17 D I) (Nat.le_of_ble_eq_true rfl) wr_7_83 rfl ?_
    refine G_if_ne 32 dr_cX17_list___23 (by decide +kernel) (fun h => k32 (fun g => absurd hc g) (fun _ => ⟨hf9.resolve_left (by rw [e9]; exact nz _ h), hC0.resolve_left (by rw [e9]; exact nz _ h), by rw [e9]; exact nz _ h⟩)) (fun h => k26 (Or.inl ⟨hc, by rw [e9, h]; exact z0⟩))
  · refine G_aload_n 0 dr_cX17_list___9 rfl ?_
    refine Gp_get 10 mm e1' dr_cX17_list___10 (gk_X17 D I) (Nat.le_of_ble_eq_true rfl) wr_7_84 rfl ?_
    refine G_if_ne 32 dr_cX17_list___13 (by decide +kernel) (fun h => k32 (fun _ => ⟨hf10.resolve_left (by rw [e10]; exact nz _ h), by rw [e10]; exact nz _ h⟩) (fun g => absurd g hc)) (fun h => ?_)
    exact G_goto 26 dr_cX17_list___16 (by decide +kernel) (k26 (Or.inr ⟨hc, by rw [e10, h]; exact z0⟩))
end
section
/-! the law's state: old arrays lose their kinds; what stands is bounded -/
def gKl (γ : Nat → Nat → Nat) (S : List Nat) : Nat → Nat → Nat := fun j b => if j = 0 ∧ ((γ 0 b = 10 ∨ γ 0 b = 96 ∨ γ 0 b = 28 ∨ γ 0 b = 29) ∧ b ∉ S) then 0 else γ j b
section GKL
variable {D : va_G} {I : FieldType → ClassId} {P : List Nat} {F : Nat → va_E} {γ el : Nat → Nat → Nat} {S : List Nat}
theorem gKl_j {j : Nat} (h : j ≠ 0) : gKl γ S j = γ j := by
  funext b
  exact if_neg (fun z => h z.1)
theorem gKl_k {b k : Nat} (h : γ 0 b = k) (n : k ≠ 10 ∧ k ≠ 96 ∧ k ≠ 28 ∧ k ≠ 29) : gKl γ S 0 b = k := by
  refine (if_neg (fun z => ?_)).trans h
  have q := z.2.1
  rw [h] at q
  omega
theorem gKl_s {b : Nat} (h : b ∈ S) : gKl γ S 0 b = γ 0 b := if_neg (fun z => z.2.2 h)
theorem gKl_0 {b : Nat} (h : gKl γ S 0 b ≠ 0) : gKl γ S 0 b = γ 0 b ∧ γ 0 b ≠ 0 ∧ ((γ 0 b ≠ 10 ∧ γ 0 b ≠ 96 ∧ γ 0 b ≠ 28 ∧ γ 0 b ≠ 29) ∨ b ∈ S) := by
  by_cases q : (γ 0 b = 10 ∨ γ 0 b = 96 ∨ γ 0 b = 28 ∨ γ 0 b = 29) ∧ b ∉ S
  · exact absurd (if_pos ⟨rfl, q⟩) h
  · have e : gKl γ S 0 b = γ 0 b := if_neg (fun z => q z.2)
    refine ⟨e, by rw [← e]; exact h, ?_⟩
    by_cases s : b ∈ S
    · exact Or.inr s
    · refine Or.inl ⟨fun z => q ⟨Or.inl z, s⟩, fun z => q ⟨Or.inr (Or.inl z), s⟩, fun z => q ⟨Or.inr (Or.inr (Or.inl z)), s⟩, fun z => q ⟨Or.inr (Or.inr (Or.inr z)), s⟩⟩
theorem gKl_L {w : Nat} (h : rLK γ w) : rLK (gKl γ S) w := by
  unfold rLK at h ⊢
  have e : gKl γ S 0 w = γ 0 w := gKl_k rfl (by omega)
  rw [e]
  exact h
theorem gKl_N {ka x : Nat} (hka : ka ≠ 10 ∧ ka ≠ 96 ∧ ka ≠ 28 ∧ ka ≠ 29) (h : rkL D I γ el F ka x) : rkL D I (gKl γ S) el F ka x := by
  obtain ⟨m, z, e, y1, y2, y3, y4, y5⟩ := h
  refine ⟨m, z, e, y1, y2, y3, ?_, y5⟩
  rcases y4 with y | ⟨q1, q2, n, f, q3, q4, q5, q6, q7, q8⟩
  · exact Or.inl y
  · exact Or.inr ⟨gKl_k q1 hka, q2, n, f, q3, q4, q5, q6, q7, fun j w h => gKl_L (q8 j w h)⟩
set_option maxHeartbeats 1000000 in
theorem RS_kl {m r28 r35 a : Nat} {v9 v10 v11 v12 v13 v14 v23 v24 v25 v26 v27 v30 v32 v33 v34 mb c : Int32} (hT : RS D I P F γ el) (hm : γ 0 m = 10) (he : F m = mdE γ r28 r35 v9 v10 v11 v12 v13 v14 v23 v24 v25 v26 v27 v30 v32 v33 v34) (hW : F (γ 9 29) = .inr (1, [.ref a, .int 0, .int mb, .int c])) (hS : S = [m, γ 9 29, r35, a]) : RS D I P F (gKl γ S) el := by
  have m1 : m ∈ S := by rw [hS]; simp
  have m2 : γ 9 29 ∈ S := by rw [hS]; simp
  have m3 : r35 ∈ S := by rw [hS]; simp
  have m4 : a ∈ S := by rw [hS]; simp
  obtain ⟨s28, s35, u9, u10, u11, u12, u13, u14, u23, u24, u25, u26, u27, u30, u32, u33, u34, ue, uM1, uK, uM2⟩ := rk10_m (show rk_10 γ (F m) from RS_o hT hm)
  have e28 : s28 = r28 := by
    have w1 : fR (F m) 28 = s28 := by rw [ue]; rfl
    have w2 : fR (F m) 28 = r28 := by rw [he]; rfl
    exact w1.symm.trans w2
  have e35 : s35 = r35 := by
    have w1 : fR (F m) 35 = s35 := by rw [ue]; rfl
    have w2 : fR (F m) 35 = r35 := by rw [he]; rfl
    exact w1.symm.trans w2
  subst e28 e35
  obtain ⟨k0, k1, k2, k3, k4, k5, k6, k7, k8, k9, k10, k11, k12, k13, k14, k15, k16, k17, k18, kW, k20, k21, k22, k23⟩ := id uK
  have hW28 : γ 0 (γ 9 29) = 28 := kW
  have h27 : γ 0 s35 = 96 := k1
  obtain ⟨ra, mb', c', w1, w2, w3, w4, w5⟩ := show rk_28 γ (F (γ 9 29)) from RS_o hT hW28
  have era : ra = a := by
    have x1 : fR (F (γ 9 29)) 0 = ra := by rw [w1]; rfl
    have x2 : fR (F (γ 9 29)) 0 = a := by rw [hW]; rfl
    exact x1.symm.trans x2
  subst era
  have h29 : γ 0 ra = 29 := w4
  refine ⟨fun b hb => hT.1 b (gKl_0 hb).2.1, fun b => ?_⟩
  by_cases hb0 : gKl γ S 0 b = 0
  · rw [hb0]; exact trivial
  obtain ⟨g1, g2, g3⟩ := gKl_0 hb0
  have z := hT.2 b
  rw [g1]
  generalize hk : γ 0 b = k at z g3 ⊢
  unfold rFit at z ⊢
  split at z
  · exact z
  · obtain ⟨l, n, f, s, w1, w2, w3, w4, w5, w6⟩ := z
    exact ⟨l, n, f, s, w1, w2, gKl_k w3 (by decide), w4, gKl_k w5 (by decide), w6⟩
  · obtain ⟨l, n, f, s, w1, w2, w3, w4, w5, w6⟩ := z
    exact ⟨l, n, f, s, w1, w2, gKl_k w3 (by decide), w4, gKl_k w5 (by decide), w6⟩
  · obtain ⟨l, n, f, s, w1, w2, w3, w4, w5, w6⟩ := z
    exact ⟨l, n, f, s, w1, w2, gKl_k w3 (by decide), w4, gKl_k w5 (by decide), w6⟩
  · exact z
  · obtain ⟨z1, z2⟩ := z
    exact ⟨gKl_N (by decide) z1, fun i hi => ⟨gKl_k (z2 i hi).1 (by decide), (z2 i hi).2⟩⟩
  · obtain ⟨z1, z2⟩ := z
    exact ⟨gKl_N (by decide) z1, fun i hi => ⟨(z2 i hi).1.imp (fun q => gKl_k q (by decide)) (Or.imp (fun q => gKl_k q (by decide)) (fun q => gKl_k q (by decide))), (z2 i hi).2⟩⟩
  · obtain ⟨z1, z2⟩ := z
    exact ⟨gKl_N (by decide) z1, fun i hi => ⟨(z2 i hi).1.imp (fun q => gKl_k q (by decide)) (fun q => gKl_k q (by decide)), (z2 i hi).2⟩⟩
  · exact gKl_N (by decide) z
  · obtain ⟨lb, lr, rn, md, w1, w2, w3, w4, w5, w6, w7, w8, w9, w10, w11, w12, w13, w14, w15, w16, w17⟩ := z
    exact ⟨lb, lr, rn, md, w1, w2, gKl_k w3 (by decide), w4, gKl_k w5 (by decide), w6, w7, w8, w9, w10, w11, w12, w13, fun i hi => (w14 i hi).imp (fun q => gKl_k q (by decide)) (fun q => ⟨q.1, gKl_k q.2 (by decide)⟩), fun i h1 h2 => gKl_k (w15 i h1 h2) (by decide), fun i h1 h2 => gKl_k (w16 i h1 h2) (by decide), w17⟩
  · have hbS : b ∈ S := g3.resolve_left (fun q => q.1 rfl)
    have ebm : b = m := by
      rw [hS] at hbS
      simp only [List.mem_cons, List.not_mem_nil, or_false] at hbS
      rcases hbS with q | q | q | q
      · exact q
      · rw [q, hW28] at hk; cases hk
      · rw [q, h27] at hk; cases hk
      · rw [q, h29] at hk; cases hk
    rw [ebm]
    have kk : ∀ b k, rKd γ b k → k ≠ 10 ∧ k ≠ 96 ∧ k ≠ 28 ∧ k ≠ 29 → rKd (gKl γ S) b k := fun b k h n => gKl_k h n
    have hK' : mdK (gKl γ S) s28 s35 := ⟨kk _ _ k0 (by decide), (gKl_s m3).trans k1, kk _ _ k2 (by decide), kk _ _ k3 (by decide), kk _ _ k4 (by decide), kk _ _ k5 (by decide), kk _ _ k6 (by decide), kk _ _ k7 (by decide), kk _ _ k8 (by decide), kk _ _ k9 (by decide), kk _ _ k10 (by decide), kk _ _ k11 (by decide), kk _ _ k12 (by decide), kk _ _ k13 (by decide), kk _ _ k14 (by decide), kk _ _ k15 (by decide), kk _ _ k16 (by decide), kk _ _ k17 (by decide), kk _ _ k18 (by decide), (gKl_s m2).trans kW, kk _ _ k20 (by decide), k21, k22, k23⟩
    exact rk10_b (γ := gKl γ S) ue uM1 hK' uM2
  · have hbS : b ∈ S := g3.resolve_left (fun q => q.2.2.1 rfl)
    obtain ⟨r, mb'', c'', y1, y2, y3, y4, y5⟩ := z
    have ebW : b = γ 9 29 := by
      rw [hS] at hbS
      simp only [List.mem_cons, List.not_mem_nil, or_false] at hbS
      rcases hbS with q | q | q | q
      · rw [q, hm] at hk; cases hk
      · exact q
      · rw [q, h27] at hk; cases hk
      · rw [q, h29] at hk; cases hk
    have er : r = ra := by
      have x1 : fR (F b) 0 = r := by rw [y1]; rfl
      have x2 : fR (F b) 0 = ra := by rw [ebW, w1]; rfl
      exact x1.symm.trans x2
    exact ⟨r, mb'', c'', y1, y2, y3, (gKl_s (by rw [er]; exact m4)).trans y4, y5⟩
  · obtain ⟨g, q1, q2⟩ := z
    exact ⟨g, q1, fun i hi => ⟨(q2 i hi).1, gKl_k (q2 i hi).2.1 (by decide), (q2 i hi).2.2⟩⟩
  · obtain ⟨g, q1, q2⟩ := z
    exact ⟨g, q1, fun i hi => ⟨(q2 i hi).1, gKl_k (q2 i hi).2.1 (by decide), (q2 i hi).2.2⟩⟩
  all_goals first
    | exact z
    | exact trivial
/-- the only arrays with kinds 96 and 29 are those that stand -/
def rUq (γ : Nat → Nat → Nat) (F : Nat → va_E) (m : Nat) : Prop := (∀ b, γ 0 b = 96 → b = fR (F m) 35) ∧ ∀ b, γ 0 b = 29 → b = fR (F (γ 9 29)) 0
end GKL
section RPB
variable {D : va_G} {I : FieldType → ClassId} {P : List Nat} {F : Nat → va_E} {γ el : Nat → Nat → Nat} {f B c : Nat}
theorem rPh_bd (hT : RS D I P F γ el) (hc : γ 0 c = 9) (hf : γ 1 c = f) (h : rBd γ el f B) : rPh γ el f ≤ 264 * B + 6000 := by
  obtain ⟨lb, lr, rn, md, w1, w2, w3, w4, w5, w6, -⟩ := show rk_9 γ el c (F c) from RS_o hT hc
  have e21 : γ 21 f = c := by rw [← hf]; exact w2.2.2
  obtain ⟨h1, h2, h3, h4, h5, h6⟩ := h
  rw [e21, w2.1] at h2 h3 h6
  rw [e21, w2.2.1] at h4 h5
  unfold rPh
  rw [e21, w2.1, w2.2.1]
  obtain ⟨⟨m, z, e, v1, v2, v3, v4, v5⟩, -⟩ := show rk_4 D I γ el F lb from RS_o hT w3
  obtain ⟨⟨m', z', e', u1, u2, u3, u4, u5⟩, -⟩ := show rk_5 D I γ el F lr from RS_o hT w5
  have hs := rsum_b (f := fun i => 4 * γ 13 (γ 14 (el lb i))) (B := 6 * B + 40) (γ 2 lb) (fun i hi => by
    obtain ⟨-, -, -, q⟩ := RS_lst hT w3 hi
    unfold rCp at q
    have := h6 i hi
    show 4 * _ ≤ _
    omega)
  have hm : γ 2 lb * (6 * B + 40) ≤ 40 * (6 * B + 40) := Nat.mul_le_mul_right _ h2
  unfold rCp at v5 u5
  unfold rPhc
  omega
end RPB
end
section
/-! multianewarray with its rows, in a pool -/
theorem va_Dn {A : Nat → Prop} {ws new : va_W} {D : va_G} {cl : List vw_C} {H : Heap} (hD : va_D A ws) (hP : va_P D cl ws H) (hn : ∀ (k : Nat) (q : Nat × va_E), new[k]? = some q → q.1 = H.size + k) (hA : ∀ a, H.size ≤ a → A a) : va_D A (ws ++ new) := by
  have key : ∀ (k : Nat) (q : Nat × va_E), (ws ++ new)[k]? = some q → (ws[k]? = some q ∧ q.1 < H.size) ∨ (ws.length ≤ k ∧ q.1 = H.size + (k - ws.length)) := by
    intro k q hk
    by_cases hl : k < ws.length
    · rw [List.getElem?_append_left hl] at hk
      exact Or.inl ⟨hk, (hP k q hk).lt⟩
    · rw [List.getElem?_append_right (by omega)] at hk
      exact Or.inr ⟨by omega, hn _ _ hk⟩
  refine ⟨fun i j x y hi hj hxy => ?_, fun k q hk => ?_⟩
  · rcases key i x hi with ⟨h1, l1⟩ | ⟨h1, l1⟩ <;> rcases key j y hj with ⟨h2, l2⟩ | ⟨h2, l2⟩
    · exact hD.1 i j x y h1 h2 hxy
    · omega
    · omega
    · omega
  · rcases key k q hk with ⟨h1, _⟩ | ⟨_, l1⟩
    · exact hD.2 k q h1
    · rw [l1]; exact hA _ (by omega)
/-- what multianewarray makes: the array of rows at q, its rows behind it -/
def mnL (cA cB : ClassId) (q N K : Nat) : va_W := (q, .inl (cA, N, .inr (.inr (.inr (.inr (fun i => if i < N then some (q + 1 + i) else none)))))) :: (List.range N).map (fun i => (q + 1 + i, (.inl (cB, K, .inr (.inl (fun _ => 0))) : va_E)))
theorem mnL_at {cA cB : ClassId} {q N K k : Nat} {x : Nat × va_E} (h : (mnL cA cB q N K)[k]? = some x) : (k = 0 ∧ x = (q, .inl (cA, N, .inr (.inr (.inr (.inr (fun i => if i < N then some (q + 1 + i) else none))))))) ∨ ∃ j, k = j + 1 ∧ j < N ∧ x = (q + 1 + j, .inl (cB, K, .inr (.inl (fun _ => 0)))) := by
  unfold mnL at h
  cases k with
  | zero => exact Or.inl ⟨rfl, (Option.some.inj h).symm⟩
  | succ j =>
    rw [List.getElem?_cons_succ, List.getElem?_map] at h
    by_cases hj : j < N
    · rw [List.getElem?_range hj] at h
      exact Or.inr ⟨j, rfl, hj, (Option.some.inj h).symm⟩
    · rw [List.getElem?_eq_none (by rw [List.length_range]; omega)] at h
      cases h
theorem gm_outV (cO : ClassId) (N h0 : Nat) : gm_out cO N h0 N = vp_cell cO (N, .inr (.inr (.inr (.inr (fun i => if i < N then some (h0 + 1 + i) else none))))) := by
  show _ = arrV cO N (fun j => va_rf (if j < N then some (h0 + 1 + j) else none))
  unfold gm_out arrV
  congr 2
  funext j
  show (if j.val < N then Value.ref (h0 + 1 + j.val) else Value.null) = va_rf (if j.val < N then some (h0 + 1 + j.val) else none)
  rw [if_pos j.isLt, if_pos j.isLt]
  rfl
theorem gm_inV (cI : ClassId) (K : Nat) : gm_in cI K (defaultValue .long) = vp_cell cI (K, .inr (.inl (fun _ => 0))) := by
  show _ = arrV cI K (fun _ => .long 0)
  unfold gm_in arrV
  congr 1
  apply Array.ext
  · simp
  · intro i h1 h2
    simp [defaultValue]
section GMN
variable {v : gEnv} {l : Launch} {R : Room} {Qf : gFin} {k : gKey} {pc : Nat} {L : List (Nat × Value)} {st : List Value} {ws : va_W} {cs sl i : Nat}
theorem G_mna {cA cB : ClassId} {z w : Int32} {N K : Nat} (t t2 : Nat) (d : decode k.1 pc = .ok (.multianewarray i 2, 4)) (w1 : Cond.classLink k.2.2.1 i ("[" ++ (FieldType.array .long).toString) ∈ v.2.2.2.2) (hE : ∀ A s H, v.2.2.2.1 A s H → gAr .long s) (w3 : Cond.arrayClass .long ∈ v.2.2.2.2)
    (ht : v.2.2.1[t]? = some (cA, .array .long)) (ht2 : v.2.2.1[t2]? = some (cB, .long)) (hN : z.toNatClampNeg = N) (hK : w.toNatClampNeg = K) (hz : ¬ z < 0) (hw : ¬ w < 0) (hb1 : N * 4 ≤ 536870912) (hb2 : K * 8 ≤ 536870912) (hcs : cs + (1 + N) ≤ R.cells) (hsl : sl + (N + N * K) ≤ R.slots)
    (n : ∀ q : Nat, G v l R Qf k (pc + 4) L (.ref q :: st) (ws ++ mnL cA cB q N K) (cs + 1 + N) (sl + N + N * K)) : G v l R Qf k pc L (.int w :: .int z :: st) ws cs sl := fun p e s m args below meth c A H locs ls C hP hD hS h => by
  obtain ⟨h1, h2, h3, h4, h5, h6, h7, h8, h9, h10, h11, h12, h13⟩ := id C
  refine gm_mna h1 h2 h4 (h8 _ w1) (hE _ _ _ h12) (h8 _ w3) hN hK hz hw hb1 hb2 (by omega) rfl rfl hcs hsl d (fun cO cI cz kO kI f1 f2 f3 f4 f5 f6 => ?_)
  have hA : s.vm.findClass ("[" ++ (FieldType.array .long).toString) = some cA := (h10.2 t _ ht).2
  have hB : s.vm.findClass (FieldType.array .long).toString = some cB := (h10.2 t2 _ ht2).2
  have e1 : cO = cA := Option.some.inj (f1.symm.trans hA)
  have e2 : cI = cB := Option.some.inj (f2.symm.trans hB)
  subst e1 e2
  have hold : ∀ q : Nat, q < H.size → (H.push (gm_out cO N H.size N) ++ Array.replicate N (gm_in cI K (defaultValue .long)))[q]? = H[q]? := fun q hq => by
    rw [Array.getElem?_append_left (by simp; omega), Array.getElem?_push, if_neg (by omega)]
  have hout : (H.push (gm_out cO N H.size N) ++ Array.replicate N (gm_in cI K (defaultValue .long)))[H.size]? = some (gm_out cO N H.size N) := by
    rw [Array.getElem?_append_left (by simp), Array.getElem?_push, if_pos rfl]
  have hin : ∀ j : Nat, j < N → (H.push (gm_out cO N H.size N) ++ Array.replicate N (gm_in cI K (defaultValue .long)))[H.size + 1 + j]? = some (gm_in cI K (defaultValue .long)) := fun j hj => by
    rw [Array.getElem?_append_right (by simp), Array.getElem?_replicate]
    rw [if_pos (by simp; omega)]
  refine n H.size p e s m args below meth c A _ locs ls C ((hP.kept (fun j x hx => hold _ (hP j x hx).lt)).app (fun j x hx => ?_)) (va_Dn hD hP (fun j x hx => ?_) (fun a ha => h11 a (Nat.le_trans hS.1 ha))) ⟨Nat.le_trans hS.1 (by simp; omega), fun q g1 g2 => (hold q (Nat.lt_of_lt_of_le g1 hS.1)).trans (hS.2.1 q g1 g2), hS.2.2⟩ h
  · rcases mnL_at hx with ⟨-, rfl⟩ | ⟨j', -, hj', rfl⟩
    · exact hout.trans (by rw [gm_outV])
    · exact (hin j' hj').trans (by rw [gm_inV])
  · rcases mnL_at hx with ⟨q0, rfl⟩ | ⟨j', q0, hj', rfl⟩
    · rw [q0]; rfl
    · show H.size + 1 + j' = H.size + j
      omega
end GMN
section GPN
variable {v : gEnv} {l : Launch} {R : Room} {Qf : gFin} {k : gKey} {pc : Nat} {L : List (Nat × Value)} {st : List Value} {P : List Nat} {F : Nat → va_E} {cs sl : Nat}
/-- cells made behind the pool go into it -/
theorem Gp_inL {w : va_W} (n : ∀ (P1 : List Nat) (F1 : Nat → va_E), (∀ q, q ∈ w.map Prod.fst → q ∉ P) → (∀ b, b ∈ P1 ↔ b ∈ P ∨ b ∈ w.map Prod.fst) → (∀ x, x ∈ w → F1 x.1 = x.2) → (∀ b, b ∉ w.map Prod.fst → F1 b = F b) → G v l R Qf k pc L st (va_pl P1 F1) cs sl) : G v l R Qf k pc L st (va_pl P F ++ w) cs sl := by
  have h0 : P.filter (fun b => decide (b ∉ ([] : List Nat))) = P := by
    rw [List.filter_eq_self]
    intro b _
    exact decide_eq_true (List.not_mem_nil)
  have h1 : G v l R Qf k pc L st (va_pl (P.filter (fun b => decide (b ∉ ([] : List Nat)))) F ++ w) cs sl := by
    refine Gp_re (fun P1 F1 h => n P1 F1 (fun q hq => h.2.1 q hq List.not_mem_nil) (fun b => ?_) h.2.2.1 h.2.2.2)
    rw [h.1 b]
    constructor
    · rintro (⟨g, -⟩ | g)
      · exact Or.inl g
      · exact Or.inr g
    · rintro (g | g)
      · exact Or.inl ⟨g, List.not_mem_nil⟩
      · exact Or.inr g
  rw [h0] at h1
  exact h1
end GPN
end
section
/-! the model at its beginning fits -/
def lkK : List (Nat × Nat) → Nat → Nat
  | [], _ => 0
  | (a, k) :: l, b => if b = a then k else lkK l b
theorem lkK_m : ∀ {l : List (Nat × Nat)} {b k : Nat}, (l.map Prod.fst).Nodup → (b, k) ∈ l → lkK l b = k
  | (a, k') :: l, b, k, hn, h => by
    rw [List.map_cons, List.nodup_cons] at hn
    rcases List.mem_cons.mp h with e | e
    · cases e
      exact if_pos rfl
    · have hb : b ≠ a := fun z => hn.1 (List.mem_map.mpr ⟨(b, k), e, z⟩)
      exact (if_neg hb).trans (lkK_m hn.2 e)
theorem lkK_o : ∀ (l : List (Nat × Nat)) (b : Nat), lkK l b = 0 ∨ (b, lkK l b) ∈ l
  | [], b => Or.inl rfl
  | (a, k) :: l, b => by
    by_cases e : b = a
    · refine Or.inr (List.mem_cons.mpr (Or.inl ?_))
      have : lkK ((a, k) :: l) b = k := if_pos e
      rw [this, e]
    · have : lkK ((a, k) :: l) b = lkK l b := if_neg e
      rw [this]
      exact (lkK_o l b).imp id (fun h => List.mem_cons.mpr (Or.inr h))
def inA (g : Nat → Nat) (m ra : Nat) (lb lr : Nat → Nat) : List (Nat × Nat) := [(m, 10), (g 35, 96), (g 31, 99), (ra, 29), (g 29, 28), (g 28, 98), (g 22, 97), (g 21, 23), (g 20, 22), (g 19, 21), (g 18, 15), (g 17, 20), (g 16, 19), (g 15, 18), (lb 2, 4), (lr 2, 5), (g 8, 9), (lb 1, 4), (lr 1, 5), (g 7, 9), (lb 0, 4), (lr 0, 5), (g 6, 9), (g 5, 17), (g 4, 16), (g 3, 14), (g 2, 35)]
def inR (q n k0 k : Nat) : List (Nat × Nat) := (q, k0) :: (List.range n).map (fun i => (q + 1 + i, k))
def inK (g : Nat → Nat) (m ra : Nat) (lb lr : Nat → Nat) : List (Nat × Nat) := inA g m ra lb lr ++ (inR (g 1) 2000 13 36 ++ (inR (g 0) 40 12 11 ++ []))
def gI0 (g : Nat → Nat) (m ra : Nat) (lb lr : Nat → Nat) : Nat → Nat → Nat := fun j b => match j with
  | 0 => lkK (inK g m ra lb lr) b
  | 1 => if b = g 7 ∨ b = lb 1 ∨ b = lr 1 then 1 else if b = g 8 ∨ b = lb 2 ∨ b = lr 2 then 2 else 0
  | 9 => g b
  | 10 => g 0 + 1 + b
  | 11 => g 1 + 1 + b
  | 12 => if b = ra then 16 else if b = g 35 then 64 else if g 0 + 1 ≤ b ∧ b ≤ g 0 + 40 then b - (g 0 + 1) else b - (g 1 + 1)
  | 14 => if b = g 6 then lb 0 else if b = g 7 then lb 1 else lb 2
  | 15 => if b = g 6 then lr 0 else if b = g 7 then lr 1 else lr 2
  | 21 => if b = 0 then g 6 else if b = 1 then g 7 else g 8
  | _ => 0
set_option maxRecDepth 100000 in
set_option maxHeartbeats 2000000 in
theorem RS_ini {D : va_G} {I : FieldType → ClassId} {P : List Nat} {F : Nat → va_E} {el : Nat → Nat → Nat} {g lb lr : Nat → Nat} {m ra : Nat} (hP : ∀ b, b ∈ (inK g m ra lb lr).map Prod.fst → b ∈ P) (hnd : ((inK g m ra lb lr).map Prod.fst).Nodup)
    (hem : F m = mdE (gI0 g m ra lb lr) (g 28) (g 35) 0 0 0 0 0 0 (-1) 0 0 0 0 0 0 0 0) (he2 : F (g 2) = .inl (I .long, 32, .inr (.inl (fun _ => 0)))) (he3 : F (g 3) = .inl (I .boolean, 2000, .inl (fun _ => 0))) (he4 : F (g 4) = .inl (I .int, 40, .inl (fun _ => 0))) (he5 : F (g 5) = .inl (I .int, 2000, .inl (fun _ => 0))) (he15 : F (g 15) = .inl (I .int, 2000, .inl (fun _ => 0))) (he16 : F (g 16) = .inl (I .int, 2000, .inl (fun _ => 0))) (he17 : F (g 17) = .inl (I .int, 2000, .inl (fun _ => 0))) (he18 : F (g 18) = .inl (I .boolean, 2000, .inl (fun _ => 0))) (he19 : F (g 19) = .inl (I .int, 2000, .inl (fun _ => 0))) (he20 : F (g 20) = .inl (I .int, 2000, .inl (fun _ => 0))) (he21 : F (g 21) = .inl (I .int, 2000, .inl (fun _ => 0))) (he22 : F (g 22) = .inl (I .int, 512, .inl (fun _ => 0))) (he28 : F (g 28) = .inl (I .int, 0, .inl (fun _ => 0))) (he31 : F (g 31) = .inl (I .byte, 8192, .inl (fun _ => 0))) (he35 : F (g 35) = .inl (I .byte, 64, .inl (fun _ => 0))) (he0 : F (g 0) = .inl (I (.array .long), 40, .inr (.inr (.inr (.inr (fun i => if i < 40 then some (g 0 + 1 + i) else none)))))) (he1 : F (g 1) = .inl (I (.array .long), 2000, .inr (.inr (.inr (.inr (fun i => if i < 2000 then some (g 1 + 1 + i) else none)))))) (hr0 : ∀ i, i < 40 → F (g 0 + 1 + i) = .inl (I .long, 32, .inr (.inl (fun _ => 0)))) (hr1 : ∀ i, i < 2000 → F (g 1 + 1 + i) = .inl (I .long, 32, .inr (.inl (fun _ => 0)))) (hc0 : F (g 6) = .inr (18, [.ref (lb 0), .ref (lr 0), .int 0, .int 0])) (hlb0 : F (lb 0) = .inr (4, [.int 0, .ref (D.2 1002 1), .int 0])) (hlr0 : F (lr 0) = .inr (4, [.int 0, .ref (D.2 1002 1), .int 0])) (hc1 : F (g 7) = .inr (18, [.ref (lb 1), .ref (lr 1), .int 0, .int 0])) (hlb1 : F (lb 1) = .inr (4, [.int 0, .ref (D.2 1002 1), .int 0])) (hlr1 : F (lr 1) = .inr (4, [.int 0, .ref (D.2 1002 1), .int 0])) (hc2 : F (g 8) = .inr (18, [.ref (lb 2), .ref (lr 2), .int 0, .int 0])) (hlb2 : F (lb 2) = .inr (4, [.int 0, .ref (D.2 1002 1), .int 0])) (hlr2 : F (lr 2) = .inr (4, [.int 0, .ref (D.2 1002 1), .int 0])) (heW : F (g 29) = .inr (1, [.ref ra, .int 0, .int 0, .int 0])) (hea : F ra = .inl (I .byte, 16, .inl (fun _ => 0))) : RS D I P F (gI0 g m ra lb lr) el := by
  have hA : ((inA g m ra lb lr).map Prod.fst).Nodup := by
    have h := hnd
    unfold inK at h
    rw [List.map_append] at h
    exact (List.nodup_append.mp h).1
  have kd : ∀ b k, (b, k) ∈ inK g m ra lb lr → gI0 g m ra lb lr 0 b = k := fun b k h => lkK_m hnd h
  have mk : ∀ (i : Nat) (x : Nat × Nat), (inA g m ra lb lr)[i]? = some x → gI0 g m ra lb lr 0 x.1 = x.2 := fun i x h => kd x.1 x.2 (List.mem_append_left _ (List.mem_of_getElem? h))
  have ne : ∀ (i j a b : Nat), i < j → ((inA g m ra lb lr).map Prod.fst)[i]? = some a → ((inA g m ra lb lr).map Prod.fst)[j]? = some b → a ≠ b := fun i j a b hij h1 h2 e => by
    obtain ⟨l1, q1⟩ := List.getElem?_eq_some_iff.mp h1
    obtain ⟨l2, q2⟩ := List.getElem?_eq_some_iff.mp h2
    exact List.pairwise_iff_getElem.mp hA i j l1 l2 hij (by rw [q1, q2]; exact e)
  have k0 : ∀ i, i < 40 → gI0 g m ra lb lr 0 (g 0 + 1 + i) = 11 := fun i hi => kd _ _ (List.mem_append_right _ (List.mem_append_right _ (List.mem_append_left _ (List.mem_cons_of_mem _ (List.mem_map.mpr ⟨i, List.mem_range.mpr hi, rfl⟩)))))
  have k1 : ∀ i, i < 2000 → gI0 g m ra lb lr 0 (g 1 + 1 + i) = 36 := fun i hi => kd _ _ (List.mem_append_right _ (List.mem_append_left _ (List.mem_cons_of_mem _ (List.mem_map.mpr ⟨i, List.mem_range.mpr hi, rfl⟩))))
  have kg1 : gI0 g m ra lb lr 0 (g 1) = 13 := kd _ _ (List.mem_append_right _ (List.mem_append_left _ List.mem_cons_self))
  have kg0 : gI0 g m ra lb lr 0 (g 0) = 12 := kd _ _ (List.mem_append_right _ (List.mem_append_right _ (List.mem_append_left _ List.mem_cons_self)))
  have kra : gI0 g m ra lb lr 0 ra = 29 := (mk 3 (ra, 29) rfl)
  have k35 : gI0 g m ra lb lr 0 (g 35) = 96 := (mk 1 (g 35, 96) rfl)
  have d0 : ∀ i, i < 40 → gI0 g m ra lb lr 12 (g 0 + 1 + i) = i := fun i hi => by
    have n1 : g 0 + 1 + i ≠ ra := fun e => by have := k0 i hi; rw [e, kra] at this; cases this
    have n2 : g 0 + 1 + i ≠ g 35 := fun e => by have := k0 i hi; rw [e, k35] at this; cases this
    show (if g 0 + 1 + i = ra then 16 else if g 0 + 1 + i = g 35 then 64 else if g 0 + 1 ≤ g 0 + 1 + i ∧ g 0 + 1 + i ≤ g 0 + 40 then g 0 + 1 + i - (g 0 + 1) else g 0 + 1 + i - (g 1 + 1)) = i
    rw [if_neg n1, if_neg n2, if_pos ⟨by omega, by omega⟩]
    omega
  have d1 : ∀ i, i < 2000 → gI0 g m ra lb lr 12 (g 1 + 1 + i) = i := fun i hi => by
    have n1 : g 1 + 1 + i ≠ ra := fun e => by have := k1 i hi; rw [e, kra] at this; cases this
    have n2 : g 1 + 1 + i ≠ g 35 := fun e => by have := k1 i hi; rw [e, k35] at this; cases this
    have n3 : ¬ (g 0 + 1 ≤ g 1 + 1 + i ∧ g 1 + 1 + i ≤ g 0 + 40) := fun e => by
      have h1 := k1 i hi
      have h2 := k0 (g 1 + 1 + i - (g 0 + 1)) (by omega)
      rw [show g 0 + 1 + (g 1 + 1 + i - (g 0 + 1)) = g 1 + 1 + i by omega, h1] at h2
      cases h2
    show (if g 1 + 1 + i = ra then 16 else if g 1 + 1 + i = g 35 then 64 else if g 0 + 1 ≤ g 1 + 1 + i ∧ g 1 + 1 + i ≤ g 0 + 40 then g 1 + 1 + i - (g 0 + 1) else g 1 + 1 + i - (g 1 + 1)) = i
    rw [if_neg n1, if_neg n2, if_neg n3]
    omega
  have era : gI0 g m ra lb lr 12 ra = 16 := if_pos rfl
  have e35 : gI0 g m ra lb lr 12 (g 35) = 64 := (if_neg (ne 1 3 _ _ (by decide) rfl rfl)).trans (if_pos rfl)
  have fm_g6 : gI0 g m ra lb lr 1 (g 6) = 0 := (if_neg (fun z => z.elim (fun z => (Ne.symm (ne 19 22 _ _ (by decide) rfl rfl)) z) (fun z => z.elim (fun z => (Ne.symm (ne 17 22 _ _ (by decide) rfl rfl)) z) (fun z => (Ne.symm (ne 18 22 _ _ (by decide) rfl rfl)) z)))).trans (if_neg (fun z => z.elim (fun z => (Ne.symm (ne 16 22 _ _ (by decide) rfl rfl)) z) (fun z => z.elim (fun z => (Ne.symm (ne 14 22 _ _ (by decide) rfl rfl)) z) (fun z => (Ne.symm (ne 15 22 _ _ (by decide) rfl rfl)) z))))
  have fm_lb0 : gI0 g m ra lb lr 1 (lb 0) = 0 := (if_neg (fun z => z.elim (fun z => (Ne.symm (ne 19 20 _ _ (by decide) rfl rfl)) z) (fun z => z.elim (fun z => (Ne.symm (ne 17 20 _ _ (by decide) rfl rfl)) z) (fun z => (Ne.symm (ne 18 20 _ _ (by decide) rfl rfl)) z)))).trans (if_neg (fun z => z.elim (fun z => (Ne.symm (ne 16 20 _ _ (by decide) rfl rfl)) z) (fun z => z.elim (fun z => (Ne.symm (ne 14 20 _ _ (by decide) rfl rfl)) z) (fun z => (Ne.symm (ne 15 20 _ _ (by decide) rfl rfl)) z))))
  have fm_lr0 : gI0 g m ra lb lr 1 (lr 0) = 0 := (if_neg (fun z => z.elim (fun z => (Ne.symm (ne 19 21 _ _ (by decide) rfl rfl)) z) (fun z => z.elim (fun z => (Ne.symm (ne 17 21 _ _ (by decide) rfl rfl)) z) (fun z => (Ne.symm (ne 18 21 _ _ (by decide) rfl rfl)) z)))).trans (if_neg (fun z => z.elim (fun z => (Ne.symm (ne 16 21 _ _ (by decide) rfl rfl)) z) (fun z => z.elim (fun z => (Ne.symm (ne 14 21 _ _ (by decide) rfl rfl)) z) (fun z => (Ne.symm (ne 15 21 _ _ (by decide) rfl rfl)) z))))
  have fm_g7 : gI0 g m ra lb lr 1 (g 7) = 1 := if_pos (Or.inl rfl)
  have fm_lb1 : gI0 g m ra lb lr 1 (lb 1) = 1 := if_pos (Or.inr (Or.inl rfl))
  have fm_lr1 : gI0 g m ra lb lr 1 (lr 1) = 1 := if_pos (Or.inr (Or.inr rfl))
  have fm_g8 : gI0 g m ra lb lr 1 (g 8) = 2 := (if_neg (fun z => z.elim (fun z => (ne 16 19 _ _ (by decide) rfl rfl) z) (fun z => z.elim (fun z => (ne 16 17 _ _ (by decide) rfl rfl) z) (fun z => (ne 16 18 _ _ (by decide) rfl rfl) z)))).trans (if_pos (Or.inl rfl))
  have fm_lb2 : gI0 g m ra lb lr 1 (lb 2) = 2 := (if_neg (fun z => z.elim (fun z => (ne 14 19 _ _ (by decide) rfl rfl) z) (fun z => z.elim (fun z => (ne 14 17 _ _ (by decide) rfl rfl) z) (fun z => (ne 14 18 _ _ (by decide) rfl rfl) z)))).trans (if_pos (Or.inr (Or.inl rfl)))
  have fm_lr2 : gI0 g m ra lb lr 1 (lr 2) = 2 := (if_neg (fun z => z.elim (fun z => (ne 15 19 _ _ (by decide) rfl rfl) z) (fun z => z.elim (fun z => (ne 15 17 _ _ (by decide) rfl rfl) z) (fun z => (ne 15 18 _ _ (by decide) rfl rfl) z)))).trans (if_pos (Or.inr (Or.inr rfl)))
  have q140 : gI0 g m ra lb lr 14 (g 6) = lb 0 := if_pos rfl
  have q141 : gI0 g m ra lb lr 14 (g 7) = lb 1 := (if_neg (ne 19 22 _ _ (by decide) rfl rfl)).trans (if_pos rfl)
  have q142 : gI0 g m ra lb lr 14 (g 8) = lb 2 := (if_neg (ne 16 22 _ _ (by decide) rfl rfl)).trans (if_neg (ne 16 19 _ _ (by decide) rfl rfl))
  have q150 : gI0 g m ra lb lr 15 (g 6) = lr 0 := if_pos rfl
  have q151 : gI0 g m ra lb lr 15 (g 7) = lr 1 := (if_neg (ne 19 22 _ _ (by decide) rfl rfl)).trans (if_pos rfl)
  have q152 : gI0 g m ra lb lr 15 (g 8) = lr 2 := (if_neg (ne 16 22 _ _ (by decide) rfl rfl)).trans (if_neg (ne 16 19 _ _ (by decide) rfl rfl))
  have hl : ∀ x, F x = .inr (4, [.int 0, .ref (D.2 1002 1), .int 0]) → ∀ ka, rkL D I (gI0 g m ra lb lr) el F ka x := fun x hx ka => ⟨0, 0, D.2 1002 1, hx, show Int32.toInt 0 = ((0 : Nat) : Int) by decide, show ((0 : Nat) : Int) ≤ 1000000 by decide, Or.inl ⟨rfl, rfl, rfl⟩, Nat.le_refl _, show 2 * 0 ≤ 3 * 0 + 20 by decide, Or.inl rfl⟩
  refine ⟨fun b hb => ?_, fun b => ?_⟩
  · rcases lkK_o (inK g m ra lb lr) b with h | h
    · exact absurd h hb
    · exact hP b (List.mem_map.mpr ⟨_, h, rfl⟩)
  show rFit D I (gI0 g m ra lb lr) el F b (lkK (inK g m ra lb lr) b)
  generalize hk : lkK (inK g m ra lb lr) b = k
  rcases lkK_o (inK g m ra lb lr) b with h | h
  · rw [← hk, h]; exact trivial
  rw [hk] at h
  clear hk
  rcases List.mem_append.mp h with h | h
  · unfold inA at h
    simp only [List.mem_cons, Prod.mk.injEq, List.not_mem_nil, or_false] at h
    rcases h with ⟨rfl, rfl⟩ | ⟨rfl, rfl⟩ | ⟨rfl, rfl⟩ | ⟨rfl, rfl⟩ | ⟨rfl, rfl⟩ | ⟨rfl, rfl⟩ | ⟨rfl, rfl⟩ | ⟨rfl, rfl⟩ | ⟨rfl, rfl⟩ | ⟨rfl, rfl⟩ | ⟨rfl, rfl⟩ | ⟨rfl, rfl⟩ | ⟨rfl, rfl⟩ | ⟨rfl, rfl⟩ | ⟨rfl, rfl⟩ | ⟨rfl, rfl⟩ | ⟨rfl, rfl⟩ | ⟨rfl, rfl⟩ | ⟨rfl, rfl⟩ | ⟨rfl, rfl⟩ | ⟨rfl, rfl⟩ | ⟨rfl, rfl⟩ | ⟨rfl, rfl⟩ | ⟨rfl, rfl⟩ | ⟨rfl, rfl⟩ | ⟨rfl, rfl⟩ | ⟨rfl, rfl⟩
    · exact rk10_b hem ⟨⟨by decide, by decide⟩, ⟨by decide, by decide⟩, ⟨by decide, by decide⟩, ⟨by decide, by decide⟩, ⟨by decide, by decide⟩, ⟨by decide, by decide⟩, ⟨by decide, by decide⟩, ⟨by decide, by decide⟩, ⟨by decide, by decide⟩⟩ ⟨(mk 5 (g 28, 98) rfl), (mk 1 (g 35, 96) rfl), kg0, kg1, (mk 26 (g 2, 35) rfl), (mk 25 (g 3, 14) rfl), (mk 24 (g 4, 16) rfl), (mk 23 (g 5, 17) rfl), (mk 22 (g 6, 9) rfl), (mk 19 (g 7, 9) rfl), (mk 16 (g 8, 9) rfl), (mk 13 (g 15, 18) rfl), (mk 12 (g 16, 19) rfl), (mk 11 (g 17, 20) rfl), (mk 10 (g 18, 15) rfl), (mk 9 (g 19, 21) rfl), (mk 8 (g 20, 22) rfl), (mk 7 (g 21, 23) rfl), (mk 6 (g 22, 97) rfl), (mk 4 (g 29, 28) rfl), (mk 2 (g 31, 99) rfl), fm_g6, fm_g7, fm_g8⟩ ⟨Or.inl (by decide), Or.inl (by decide), by rw [e35]; decide⟩
    · exact ⟨64, fun _ => 0, he35, fun _ => ⟨show _ ≤ Int32.toInt 0 by decide, show Int32.toInt 0 ≤ _ by decide⟩, by decide, e35.symm⟩
    · exact ⟨fun _ => 0, he31, fun _ => ⟨show _ ≤ Int32.toInt 0 by decide, show Int32.toInt 0 ≤ _ by decide⟩⟩
    · exact ⟨16, fun _ => 0, hea, fun _ => ⟨show _ ≤ Int32.toInt 0 by decide, show Int32.toInt 0 ≤ _ by decide⟩, by decide, era.symm⟩
    · exact ⟨ra, 0, 0, heW, ⟨by decide, by decide⟩, by decide, kra, by rw [era]; decide⟩
    · exact ⟨0, fun _ => 0, he28, by decide⟩
    · exact ⟨fun _ => 0, he22⟩
    · exact ⟨fun _ => 0, he21⟩
    · exact ⟨fun _ => 0, he20⟩
    · exact ⟨fun _ => 0, he19, fun _ => ⟨show _ ≤ Int32.toInt 0 by decide, show Int32.toInt 0 ≤ _ by decide⟩⟩
    · exact ⟨fun _ => 0, he18, fun _ => ⟨show _ ≤ Int32.toInt 0 by decide, show Int32.toInt 0 ≤ _ by decide⟩⟩
    · exact ⟨fun _ => 0, he17, fun _ => ⟨show _ ≤ Int32.toInt 0 by decide, show Int32.toInt 0 ≤ _ by decide⟩⟩
    · exact ⟨fun _ => 0, he16⟩
    · exact ⟨fun _ => 0, he15, fun _ => ⟨show _ ≤ Int32.toInt 0 by decide, show Int32.toInt 0 ≤ _ by decide⟩⟩
    · exact ⟨hl _ hlb2 _, fun i hi => absurd hi (Nat.not_lt_zero _)⟩
    · exact ⟨hl _ hlr2 _, fun i hi => absurd hi (Nat.not_lt_zero _)⟩
    · exact ⟨lb 2, lr 2, 0, 0, hc2, ⟨q142, q152, by rw [fm_g8]; rfl⟩, (mk 14 (lb 2, 4) rfl), fm_lb2.trans fm_g8.symm, (mk 15 (lr 2, 5) rfl), fm_lr2.trans fm_g8.symm, by decide, show Int32.toInt 0 ≤ ((0 : Nat) : Int) by decide, by decide, show Int32.toInt 0 ≤ ((0 : Nat) : Int) by decide, show ((0 : Nat) : Int) ≤ 1000000 by decide, show ((0 : Nat) : Int) ≤ 1000000 by decide, Or.inl rfl, fun i hi => absurd hi (by have h0 : Int32.toInt 0 = 0 := (by decide); omega), fun i _ hi => absurd hi (Nat.not_lt_zero _), fun i _ hi => absurd hi (Nat.not_lt_zero _), ⟨show Int32.toInt 0 = ((0 : Nat) : Int) by decide, Nat.le_refl _⟩⟩
    · exact ⟨hl _ hlb1 _, fun i hi => absurd hi (Nat.not_lt_zero _)⟩
    · exact ⟨hl _ hlr1 _, fun i hi => absurd hi (Nat.not_lt_zero _)⟩
    · exact ⟨lb 1, lr 1, 0, 0, hc1, ⟨q141, q151, by rw [fm_g7]; rfl⟩, (mk 17 (lb 1, 4) rfl), fm_lb1.trans fm_g7.symm, (mk 18 (lr 1, 5) rfl), fm_lr1.trans fm_g7.symm, by decide, show Int32.toInt 0 ≤ ((0 : Nat) : Int) by decide, by decide, show Int32.toInt 0 ≤ ((0 : Nat) : Int) by decide, show ((0 : Nat) : Int) ≤ 1000000 by decide, show ((0 : Nat) : Int) ≤ 1000000 by decide, Or.inl rfl, fun i hi => absurd hi (by have h0 : Int32.toInt 0 = 0 := (by decide); omega), fun i _ hi => absurd hi (Nat.not_lt_zero _), fun i _ hi => absurd hi (Nat.not_lt_zero _), ⟨show Int32.toInt 0 = ((0 : Nat) : Int) by decide, Nat.le_refl _⟩⟩
    · exact ⟨hl _ hlb0 _, fun i hi => absurd hi (Nat.not_lt_zero _)⟩
    · exact ⟨hl _ hlr0 _, fun i hi => absurd hi (Nat.not_lt_zero _)⟩
    · exact ⟨lb 0, lr 0, 0, 0, hc0, ⟨q140, q150, by rw [fm_g6]; rfl⟩, (mk 20 (lb 0, 4) rfl), fm_lb0.trans fm_g6.symm, (mk 21 (lr 0, 5) rfl), fm_lr0.trans fm_g6.symm, by decide, show Int32.toInt 0 ≤ ((0 : Nat) : Int) by decide, by decide, show Int32.toInt 0 ≤ ((0 : Nat) : Int) by decide, show ((0 : Nat) : Int) ≤ 1000000 by decide, show ((0 : Nat) : Int) ≤ 1000000 by decide, Or.inl rfl, fun i hi => absurd hi (by have h0 : Int32.toInt 0 = 0 := (by decide); omega), fun i _ hi => absurd hi (Nat.not_lt_zero _), fun i _ hi => absurd hi (Nat.not_lt_zero _), ⟨show Int32.toInt 0 = ((0 : Nat) : Int) by decide, Nat.le_refl _⟩⟩
    · exact ⟨fun _ => 0, he5⟩
    · exact ⟨fun _ => 0, he4⟩
    · exact ⟨fun _ => 0, he3, fun _ => ⟨show _ ≤ Int32.toInt 0 by decide, show Int32.toInt 0 ≤ _ by decide⟩⟩
    · exact ⟨fun _ => 0, he2, fun _ _ => lb_Q0⟩
  · rcases List.mem_append.mp h with h | h
    · rcases List.mem_cons.mp h with h | h
      · cases h
        exact ⟨_, he1, fun i hi => ⟨if_pos hi, k1 i hi, d1 i hi⟩⟩
      · obtain ⟨i, hi, e⟩ := List.mem_map.mp h
        cases e
        exact ⟨fun _ => 0, hr1 i (List.mem_range.mp hi), fun _ _ => lb_Q0⟩
    · rcases List.mem_append.mp h with h | h
      · rcases List.mem_cons.mp h with h | h
        · cases h
          exact ⟨_, he0, fun i hi => ⟨if_pos hi, k0 i hi, d0 i hi⟩⟩
        · obtain ⟨i, hi, e⟩ := List.mem_map.mp h
          cases e
          exact ⟨fun _ => 0, hr0 i (List.mem_range.mp hi), fun _ _ => lb_Q0⟩
      · exact absurd h List.not_mem_nil
end
section
/-! the model's cells while it is made: the model's own, and the others by a list -/
def nwS (m : Nat) (e : va_E) (w : va_W) (P : List Nat) (F : Nat → va_E) : Prop := m ∈ P ∧ F m = e ∧ (∀ x, x ∈ w → x.1 ∈ P ∧ F x.1 = x.2) ∧ (m :: w.map Prod.fst).Nodup
section NWS
variable {m q : Nat} {e e1 x y : va_E} {w v : va_W} {P P1 : List Nat} {F F1 : Nat → va_E}
theorem nwS_put (h : nwS m e w P F) (h1 : F1 m = e1) (n : ∀ b, b ≠ m → F1 b = F b) : nwS m e1 w P F1 := by
  obtain ⟨a1, a2, a3, a4⟩ := h
  refine ⟨a1, h1, fun z hz => ⟨(a3 z hz).1, (n _ (fun e => ?_)).trans (a3 z hz).2⟩, a4⟩
  rw [List.nodup_cons] at a4
  exact a4.1 (List.mem_map.mpr ⟨z, hz, e⟩)
theorem nwS_L (h : nwS m e w P F) (hq : ∀ q, q ∈ v.map Prod.fst → q ∉ P) (hP : ∀ b, b ∈ P1 ↔ b ∈ P ∨ b ∈ v.map Prod.fst) (hx : ∀ x, x ∈ v → F1 x.1 = x.2) (n : ∀ b, b ∉ v.map Prod.fst → F1 b = F b) (hnd : (v.map Prod.fst).Nodup) : nwS m e (v ++ w) P1 F1 := by
  obtain ⟨a1, a2, a3, a4⟩ := h
  have nP : ∀ b, b ∈ P → b ∉ v.map Prod.fst := fun b hb z => hq b z hb
  refine ⟨(hP m).mpr (Or.inl a1), (n m (nP m a1)).trans a2, fun z hz => ?_, ?_⟩
  · rcases List.mem_append.mp hz with g | g
    · exact ⟨(hP _).mpr (Or.inr (List.mem_map.mpr ⟨z, g, rfl⟩)), hx z g⟩
    · exact ⟨(hP _).mpr (Or.inl (a3 z g).1), (n _ (nP _ (a3 z g).1)).trans (a3 z g).2⟩
  · rw [List.nodup_cons] at a4 ⊢
    rw [List.map_append]
    refine ⟨fun g => ?_, List.nodup_append.mpr ⟨hnd, a4.2, fun a ha b hb e => ?_⟩⟩
    · rcases List.mem_append.mp g with g | g
      · exact nP m a1 g
      · exact a4.1 g
    · obtain ⟨z, hz, ez⟩ := List.mem_map.mp hb
      exact hq a ha (by rw [e, ← ez]; exact (a3 z hz).1)
theorem nwS_n (h : nwS m e w P F) (hq : q ∉ P) (hP : ∀ b, b ∈ P1 ↔ b ∈ P ∨ b = q) (hx : F1 q = x) (n : ∀ b, b ≠ q → F1 b = F b) : nwS m e ((q, x) :: w) P1 F1 := by
  have g := nwS_L (v := [(q, x)]) (P1 := P1) (F1 := F1) h (fun b hb => by
    have : b = q := List.mem_singleton.mp hb
    rw [this]; exact hq) (fun b => by
    rw [hP b]
    exact ⟨fun z => z.imp id (fun z => List.mem_singleton.mpr z), fun z => z.imp id (fun z => List.mem_singleton.mp z)⟩) (fun z hz => by
    have : z = (q, x) := List.mem_singleton.mp hz
    rw [this]; exact hx) (fun b hb => n b (fun z => hb (List.mem_singleton.mpr z))) (List.nodup_cons.mpr ⟨List.not_mem_nil, List.nodup_nil⟩)
  exact g
/-- a constructor of the cell that was made last: it and what it makes -/
theorem nwS_c (h : nwS m e ((q, x) :: w) P F) (hs : rSub P P1) (fr : rFr [q] P F F1) (hy : F1 q = y) (hv : ∀ z, z ∈ v → z.1 ∈ P1 ∧ z.1 ∉ P ∧ F1 z.1 = z.2) (hnd : (v.map Prod.fst).Nodup) : nwS m e (v ++ (q, y) :: w) P1 F1 := by
  obtain ⟨a1, a2, a3, a4⟩ := h
  have a4' := a4
  rw [List.map_cons, List.nodup_cons, List.nodup_cons] at a4
  obtain ⟨b1, b2, b3⟩ := a4
  have hmq : m ≠ q := fun z => b1 (by rw [z]; exact List.mem_cons_self)
  have key : ∀ b, b ∈ P → b ≠ q → F1 b = F b := fun b hb hbq => fr b hb (nm_c hbq nm_n)
  have inP : ∀ b, b ∈ ((q, x) :: w).map Prod.fst → b ∈ P := fun b hb => by
    obtain ⟨z, hz, ez⟩ := List.mem_map.mp hb
    rw [← ez]; exact (a3 z hz).1
  refine ⟨hs m a1, (key m a1 hmq).trans a2, fun z hz => ?_, ?_⟩
  · rcases List.mem_append.mp hz with g | g
    · exact ⟨(hv z g).1, (hv z g).2.2⟩
    · rcases List.mem_cons.mp g with g | g
      · rw [g]; exact ⟨hs q (a3 (q, x) List.mem_cons_self).1, hy⟩
      · have hz' := a3 z (List.mem_cons_of_mem _ g)
        exact ⟨hs _ hz'.1, (key _ hz'.1 (fun t => b2 (by rw [← t]; exact List.mem_map.mpr ⟨z, g, rfl⟩))).trans hz'.2⟩
  · have hN : ((q, y) :: w).map Prod.fst = ((q, x) :: w).map Prod.fst := rfl
    rw [List.map_append, hN]
    rw [List.nodup_cons] at a4' ⊢
    refine ⟨fun g => ?_, List.nodup_append.mpr ⟨hnd, a4'.2, fun a ha b hb t => ?_⟩⟩
    · rcases List.mem_append.mp g with g | g
      · obtain ⟨z, hz, ez⟩ := List.mem_map.mp g
        exact (hv z hz).2.1 (by rw [ez]; exact a1)
      · exact a4'.1 g
    · obtain ⟨z, hz, ez⟩ := List.mem_map.mp ha
      exact (hv z hz).2.1 (by rw [ez, t]; exact inP b hb)
theorem nwS_at (h : nwS m e w P F) (i : Nat) {z : Nat × va_E} (hi : w[i]? = some z) : F z.1 = z.2 := (h.2.2.1 z (List.mem_of_getElem? hi)).2
end NWS
theorem mnL_nd {cA cB : ClassId} {q N K : Nat} : ((mnL cA cB q N K).map Prod.fst).Nodup := by
  unfold mnL
  rw [List.map_cons, List.map_map, List.nodup_cons]
  refine ⟨fun h => ?_, ?_⟩
  · obtain ⟨i, _, e⟩ := List.mem_map.mp h
    have e' : q + 1 + i = q := e
    omega
  · refine List.pairwise_map.mpr (List.Pairwise.imp (fun {a b} h e => h ?_) (List.nodup_range (n := N)))
    have h' : q + 1 + a = q + 1 + b := e
    omega
end
section
/-! calls in a world of two lists: the call takes the one, the other stays -/
theorem fr_iA (A B : va_W) : (List.range A.length).map (fun i => (A ++ B)[i]?) = A.map some := by
  rw [← gw_all A]
  refine List.map_congr_left (fun i hi => ?_)
  exact List.getElem?_append_left (List.mem_range.mp hi)
theorem fr_iB (A B : va_W) : ((List.range B.length).map (fun i => A.length + i)).map (fun i => (A ++ B)[i]?) = B.map some := by
  rw [← gw_all B, List.map_map]
  refine List.map_congr_left (fun i hi => ?_)
  show (A ++ B)[A.length + i]? = B[i]?
  rw [List.getElem?_append_right (Nat.le_add_right _ _), Nat.add_sub_cancel_left]
theorem fr_ndB (n m : Nat) : va_nd ((List.range n).map (fun i => m + i)) = true := by
  refine r_nd _ (List.pairwise_map.mpr (List.Pairwise.imp (fun {a b} h e => h ?_) (List.nodup_range (n := n))))
  have e' : m + a = m + b := e
  omega
theorem fr_d1 (n m : Nat) : ∀ i ∈ (List.range n).map (fun i => m + i), i ∉ List.range m := fun i hi h => by
  obtain ⟨j, _, e⟩ := List.mem_map.mp hi
  have := List.mem_range.mp h
  omega
theorem fr_d2 (n m : Nat) : ∀ i ∈ List.range m, i ∉ (List.range n).map (fun i => m + i) := fun i hi h => fr_d1 n m i h hi
section FRR
variable {v : gEnv} {l : Launch} {R : Room} {Qf : gFin} {k : gKey} {pc cs sl : Nat} {L : List (Nat × Value)} {st : List Value} {X Y : va_W}
/-- the two lists change places -/
theorem Gf_sw (n : G v l R Qf k pc L st (Y ++ X) cs sl) : G v l R Qf k pc L st (X ++ Y) cs sl := by
  refine G_sub ((List.range Y.length).map (fun i => X.length + i) ++ List.range X.length) ?_ ?_ n
  · refine r_nd _ (List.nodup_append.mpr ⟨?_, List.nodup_range, fun a ha b hb e => fr_d1 _ _ a ha (e ▸ hb)⟩)
    refine List.pairwise_map.mpr (List.Pairwise.imp (fun {a b} h e => h ?_) (List.nodup_range (n := Y.length)))
    have e' : X.length + a = X.length + b := e
    omega
  · rw [List.map_append, List.map_append, fr_iB, fr_iA]
theorem GT_sw {E : String} {q : Nat} (n : GT v l R Qf k pc L st E q (Y ++ X) cs sl) : GT v l R Qf k pc L st E q (X ++ Y) cs sl := fun p e s m args below meth c A H locs ls cell C hP hD hS h g1 g3 g4 => by
  have hi : ((List.range Y.length).map (fun i => X.length + i) ++ List.range X.length).map (fun i => (X ++ Y)[i]?) = (Y ++ X).map some := by rw [List.map_append, List.map_append, fr_iB, fr_iA]
  have hn : va_nd ((List.range Y.length).map (fun i => X.length + i) ++ List.range X.length) = true := by
    refine r_nd _ (List.nodup_append.mpr ⟨?_, List.nodup_range, fun a ha b hb e => fr_d1 _ _ a ha (e ▸ hb)⟩)
    refine List.pairwise_map.mpr (List.Pairwise.imp (fun {a b} h e => h ?_) (List.nodup_range (n := Y.length)))
    have e' : X.length + a = X.length + b := e
    omega
  exact n p e s m args below meth c A H locs ls cell C (hP.sub _ (g_fm hi)) (hD.sub _ hn hi) hS h g1 g3 g4
variable {y : MethodName} {cc' : ByteArray} {nL' fr' lo' mc' ms' i b : Nat} {ret' : Option FieldType} {hh : List (Nat × Nat × Nat × Nat)} {As : List Value}
/-- a method of an object of the first list -/
theorem Gf_1V {ci N : Nat} {fs : List Value} {T : u_T} {Post' : Option Value → va_W → Prop} {XP' : String → Nat → va_W → Prop} (hv : gOk v) (cp : Ct v l y cc' nL' ret' fr' lo' mc' ms' (.ref b :: As) X Post' XP') (d : decode k.1 pc = .ok (.invokevirtual i, 3)) (hw : gCw v R k.2.2.1 i y cc' nL' ret' fr' lo' As.length) (w2 : Cond.instanceMethod y ∈ v.2.2.2.2) (w3 : Cond.selects y.cls y y ∈ v.2.2.2.2)
    (q : Nat) (hq : X[q]? = some (b, .inr (ci, fs))) (hcl : v.2.1[ci]? = some (y.cls, T, N)) (hcs : cs + mc' ≤ R.cells) (hsl : sl + ms' ≤ R.slots) (hcat : (st.map fun u => u.category).sum ≤ 8)
    (kk : ∀ r w, Post' r w → G v l R Qf k (pc + 3) L (r.toList ++ st) (w ++ Y) (cs + mc') (sl + ms')) (kx : ∀ E q w, XP' E q w → GT v l R Qf k pc L st E q (w ++ Y) (cs + mc') (sl + ms')) :
    G v l R Qf k pc L (As.reverse ++ .ref b :: st) (X ++ Y) cs sl := by
  have hq' : (X ++ Y)[q]? = some (b, .inr (ci, fs)) := by rw [List.getElem?_append_left (List.getElem?_eq_some_iff.mp hq).1]; exact hq
  exact G_callV hv cp d hw w2 w3 q hq' hcl (List.range X.length) ((List.range Y.length).map (fun i => X.length + i)) (fr_iA X Y) (fr_iB X Y) (r_nd _ List.nodup_range) (fr_ndB _ _) (fr_d1 _ _) hcs hsl hcat (fun r w hp => Gf_sw (kk r w hp)) (fun E q w hp => GT_sw (kx E q w hp))
/-- a static method with a table over the first list -/
theorem Gf_1S {Post' : Option Value → va_W → Prop} {XP' : String → Nat → va_W → Prop} (hv : gOk v) (cp : CtW v l y cc' nL' ret' hh fr' lo' mc' ms' As X Post' XP') (d : decode k.1 pc = .ok (.invokestatic i, 3)) (hw : gCwT v R k.2.2.1 i y cc' nL' ret' hh fr' lo' As.length) (w2 : Cond.static y ∈ v.2.2.2.2)
    (hcs : cs + mc' ≤ R.cells) (hsl : sl + ms' ≤ R.slots) (hcat : (st.map fun u => u.category).sum ≤ 8)
    (kk : ∀ r w, Post' r w → G v l R Qf k (pc + 3) L (r.toList ++ st) (w ++ Y) (cs + mc') (sl + ms')) (kx : ∀ E q w, XP' E q w → GT v l R Qf k pc L st E q (w ++ Y) (cs + mc') (sl + ms')) :
    G v l R Qf k pc L (As.reverse ++ st) (X ++ Y) cs sl :=
  G_callSW hv cp d hw w2 (List.range X.length) ((List.range Y.length).map (fun i => X.length + i)) (fr_iA X Y) (fr_iB X Y) (r_nd _ List.nodup_range) (fr_ndB _ _) (fr_d1 _ _) hcs hsl hcat (fun r w hp => Gf_sw (kk r w hp)) (fun E q w hp => GT_sw (kx E q w hp))
/-- a method of an object of the second list, a pool -/
theorem Gf_2V {P : List Nat} {F : Nat → va_E} {ci N : Nat} {fs : List Value} {T : u_T} {Post' : Option Value → va_W → Nat → Nat → Prop} {XP' : String → Nat → va_W → Nat → Nat → Prop} (hv : gOk v) (cp : CtA v l y cc' nL' ret' fr' lo' mc' ms' (.ref b :: As) (va_pl P F) Post' XP') (d : decode k.1 pc = .ok (.invokevirtual i, 3)) (hw : gCw v R k.2.2.1 i y cc' nL' ret' fr' lo' As.length) (w2 : Cond.instanceMethod y ∈ v.2.2.2.2) (w3 : Cond.selects y.cls y y ∈ v.2.2.2.2)
    (hb : b ∈ P) (he : F b = .inr (ci, fs)) (hcl : v.2.1[ci]? = some (y.cls, T, N)) (hcs : cs + mc' ≤ R.cells) (hsl : sl + ms' ≤ R.slots) (hcat : (st.map fun u => u.category).sum ≤ 8)
    (kk : ∀ r w dc ds, Post' r w dc ds → G v l R Qf k (pc + 3) L (r.toList ++ st) (X ++ w) (cs + dc) (sl + ds)) (kx : ∀ E q w dc ds, XP' E q w dc ds → GT v l R Qf k pc L st E q (X ++ w) (cs + dc) (sl + ds)) :
    G v l R Qf k pc L (As.reverse ++ .ref b :: st) (X ++ va_pl P F) cs sl := by
  obtain ⟨q, hq⟩ := va_pl_get (X := []) (f := F) hb
  rw [List.nil_append] at hq
  have hq' : (X ++ va_pl P F)[X.length + q]? = some (b, .inr (ci, fs)) := by rw [List.getElem?_append_right (Nat.le_add_right _ _), Nat.add_sub_cancel_left, ← he]; exact hq
  exact G_callVA hv cp d hw w2 w3 (X.length + q) hq' hcl ((List.range (va_pl P F).length).map (fun i => X.length + i)) (List.range X.length) (fr_iB X _) (fr_iA X _) (fr_ndB _ _) (r_nd _ List.nodup_range) (fr_d2 _ _) hcs hsl hcat kk kx
theorem Gf_2VW {P : List Nat} {F : Nat → va_E} {ci N : Nat} {fs : List Value} {T : u_T} {Post' : Option Value → va_W → Nat → Nat → Prop} {XP' : String → Nat → va_W → Nat → Nat → Prop} (hv : gOk v) (cp : CtWA v l y cc' nL' ret' hh fr' lo' mc' ms' (.ref b :: As) (va_pl P F) Post' XP') (d : decode k.1 pc = .ok (.invokevirtual i, 3)) (hw : gCwT v R k.2.2.1 i y cc' nL' ret' hh fr' lo' As.length) (w2 : Cond.instanceMethod y ∈ v.2.2.2.2) (w3 : Cond.selects y.cls y y ∈ v.2.2.2.2)
    (hb : b ∈ P) (he : F b = .inr (ci, fs)) (hcl : v.2.1[ci]? = some (y.cls, T, N)) (hcs : cs + mc' ≤ R.cells) (hsl : sl + ms' ≤ R.slots) (hcat : (st.map fun u => u.category).sum ≤ 8)
    (kk : ∀ r w dc ds, Post' r w dc ds → G v l R Qf k (pc + 3) L (r.toList ++ st) (X ++ w) (cs + dc) (sl + ds)) (kx : ∀ E q w dc ds, XP' E q w dc ds → GT v l R Qf k pc L st E q (X ++ w) (cs + dc) (sl + ds)) :
    G v l R Qf k pc L (As.reverse ++ .ref b :: st) (X ++ va_pl P F) cs sl := by
  obtain ⟨q, hq⟩ := va_pl_get (X := []) (f := F) hb
  rw [List.nil_append] at hq
  have hq' : (X ++ va_pl P F)[X.length + q]? = some (b, .inr (ci, fs)) := by rw [List.getElem?_append_right (Nat.le_add_right _ _), Nat.add_sub_cancel_left, ← he]; exact hq
  exact G_callVWA hv cp d hw w2 w3 (X.length + q) hq' hcl ((List.range (va_pl P F).length).map (fun i => X.length + i)) (List.range X.length) (fr_iB X _) (fr_iA X _) (fr_ndB _ _) (r_nd _ List.nodup_range) (fr_d2 _ _) hcs hsl hcat kk kx
end FRR
theorem fr_last {A : va_W} {x : Nat × va_E} : (A ++ [x])[A.length]? = some x := by rw [List.getElem?_append_right (Nat.le_refl _), Nat.sub_self]; rfl
theorem fr_set {A : va_W} {x z : Nat × va_E} : (A ++ [x]).set A.length z = A ++ [z] := by rw [List.set_append_right _ _ (Nat.le_refl _), Nat.sub_self]; rfl
end
section
theorem dr_cX13_init_0 : decode cX13_init 0 = .ok (.aload_n 0, 1) := by decide +kernel
theorem dr_cX13_init_1 : decode cX13_init 1 = .ok (.invokespecial 1, 3) := by decide +kernel
theorem wr_7_2 : (Jvm.Cond.methodLink "SpillForgeModel$Code" (1 : Nat) ({ cls := "java/lang/Object", name := "<init>", desc := "()V" } : Jvm.MethodName)) ∈ gw := gw_7 2 rfl rfl
theorem dr_cX13_init_4 : decode cX13_init 4 = .ok (.aload_n 0, 1) := by decide +kernel
theorem dr_cX13_init_5 : decode cX13_init 5 = .ok (.new 7, 3) := by decide +kernel
theorem wr_7_3 : (Jvm.Cond.classLink "SpillForgeModel$Code" (7 : Nat) "java/util/ArrayList") ∈ gw := gw_7 3 rfl rfl
theorem dr_cX13_init_8 : decode cX13_init 8 = .ok (.dup, 1) := by decide +kernel
theorem dr_cX13_init_9 : decode cX13_init 9 = .ok (.invokespecial 9, 3) := by decide +kernel
theorem wr_7_5 : (Jvm.Cond.methodLink "SpillForgeModel$Code" (9 : Nat) ({ cls := "java/util/ArrayList", name := "<init>", desc := "()V" } : Jvm.MethodName)) ∈ gw := gw_7 5 rfl rfl
theorem dr_cX13_init_12 : decode cX13_init 12 = .ok (.putfield 10, 3) := by decide +kernel
theorem dr_cX13_init_15 : decode cX13_init 15 = .ok (.aload_n 0, 1) := by decide +kernel
theorem dr_cX13_init_16 : decode cX13_init 16 = .ok (.new 7, 3) := by decide +kernel
theorem dr_cX13_init_19 : decode cX13_init 19 = .ok (.dup, 1) := by decide +kernel
theorem dr_cX13_init_20 : decode cX13_init 20 = .ok (.invokespecial 9, 3) := by decide +kernel
theorem dr_cX13_init_23 : decode cX13_init 23 = .ok (.putfield 16, 3) := by decide +kernel
theorem dr_cX13_init_26 : decode cX13_init 26 = .ok (.return_, 1) := by decide +kernel
theorem dr_cX17_init_0 : decode cX17_init 0 = .ok (.aload_n 0, 1) := by decide +kernel
theorem dr_cX17_init_1 : decode cX17_init 1 = .ok (.invokespecial 356, 3) := by decide +kernel
theorem wr_6_234 : (Jvm.Cond.methodLink "SpillForgeModel" (356 : Nat) ({ cls := "java/lang/Object", name := "<init>", desc := "()V" } : Jvm.MethodName)) ∈ gw := gw_6 234 rfl rfl
theorem dr_cX17_init_4 : decode cX17_init 4 = .ok (.aload_n 0, 1) := by decide +kernel
theorem dr_cX17_init_5 : decode cX17_init 5 = .ok (.bipush 40, 2) := by decide +kernel
theorem dr_cX17_init_7 : decode cX17_init 7 = .ok (.bipush 32, 2) := by decide +kernel
theorem dr_cX17_init_9 : decode cX17_init 9 = .ok (.multianewarray 359 2, 4) := by decide +kernel
theorem wr_6_235 : (Jvm.Cond.classLink "SpillForgeModel" (359 : Nat) "[[J") ∈ gw := gw_6 235 rfl rfl
theorem wr_2_3 : (Jvm.Cond.arrayClass Jvm.ClassFile.FieldType.long) ∈ gw := gw_2 3 rfl rfl
theorem dr_cX17_init_13 : decode cX17_init 13 = .ok (.putfield 88, 3) := by decide +kernel
theorem dr_cX17_init_16 : decode cX17_init 16 = .ok (.aload_n 0, 1) := by decide +kernel
theorem dr_cX17_init_17 : decode cX17_init 17 = .ok (.sipush 2000, 3) := by decide +kernel
theorem dr_cX17_init_20 : decode cX17_init 20 = .ok (.bipush 32, 2) := by decide +kernel
theorem dr_cX17_init_22 : decode cX17_init 22 = .ok (.multianewarray 359 2, 4) := by decide +kernel
theorem dr_cX17_init_26 : decode cX17_init 26 = .ok (.putfield 135, 3) := by decide +kernel
theorem dr_cX17_init_29 : decode cX17_init 29 = .ok (.aload_n 0, 1) := by decide +kernel
theorem dr_cX17_init_30 : decode cX17_init 30 = .ok (.bipush 32, 2) := by decide +kernel
theorem dr_cX17_init_32 : decode cX17_init 32 = .ok (.newarray .long, 2) := by decide +kernel
theorem dr_cX17_init_34 : decode cX17_init 34 = .ok (.putfield 59, 3) := by decide +kernel
theorem dr_cX17_init_37 : decode cX17_init 37 = .ok (.aload_n 0, 1) := by decide +kernel
theorem dr_cX17_init_38 : decode cX17_init 38 = .ok (.sipush 2000, 3) := by decide +kernel
theorem dr_cX17_init_41 : decode cX17_init 41 = .ok (.newarray .boolean, 2) := by decide +kernel
theorem wr_7_29 : (Jvm.Cond.arrayClass Jvm.ClassFile.FieldType.boolean) ∈ gw := gw_7 29 rfl rfl
theorem dr_cX17_init_43 : decode cX17_init 43 = .ok (.putfield 131, 3) := by decide +kernel
theorem dr_cX17_init_46 : decode cX17_init 46 = .ok (.aload_n 0, 1) := by decide +kernel
theorem dr_cX17_init_47 : decode cX17_init 47 = .ok (.bipush 40, 2) := by decide +kernel
theorem dr_cX17_init_49 : decode cX17_init 49 = .ok (.newarray .int, 2) := by decide +kernel
theorem dr_cX17_init_51 : decode cX17_init 51 = .ok (.putfield 152, 3) := by decide +kernel
theorem dr_cX17_init_54 : decode cX17_init 54 = .ok (.aload_n 0, 1) := by decide +kernel
theorem dr_cX17_init_55 : decode cX17_init 55 = .ok (.sipush 2000, 3) := by decide +kernel
theorem dr_cX17_init_58 : decode cX17_init 58 = .ok (.newarray .int, 2) := by decide +kernel
theorem dr_cX17_init_60 : decode cX17_init 60 = .ok (.putfield 174, 3) := by decide +kernel
theorem dr_cX17_init_63 : decode cX17_init 63 = .ok (.aload_n 0, 1) := by decide +kernel
theorem dr_cX17_init_64 : decode cX17_init 64 = .ok (.new 97, 3) := by decide +kernel
theorem wr_6_237 : (Jvm.Cond.classLink "SpillForgeModel" (97 : Nat) "SpillForgeModel$Code") ∈ gw := gw_6 237 rfl rfl
theorem wr_6_238 : (Jvm.Cond.instantiable "SpillForgeModel$Code" (4 : Nat)) ∈ gw := gw_6 238 rfl rfl
theorem dr_cX17_init_67 : decode cX17_init 67 = .ok (.dup, 1) := by decide +kernel
theorem dr_cX17_init_68 : decode cX17_init 68 = .ok (.invokespecial 360, 3) := by decide +kernel
theorem wr_7_1 : (Jvm.Cond.code ({ cls := "SpillForgeModel$Code", name := "<init>", desc := "()V" } : Jvm.MethodName) prog_16_method_1_code (1 : Nat) (Option.none : Option Jvm.ClassFile.FieldType)) ∈ gw := gw_7 1 rfl rfl
theorem wr_7_0 : (Jvm.Cond.instanceMethod ({ cls := "SpillForgeModel$Code", name := "<init>", desc := "()V" } : Jvm.MethodName)) ∈ gw := gw_7 0 rfl rfl
theorem dr_cX17_init_71 : decode cX17_init 71 = .ok (.putfield 361, 3) := by decide +kernel
theorem dr_cX17_init_74 : decode cX17_init 74 = .ok (.aload_n 0, 1) := by decide +kernel
theorem dr_cX17_init_75 : decode cX17_init 75 = .ok (.new 97, 3) := by decide +kernel
theorem dr_cX17_init_78 : decode cX17_init 78 = .ok (.dup, 1) := by decide +kernel
theorem dr_cX17_init_79 : decode cX17_init 79 = .ok (.invokespecial 360, 3) := by decide +kernel
theorem dr_cX17_init_82 : decode cX17_init 82 = .ok (.putfield 365, 3) := by decide +kernel
theorem dr_cX17_init_85 : decode cX17_init 85 = .ok (.aload_n 0, 1) := by decide +kernel
theorem dr_cX17_init_86 : decode cX17_init 86 = .ok (.new 97, 3) := by decide +kernel
theorem dr_cX17_init_89 : decode cX17_init 89 = .ok (.dup, 1) := by decide +kernel
theorem dr_cX17_init_90 : decode cX17_init 90 = .ok (.invokespecial 360, 3) := by decide +kernel
theorem dr_cX17_init_93 : decode cX17_init 93 = .ok (.putfield 368, 3) := by decide +kernel
theorem dr_cX17_init_96 : decode cX17_init 96 = .ok (.aload_n 0, 1) := by decide +kernel
theorem dr_cX17_init_97 : decode cX17_init 97 = .ok (.sipush 2000, 3) := by decide +kernel
theorem dr_cX17_init_100 : decode cX17_init 100 = .ok (.newarray .int, 2) := by decide +kernel
theorem dr_cX17_init_102 : decode cX17_init 102 = .ok (.putfield 218, 3) := by decide +kernel
theorem dr_cX17_init_105 : decode cX17_init 105 = .ok (.aload_n 0, 1) := by decide +kernel
theorem dr_cX17_init_106 : decode cX17_init 106 = .ok (.sipush 2000, 3) := by decide +kernel
theorem dr_cX17_init_109 : decode cX17_init 109 = .ok (.newarray .int, 2) := by decide +kernel
theorem dr_cX17_init_111 : decode cX17_init 111 = .ok (.putfield 209, 3) := by decide +kernel
theorem dr_cX17_init_114 : decode cX17_init 114 = .ok (.aload_n 0, 1) := by decide +kernel
theorem dr_cX17_init_115 : decode cX17_init 115 = .ok (.sipush 2000, 3) := by decide +kernel
theorem dr_cX17_init_118 : decode cX17_init 118 = .ok (.newarray .int, 2) := by decide +kernel
theorem dr_cX17_init_120 : decode cX17_init 120 = .ok (.putfield 212, 3) := by decide +kernel
theorem dr_cX17_init_123 : decode cX17_init 123 = .ok (.aload_n 0, 1) := by decide +kernel
theorem dr_cX17_init_124 : decode cX17_init 124 = .ok (.sipush 2000, 3) := by decide +kernel
theorem dr_cX17_init_127 : decode cX17_init 127 = .ok (.newarray .boolean, 2) := by decide +kernel
theorem dr_cX17_init_129 : decode cX17_init 129 = .ok (.putfield 206, 3) := by decide +kernel
theorem dr_cX17_init_132 : decode cX17_init 132 = .ok (.aload_n 0, 1) := by decide +kernel
theorem dr_cX17_init_133 : decode cX17_init 133 = .ok (.sipush 2000, 3) := by decide +kernel
theorem dr_cX17_init_136 : decode cX17_init 136 = .ok (.newarray .int, 2) := by decide +kernel
theorem dr_cX17_init_138 : decode cX17_init 138 = .ok (.putfield 221, 3) := by decide +kernel
theorem dr_cX17_init_141 : decode cX17_init 141 = .ok (.aload_n 0, 1) := by decide +kernel
theorem dr_cX17_init_142 : decode cX17_init 142 = .ok (.sipush 2000, 3) := by decide +kernel
theorem dr_cX17_init_145 : decode cX17_init 145 = .ok (.newarray .int, 2) := by decide +kernel
theorem dr_cX17_init_147 : decode cX17_init 147 = .ok (.putfield 271, 3) := by decide +kernel
theorem dr_cX17_init_150 : decode cX17_init 150 = .ok (.aload_n 0, 1) := by decide +kernel
theorem dr_cX17_init_151 : decode cX17_init 151 = .ok (.sipush 2000, 3) := by decide +kernel
theorem dr_cX17_init_154 : decode cX17_init 154 = .ok (.newarray .int, 2) := by decide +kernel
theorem dr_cX17_init_156 : decode cX17_init 156 = .ok (.putfield 274, 3) := by decide +kernel
theorem dr_cX17_init_159 : decode cX17_init 159 = .ok (.aload_n 0, 1) := by decide +kernel
theorem dr_cX17_init_160 : decode cX17_init 160 = .ok (.sipush 512, 3) := by decide +kernel
theorem dr_cX17_init_163 : decode cX17_init 163 = .ok (.newarray .int, 2) := by decide +kernel
theorem dr_cX17_init_165 : decode cX17_init 165 = .ok (.putfield 306, 3) := by decide +kernel
theorem dr_cX17_init_168 : decode cX17_init 168 = .ok (.aload_n 0, 1) := by decide +kernel
theorem dr_cX17_init_169 : decode cX17_init 169 = .ok (.iconst (-1), 1) := by decide +kernel
theorem dr_cX17_init_170 : decode cX17_init 170 = .ok (.putfield 371, 3) := by decide +kernel
theorem dr_cX17_init_173 : decode cX17_init 173 = .ok (.aload_n 0, 1) := by decide +kernel
theorem dr_cX17_init_174 : decode cX17_init 174 = .ok (.iconst 0, 1) := by decide +kernel
theorem dr_cX17_init_175 : decode cX17_init 175 = .ok (.newarray .int, 2) := by decide +kernel
theorem dr_cX17_init_177 : decode cX17_init 177 = .ok (.putfield 303, 3) := by decide +kernel
theorem dr_cX17_init_180 : decode cX17_init 180 = .ok (.aload_n 0, 1) := by decide +kernel
theorem dr_cX17_init_181 : decode cX17_init 181 = .ok (.new 5, 3) := by decide +kernel
theorem dr_cX17_init_184 : decode cX17_init 184 = .ok (.dup, 1) := by decide +kernel
theorem dr_cX17_init_185 : decode cX17_init 185 = .ok (.invokespecial 7, 3) := by decide +kernel
theorem dr_cX17_init_188 : decode cX17_init 188 = .ok (.putfield 316, 3) := by decide +kernel
theorem dr_cX17_init_191 : decode cX17_init 191 = .ok (.aload_n 0, 1) := by decide +kernel
theorem dr_cX17_init_192 : decode cX17_init 192 = .ok (.sipush 8192, 3) := by decide +kernel
theorem dr_cX17_init_195 : decode cX17_init 195 = .ok (.newarray .byte, 2) := by decide +kernel
theorem dr_cX17_init_197 : decode cX17_init 197 = .ok (.putfield 374, 3) := by decide +kernel
theorem dr_cX17_init_200 : decode cX17_init 200 = .ok (.aload_n 0, 1) := by decide +kernel
theorem dr_cX17_init_201 : decode cX17_init 201 = .ok (.bipush 64, 2) := by decide +kernel
theorem dr_cX17_init_203 : decode cX17_init 203 = .ok (.newarray .byte, 2) := by decide +kernel
theorem dr_cX17_init_205 : decode cX17_init 205 = .ok (.putfield 378, 3) := by decide +kernel
theorem dr_cX17_init_208 : decode cX17_init 208 = .ok (.return_, 1) := by decide +kernel
def ciP (D : va_G) (P : List Nat) (F : Nat → va_E) (c : Nat) : Option Value → va_W → Nat → Nat → Prop := fun r w dc ds => ∃ (P1 : List Nat) (F1 : Nat → va_E) (a b : Nat), r = none ∧ w = va_pl P1 F1 ∧ rSub P P1 ∧ rFr [c] P F F1 ∧ F1 c = .inr (18, [.ref a, .ref b, .int 0, .int 0]) ∧ F1 a = .inr (4, [.int 0, .ref (D.2 1002 1), .int 0]) ∧ F1 b = .inr (4, [.int 0, .ref (D.2 1002 1), .int 0]) ∧ a ∈ P1 ∧ a ∉ P ∧ b ∈ P1 ∧ b ∉ P ∧ a ≠ b ∧ dc ≤ 2 ∧ ds ≤ 6
theorem cp_cini (l : Launch) (hl0 : l.stackTraces = false) (D : va_G) (I : FieldType → ClassId) {P : List Nat} {F : Nat → va_E} {c : Nat} (mc : c ∈ P) (ec : F c = .inr (18, [.null, .null, .int 0, .int 0])) :
    CtA (gV D I) l yX13_init cX13_init 1 none 4 72 2 6 [.ref c] (va_pl P F) (ciP D P F c) gNA := by
  refine CtA_of hl0 (by decide) (Nat.le_of_ble_eq_true rfl) ?_
  refine G_aload_n 0 dr_cX13_init_0 rfl ?_
  refine G_obj dr_cX13_init_1 wr_7_2 wr_1_51 wr_1_52 (Nat.le_of_ble_eq_true rfl) (Nat.le_of_ble_eq_true rfl) ?_
  refine G_aload_n 0 dr_cX13_init_4 rfl ?_
  refine G_new [.int 0, .null, .int 0] dr_cX13_init_5 (gk_Jx4a65c D I) wr_7_3 wr_7_4 wr_1_18 (gfs_Jx4a65c) (by decide) (by decide) (fun a => Gp_in (fun P1 F1 hq hP e1 n1 => ?_))
  refine G_widen (cs' := 1) (sl' := 3) (by decide) (by decide) ?_
  have hs1 : rSub P P1 := rSub_new (rSub_rf (P := P)) hP
  have ma : a ∈ P1 := (hP a).mpr (Or.inr rfl)
  have hca : c ≠ a := fun e => hq (e ▸ mc)
  refine G_dup dr_cX13_init_8 rfl ?_
  refine Gw_callI (As := []) (gV_ok D I) (cp_1606_ArrayList_init l hl0 D I P1 F1 a 0 0 ma e1) dr_cX13_init_9 ⟨wr_7_5, wr_1_18, wr_7_7, by decide, rfl, (Nat.le_of_ble_eq_true rfl), (Nat.le_of_ble_eq_true rfl)⟩ wr_7_6 rfl (by decide) (by decide) (Nat.le_of_ble_eq_true rfl) (fun r w dc ds hp => ?_)
  obtain ⟨F2, rfl, rfl, fr2, e2, hdc, hds⟩ := hp
  change G _ _ _ _ _ _ _ _ _ _ _
  refine G_widen (cs' := 1) (sl' := 3) (by omega) (by omega) ?_
  have ec2 : F2 c = .inr (18, [.null, .null, .int 0, .int 0]) := (fr2 c (hs1 c mc) (nm_c hca nm_n)).trans ((n1 c hca).trans ec)
  refine Gp_putF 0 (hs1 c mc) ec2 dr_cX13_init_12 (gk_X13 D I) (Nat.le_of_ble_eq_true rfl) wr_7_30 rfl rfl rfl rfl rfl (Nat.le_of_ble_eq_true rfl) (fun F3 e3 n3 => ?_)
  have e3' : F3 c = .inr (18, [.ref a, .null, .int 0, .int 0]) := e3
  refine G_aload_n 0 dr_cX13_init_15 rfl ?_
  refine G_new [.int 0, .null, .int 0] dr_cX13_init_16 (gk_Jx4a65c D I) wr_7_3 wr_7_4 wr_1_18 (gfs_Jx4a65c) (by decide) (by decide) (fun b => Gp_in (fun P4 F4 hq4 hP4 e4 n4 => ?_))
  refine G_widen (cs' := 2) (sl' := 6) (by decide) (by decide) ?_
  have hs4 : rSub P1 P4 := rSub_new (rSub_rf (P := P1)) hP4
  have mb : b ∈ P4 := (hP4 b).mpr (Or.inr rfl)
  have hcb : c ≠ b := fun e => hq4 (e ▸ hs1 c mc)
  have hab : a ≠ b := fun e => hq4 (e ▸ ma)
  refine G_dup dr_cX13_init_19 rfl ?_
  refine Gw_callI (As := []) (gV_ok D I) (cp_1606_ArrayList_init l hl0 D I P4 F4 b 0 0 mb e4) dr_cX13_init_20 ⟨wr_7_5, wr_1_18, wr_7_7, by decide, rfl, (Nat.le_of_ble_eq_true rfl), (Nat.le_of_ble_eq_true rfl)⟩ wr_7_6 rfl (by decide) (by decide) (Nat.le_of_ble_eq_true rfl) (fun r w dc ds hp => ?_)
  obtain ⟨F5, rfl, rfl, fr5, e5, hdc, hds⟩ := hp
  change G _ _ _ _ _ _ _ _ _ _ _
  refine G_widen (cs' := 2) (sl' := 6) (by omega) (by omega) ?_
  have ec5 : F5 c = .inr (18, [.ref a, .null, .int 0, .int 0]) := (fr5 c (hs4 c (hs1 c mc)) (nm_c hcb nm_n)).trans ((n4 c hcb).trans e3')
  refine Gp_putF 1 (hs4 c (hs1 c mc)) ec5 dr_cX13_init_23 (gk_X13 D I) (Nat.le_of_ble_eq_true rfl) wr_7_31 rfl rfl rfl rfl rfl (Nat.le_of_ble_eq_true rfl) (fun F6 e6 n6 => ?_)
  refine G_vretA dr_cX13_init_26 rfl (by decide) (by decide) ⟨P4, F6, a, b, rfl, rfl, fun x hx => hs4 x (hs1 x hx), fun x hx hn => ?_, e6, ?_, ?_, hs4 a ma, hq, mb, fun z => hq4 (hs1 b z), hab, Nat.le_refl _, Nat.le_refl _⟩
  · have h1 : x ≠ c := fun e => hn (e ▸ List.mem_cons_self)
    have h2 : x ≠ a := fun e => hq (e ▸ hx)
    have h3 : x ≠ b := fun e => hq4 (e ▸ hs1 x hx)
    exact (n6 x h1).trans ((fr5 x (hs4 x (hs1 x hx)) (nm_c h3 nm_n)).trans ((n4 x h3).trans ((n3 x h1).trans ((fr2 x (hs1 x hx) (nm_c h2 nm_n)).trans (n1 x h2)))))
  · exact (n6 a (Ne.symm hca)).trans ((fr5 a (hs4 a ma) (nm_c hab nm_n)).trans ((n4 a hab).trans ((n3 a (Ne.symm hca)).trans e2)))
  · exact (n6 b (Ne.symm hcb)).trans e5
/-- what the constructor leaves -/
def niP (D : va_G) (I : FieldType → ClassId) (m : Nat) : Option Value → va_W → Nat → Nat → Prop := fun r w dc ds => ∃ (P1 : List Nat) (F1 : Nat → va_E) (g lb lr : Nat → Nat) (ra : Nat), r = none ∧ w = va_pl P1 F1 ∧ RS D I P1 F1 (gI0 g m ra lb lr) (fun _ _ => 0) ∧ gI0 g m ra lb lr 0 m = 10 ∧ F1 m = mdE (gI0 g m ra lb lr) (g 28) (g 35) 0 0 0 0 0 0 (-1) 0 0 0 0 0 0 0 0 ∧ F1 (g 29) = .inr (1, [.ref ra, .int 0, .int 0, .int 0]) ∧ F1 (g 28) = .inl (I .int, 0, .inl (fun _ => 0)) ∧ ((inK g m ra lb lr).map Prod.fst).Nodup ∧ dc ≤ 2068 ∧ ds ≤ 94210
set_option maxRecDepth 100000 in
set_option maxHeartbeats 4000000 in
theorem cp_mini (l : Launch) (hl0 : l.stackTraces = false) (D : va_G) (I : FieldType → ClassId) {P : List Nat} {F : Nat → va_E} {m : Nat} (mm : m ∈ P) (em : F m = .inr (22, [.null, .null, .null, .null, .null, .null, .null, .null, .null, .int 0, .int 0, .int 0, .int 0, .int 0, .int 0, .null, .null, .null, .null, .null, .null, .null, .null, .int 0, .int 0, .int 0, .int 0, .int 0, .null, .null, .int 0, .null, .int 0, .int 0, .int 0, .null])) :
    CtA (gV D I) l yX17_init cX17_init 1 none 6 100 2068 94210 [.ref m] (va_pl P F) (niP D I m) gNA := by
  refine CtA_of hl0 (by decide) (Nat.le_of_ble_eq_true rfl) ?_
  have S0 : nwS m (.inr (22, [.null, .null, .null, .null, .null, .null, .null, .null, .null, .int 0, .int 0, .int 0, .int 0, .int 0, .int 0, .null, .null, .null, .null, .null, .null, .null, .null, .int 0, .int 0, .int 0, .int 0, .int 0, .null, .null, .int 0, .null, .int 0, .int 0, .int 0, .null])) [] P F := ⟨mm, em, fun _ h => absurd h List.not_mem_nil, List.nodup_cons.mpr ⟨List.not_mem_nil, List.nodup_nil⟩⟩
  refine G_aload_n 0 dr_cX17_init_0 rfl ?_
  refine G_obj dr_cX17_init_1 wr_6_234 wr_1_51 wr_1_52 (Nat.le_of_ble_eq_true rfl) (Nat.le_of_ble_eq_true rfl) ?_
  refine G_aload_n 0 dr_cX17_init_4 rfl ?_
  refine G_bipush 40 dr_cX17_init_5 (by decide +kernel) ?_
  refine G_bipush 32 dr_cX17_init_7 (by decide +kernel) ?_
  refine G_mna (N := 40) (K := 32) 5 2 dr_cX17_init_9 wr_6_235 gx_ar wr_2_3 rfl rfl (by decide) (by decide) (by decide) (by decide) (by decide) (by decide) (show 0 + (1 + 40) ≤ 2068 by decide) (show 0 + (40 + 40 * 32) ≤ 94210 by decide) (fun a0 => Gp_inL (fun P1 F1 hq1 hP1 hx1 n1 => ?_))
  refine G_widen (cs' := 41) (sl' := 1320) (by decide) (by decide) ?_
  have S1 := nwS_L S0 hq1 hP1 hx1 n1 mnL_nd
  refine Gp_putF 0 S1.1 S1.2.1 dr_cX17_init_13 (gk_X17 D I) (Nat.le_of_ble_eq_true rfl) wr_7_74 rfl rfl rfl rfl rfl (Nat.le_of_ble_eq_true rfl) (fun F2p e2p n2p => ?_)
  have S2p := nwS_put (e1 := .inr (22, [.ref a0, .null, .null, .null, .null, .null, .null, .null, .null, .int 0, .int 0, .int 0, .int 0, .int 0, .int 0, .null, .null, .null, .null, .null, .null, .null, .null, .int 0, .int 0, .int 0, .int 0, .int 0, .null, .null, .int 0, .null, .int 0, .int 0, .int 0, .null])) S1 e2p n2p
  refine G_aload_n 0 dr_cX17_init_16 rfl ?_
  refine G_sipush 2000 dr_cX17_init_17 (by decide +kernel) ?_
  refine G_bipush 32 dr_cX17_init_20 (by decide +kernel) ?_
  refine G_mna (N := 2000) (K := 32) 5 2 dr_cX17_init_22 wr_6_235 gx_ar wr_2_3 rfl rfl (by decide) (by decide) (by decide) (by decide) (by decide) (by decide) (show 41 + (1 + 2000) ≤ 2068 by decide) (show 1320 + (2000 + 2000 * 32) ≤ 94210 by decide) (fun a1 => Gp_inL (fun P3 F3 hq3 hP3 hx3 n3 => ?_))
  refine G_widen (cs' := 2042) (sl' := 67320) (by decide) (by decide) ?_
  have S3 := nwS_L S2p hq3 hP3 hx3 n3 mnL_nd
  refine Gp_putF 1 S3.1 S3.2.1 dr_cX17_init_26 (gk_X17 D I) (Nat.le_of_ble_eq_true rfl) wr_7_75 rfl rfl rfl rfl rfl (Nat.le_of_ble_eq_true rfl) (fun F4p e4p n4p => ?_)
  have S4p := nwS_put (e1 := .inr (22, [.ref a0, .ref a1, .null, .null, .null, .null, .null, .null, .null, .int 0, .int 0, .int 0, .int 0, .int 0, .int 0, .null, .null, .null, .null, .null, .null, .null, .null, .int 0, .int 0, .int 0, .int 0, .int 0, .null, .null, .int 0, .null, .int 0, .int 0, .int 0, .null])) S3 e4p n4p
  refine G_aload_n 0 dr_cX17_init_29 rfl ?_
  refine G_bipush 32 dr_cX17_init_30 (by decide +kernel) ?_
  refine G_newa 2 (32, .inr (.inl (fun _ => 0))) dr_cX17_init_32 rfl rfl (by intro C h; cases h) wr_2_3 (fun _ => ga_long _ _) (by decide) (by decide) (by decide) (show 2042 + 1 ≤ 2068 by decide) (show 67320 + 32 ≤ 94210 by decide) (fun a2 => Gp_in (fun P5 F5 hq5 hP5 hx5 n5 => ?_))
  refine G_widen (cs' := 2043) (sl' := 67352) (by decide) (by decide) ?_
  have S5 := nwS_n S4p hq5 hP5 hx5 n5
  refine Gp_putF 2 S5.1 S5.2.1 dr_cX17_init_34 (gk_X17 D I) (Nat.le_of_ble_eq_true rfl) wr_7_76 rfl rfl rfl rfl rfl (Nat.le_of_ble_eq_true rfl) (fun F6p e6p n6p => ?_)
  have S6p := nwS_put (e1 := .inr (22, [.ref a0, .ref a1, .ref a2, .null, .null, .null, .null, .null, .null, .int 0, .int 0, .int 0, .int 0, .int 0, .int 0, .null, .null, .null, .null, .null, .null, .null, .null, .int 0, .int 0, .int 0, .int 0, .int 0, .null, .null, .int 0, .null, .int 0, .int 0, .int 0, .null])) S5 e6p n6p
  refine G_aload_n 0 dr_cX17_init_37 rfl ?_
  refine G_sipush 2000 dr_cX17_init_38 (by decide +kernel) ?_
  refine G_newa 3 (2000, .inl (fun _ => 0)) dr_cX17_init_41 rfl rfl (by intro C h; cases h) wr_7_29 (fun _ => ga_boolean _ _) (by decide) (by decide) (by decide) (show 2043 + 1 ≤ 2068 by decide) (show 67352 + 2000 ≤ 94210 by decide) (fun a3 => Gp_in (fun P7 F7 hq7 hP7 hx7 n7 => ?_))
  refine G_widen (cs' := 2044) (sl' := 69352) (by decide) (by decide) ?_
  have S7 := nwS_n S6p hq7 hP7 hx7 n7
  refine Gp_putF 3 S7.1 S7.2.1 dr_cX17_init_43 (gk_X17 D I) (Nat.le_of_ble_eq_true rfl) wr_7_77 rfl rfl rfl rfl rfl (Nat.le_of_ble_eq_true rfl) (fun F8p e8p n8p => ?_)
  have S8p := nwS_put (e1 := .inr (22, [.ref a0, .ref a1, .ref a2, .ref a3, .null, .null, .null, .null, .null, .int 0, .int 0, .int 0, .int 0, .int 0, .int 0, .null, .null, .null, .null, .null, .null, .null, .null, .int 0, .int 0, .int 0, .int 0, .int 0, .null, .null, .int 0, .null, .int 0, .int 0, .int 0, .null])) S7 e8p n8p
  refine G_aload_n 0 dr_cX17_init_46 rfl ?_
  refine G_bipush 40 dr_cX17_init_47 (by decide +kernel) ?_
  refine G_newa 0 (40, .inl (fun _ => 0)) dr_cX17_init_49 rfl rfl (by intro C h; cases h) wr_1_95 (fun _ => ga_int _ _) (by decide) (by decide) (by decide) (show 2044 + 1 ≤ 2068 by decide) (show 69352 + 40 ≤ 94210 by decide) (fun a4 => Gp_in (fun P9 F9 hq9 hP9 hx9 n9 => ?_))
  refine G_widen (cs' := 2045) (sl' := 69392) (by decide) (by decide) ?_
  have S9 := nwS_n S8p hq9 hP9 hx9 n9
  refine Gp_putF 4 S9.1 S9.2.1 dr_cX17_init_51 (gk_X17 D I) (Nat.le_of_ble_eq_true rfl) wr_7_78 rfl rfl rfl rfl rfl (Nat.le_of_ble_eq_true rfl) (fun F10p e10p n10p => ?_)
  have S10p := nwS_put (e1 := .inr (22, [.ref a0, .ref a1, .ref a2, .ref a3, .ref a4, .null, .null, .null, .null, .int 0, .int 0, .int 0, .int 0, .int 0, .int 0, .null, .null, .null, .null, .null, .null, .null, .null, .int 0, .int 0, .int 0, .int 0, .int 0, .null, .null, .int 0, .null, .int 0, .int 0, .int 0, .null])) S9 e10p n10p
  refine G_aload_n 0 dr_cX17_init_54 rfl ?_
  refine G_sipush 2000 dr_cX17_init_55 (by decide +kernel) ?_
  refine G_newa 0 (2000, .inl (fun _ => 0)) dr_cX17_init_58 rfl rfl (by intro C h; cases h) wr_1_95 (fun _ => ga_int _ _) (by decide) (by decide) (by decide) (show 2045 + 1 ≤ 2068 by decide) (show 69392 + 2000 ≤ 94210 by decide) (fun a5 => Gp_in (fun P11 F11 hq11 hP11 hx11 n11 => ?_))
  refine G_widen (cs' := 2046) (sl' := 71392) (by decide) (by decide) ?_
  have S11 := nwS_n S10p hq11 hP11 hx11 n11
  refine Gp_putF 5 S11.1 S11.2.1 dr_cX17_init_60 (gk_X17 D I) (Nat.le_of_ble_eq_true rfl) wr_7_79 rfl rfl rfl rfl rfl (Nat.le_of_ble_eq_true rfl) (fun F12p e12p n12p => ?_)
  have S12p := nwS_put (e1 := .inr (22, [.ref a0, .ref a1, .ref a2, .ref a3, .ref a4, .ref a5, .null, .null, .null, .int 0, .int 0, .int 0, .int 0, .int 0, .int 0, .null, .null, .null, .null, .null, .null, .null, .null, .int 0, .int 0, .int 0, .int 0, .int 0, .null, .null, .int 0, .null, .int 0, .int 0, .int 0, .null])) S11 e12p n12p
  refine G_aload_n 0 dr_cX17_init_63 rfl ?_
  refine G_new [.null, .null, .int 0, .int 0] dr_cX17_init_64 (gk_X13 D I) wr_6_237 wr_6_238 wr_1_15 (gfs_X13) (show 2046 + 1 ≤ 2068 by decide) (show 71392 + 4 ≤ 94210 by decide) (fun a6 => Gp_in (fun P13 F13 hq13 hP13 hx13 n13 => ?_))
  refine G_widen (cs' := 2047) (sl' := 71396) (by decide) (by decide) ?_
  have S13 := nwS_n S12p hq13 hP13 hx13 n13
  refine G_dup dr_cX17_init_67 rfl ?_
  refine Gw_callIN (As := []) (gV_ok D I) (cp_cini l hl0 D I (P := P13) (F := F13) (c := a6) (S13.2.2.1 _ List.mem_cons_self).1 hx13) dr_cX17_init_68 ⟨(fun _ _ _ h => gn_w 75 rfl h), wr_1_15, wr_7_1, by decide, rfl, (Nat.le_of_ble_eq_true rfl), (Nat.le_of_ble_eq_true rfl)⟩ wr_7_0 rfl (show 2047 + 2 ≤ 2068 by decide) (show 71396 + 6 ≤ 94210 by decide) (Nat.le_of_ble_eq_true rfl) (fun r13 w13 dc13 ds13 hp13 => ?_)
  obtain ⟨P13c, F13c, b6, d6, rfl, rfl, hs13, fr13, ec13, eb13, ed13, mb13, nb13, md13, nd13, ne13, hdc13, hds13⟩ := hp13
  change G _ _ _ _ _ _ _ _ _ _ _
  refine G_widen (cs' := 2049) (sl' := 71402) (by omega) (by omega) ?_
  have S13c := nwS_c (v := [(b6, .inr (4, [.int 0, .ref (D.2 1002 1), .int 0])), (d6, .inr (4, [.int 0, .ref (D.2 1002 1), .int 0]))]) S13 hs13 fr13 ec13 (fun z hz => by
    rcases List.mem_cons.mp hz with e | e
    · rw [e]; exact ⟨mb13, nb13, eb13⟩
    · rw [List.mem_singleton.mp e]; exact ⟨md13, nd13, ed13⟩) (List.nodup_cons.mpr ⟨fun h => ne13 (List.mem_singleton.mp h), List.nodup_cons.mpr ⟨List.not_mem_nil, List.nodup_nil⟩⟩)
  refine Gp_put 6 S13c.1 S13c.2.1 dr_cX17_init_71 (gk_X17 D I) (Nat.le_of_ble_eq_true rfl) wr_7_80 rfl rfl rfl (Nat.le_of_ble_eq_true rfl) (fun F14p e14p n14p => ?_)
  have S14p := nwS_put (e1 := .inr (22, [.ref a0, .ref a1, .ref a2, .ref a3, .ref a4, .ref a5, .ref a6, .null, .null, .int 0, .int 0, .int 0, .int 0, .int 0, .int 0, .null, .null, .null, .null, .null, .null, .null, .null, .int 0, .int 0, .int 0, .int 0, .int 0, .null, .null, .int 0, .null, .int 0, .int 0, .int 0, .null])) S13c e14p n14p
  refine G_aload_n 0 dr_cX17_init_74 rfl ?_
  refine G_new [.null, .null, .int 0, .int 0] dr_cX17_init_75 (gk_X13 D I) wr_6_237 wr_6_238 wr_1_15 (gfs_X13) (show 2049 + 1 ≤ 2068 by decide) (show 71402 + 4 ≤ 94210 by decide) (fun a7 => Gp_in (fun P15 F15 hq15 hP15 hx15 n15 => ?_))
  refine G_widen (cs' := 2050) (sl' := 71406) (by decide) (by decide) ?_
  have S15 := nwS_n S14p hq15 hP15 hx15 n15
  refine G_dup dr_cX17_init_78 rfl ?_
  refine Gw_callIN (As := []) (gV_ok D I) (cp_cini l hl0 D I (P := P15) (F := F15) (c := a7) (S15.2.2.1 _ List.mem_cons_self).1 hx15) dr_cX17_init_79 ⟨(fun _ _ _ h => gn_w 75 rfl h), wr_1_15, wr_7_1, by decide, rfl, (Nat.le_of_ble_eq_true rfl), (Nat.le_of_ble_eq_true rfl)⟩ wr_7_0 rfl (show 2050 + 2 ≤ 2068 by decide) (show 71406 + 6 ≤ 94210 by decide) (Nat.le_of_ble_eq_true rfl) (fun r15 w15 dc15 ds15 hp15 => ?_)
  obtain ⟨P15c, F15c, b7, d7, rfl, rfl, hs15, fr15, ec15, eb15, ed15, mb15, nb15, md15, nd15, ne15, hdc15, hds15⟩ := hp15
  change G _ _ _ _ _ _ _ _ _ _ _
  refine G_widen (cs' := 2052) (sl' := 71412) (by omega) (by omega) ?_
  have S15c := nwS_c (v := [(b7, .inr (4, [.int 0, .ref (D.2 1002 1), .int 0])), (d7, .inr (4, [.int 0, .ref (D.2 1002 1), .int 0]))]) S15 hs15 fr15 ec15 (fun z hz => by
    rcases List.mem_cons.mp hz with e | e
    · rw [e]; exact ⟨mb15, nb15, eb15⟩
    · rw [List.mem_singleton.mp e]; exact ⟨md15, nd15, ed15⟩) (List.nodup_cons.mpr ⟨fun h => ne15 (List.mem_singleton.mp h), List.nodup_cons.mpr ⟨List.not_mem_nil, List.nodup_nil⟩⟩)
  refine Gp_put 7 S15c.1 S15c.2.1 dr_cX17_init_82 (gk_X17 D I) (Nat.le_of_ble_eq_true rfl) wr_7_81 rfl rfl rfl (Nat.le_of_ble_eq_true rfl) (fun F16p e16p n16p => ?_)
  have S16p := nwS_put (e1 := .inr (22, [.ref a0, .ref a1, .ref a2, .ref a3, .ref a4, .ref a5, .ref a6, .ref a7, .null, .int 0, .int 0, .int 0, .int 0, .int 0, .int 0, .null, .null, .null, .null, .null, .null, .null, .null, .int 0, .int 0, .int 0, .int 0, .int 0, .null, .null, .int 0, .null, .int 0, .int 0, .int 0, .null])) S15c e16p n16p
  refine G_aload_n 0 dr_cX17_init_85 rfl ?_
  refine G_new [.null, .null, .int 0, .int 0] dr_cX17_init_86 (gk_X13 D I) wr_6_237 wr_6_238 wr_1_15 (gfs_X13) (show 2052 + 1 ≤ 2068 by decide) (show 71412 + 4 ≤ 94210 by decide) (fun a8 => Gp_in (fun P17 F17 hq17 hP17 hx17 n17 => ?_))
  refine G_widen (cs' := 2053) (sl' := 71416) (by decide) (by decide) ?_
  have S17 := nwS_n S16p hq17 hP17 hx17 n17
  refine G_dup dr_cX17_init_89 rfl ?_
  refine Gw_callIN (As := []) (gV_ok D I) (cp_cini l hl0 D I (P := P17) (F := F17) (c := a8) (S17.2.2.1 _ List.mem_cons_self).1 hx17) dr_cX17_init_90 ⟨(fun _ _ _ h => gn_w 75 rfl h), wr_1_15, wr_7_1, by decide, rfl, (Nat.le_of_ble_eq_true rfl), (Nat.le_of_ble_eq_true rfl)⟩ wr_7_0 rfl (show 2053 + 2 ≤ 2068 by decide) (show 71416 + 6 ≤ 94210 by decide) (Nat.le_of_ble_eq_true rfl) (fun r17 w17 dc17 ds17 hp17 => ?_)
  obtain ⟨P17c, F17c, b8, d8, rfl, rfl, hs17, fr17, ec17, eb17, ed17, mb17, nb17, md17, nd17, ne17, hdc17, hds17⟩ := hp17
  change G _ _ _ _ _ _ _ _ _ _ _
  refine G_widen (cs' := 2055) (sl' := 71422) (by omega) (by omega) ?_
  have S17c := nwS_c (v := [(b8, .inr (4, [.int 0, .ref (D.2 1002 1), .int 0])), (d8, .inr (4, [.int 0, .ref (D.2 1002 1), .int 0]))]) S17 hs17 fr17 ec17 (fun z hz => by
    rcases List.mem_cons.mp hz with e | e
    · rw [e]; exact ⟨mb17, nb17, eb17⟩
    · rw [List.mem_singleton.mp e]; exact ⟨md17, nd17, ed17⟩) (List.nodup_cons.mpr ⟨fun h => ne17 (List.mem_singleton.mp h), List.nodup_cons.mpr ⟨List.not_mem_nil, List.nodup_nil⟩⟩)
  refine Gp_put 8 S17c.1 S17c.2.1 dr_cX17_init_93 (gk_X17 D I) (Nat.le_of_ble_eq_true rfl) wr_7_82 rfl rfl rfl (Nat.le_of_ble_eq_true rfl) (fun F18p e18p n18p => ?_)
  have S18p := nwS_put (e1 := .inr (22, [.ref a0, .ref a1, .ref a2, .ref a3, .ref a4, .ref a5, .ref a6, .ref a7, .ref a8, .int 0, .int 0, .int 0, .int 0, .int 0, .int 0, .null, .null, .null, .null, .null, .null, .null, .null, .int 0, .int 0, .int 0, .int 0, .int 0, .null, .null, .int 0, .null, .int 0, .int 0, .int 0, .null])) S17c e18p n18p
  refine G_aload_n 0 dr_cX17_init_96 rfl ?_
  refine G_sipush 2000 dr_cX17_init_97 (by decide +kernel) ?_
  refine G_newa 0 (2000, .inl (fun _ => 0)) dr_cX17_init_100 rfl rfl (by intro C h; cases h) wr_1_95 (fun _ => ga_int _ _) (by decide) (by decide) (by decide) (show 2055 + 1 ≤ 2068 by decide) (show 71422 + 2000 ≤ 94210 by decide) (fun a15 => Gp_in (fun P19 F19 hq19 hP19 hx19 n19 => ?_))
  refine G_widen (cs' := 2056) (sl' := 73422) (by decide) (by decide) ?_
  have S19 := nwS_n S18p hq19 hP19 hx19 n19
  refine Gp_putF 15 S19.1 S19.2.1 dr_cX17_init_102 (gk_X17 D I) (Nat.le_of_ble_eq_true rfl) wr_7_89 rfl rfl rfl rfl rfl (Nat.le_of_ble_eq_true rfl) (fun F20p e20p n20p => ?_)
  have S20p := nwS_put (e1 := .inr (22, [.ref a0, .ref a1, .ref a2, .ref a3, .ref a4, .ref a5, .ref a6, .ref a7, .ref a8, .int 0, .int 0, .int 0, .int 0, .int 0, .int 0, .ref a15, .null, .null, .null, .null, .null, .null, .null, .int 0, .int 0, .int 0, .int 0, .int 0, .null, .null, .int 0, .null, .int 0, .int 0, .int 0, .null])) S19 e20p n20p
  refine G_aload_n 0 dr_cX17_init_105 rfl ?_
  refine G_sipush 2000 dr_cX17_init_106 (by decide +kernel) ?_
  refine G_newa 0 (2000, .inl (fun _ => 0)) dr_cX17_init_109 rfl rfl (by intro C h; cases h) wr_1_95 (fun _ => ga_int _ _) (by decide) (by decide) (by decide) (show 2056 + 1 ≤ 2068 by decide) (show 73422 + 2000 ≤ 94210 by decide) (fun a16 => Gp_in (fun P21 F21 hq21 hP21 hx21 n21 => ?_))
  refine G_widen (cs' := 2057) (sl' := 75422) (by decide) (by decide) ?_
  have S21 := nwS_n S20p hq21 hP21 hx21 n21
  refine Gp_putF 16 S21.1 S21.2.1 dr_cX17_init_111 (gk_X17 D I) (Nat.le_of_ble_eq_true rfl) wr_7_90 rfl rfl rfl rfl rfl (Nat.le_of_ble_eq_true rfl) (fun F22p e22p n22p => ?_)
  have S22p := nwS_put (e1 := .inr (22, [.ref a0, .ref a1, .ref a2, .ref a3, .ref a4, .ref a5, .ref a6, .ref a7, .ref a8, .int 0, .int 0, .int 0, .int 0, .int 0, .int 0, .ref a15, .ref a16, .null, .null, .null, .null, .null, .null, .int 0, .int 0, .int 0, .int 0, .int 0, .null, .null, .int 0, .null, .int 0, .int 0, .int 0, .null])) S21 e22p n22p
  refine G_aload_n 0 dr_cX17_init_114 rfl ?_
  refine G_sipush 2000 dr_cX17_init_115 (by decide +kernel) ?_
  refine G_newa 0 (2000, .inl (fun _ => 0)) dr_cX17_init_118 rfl rfl (by intro C h; cases h) wr_1_95 (fun _ => ga_int _ _) (by decide) (by decide) (by decide) (show 2057 + 1 ≤ 2068 by decide) (show 75422 + 2000 ≤ 94210 by decide) (fun a17 => Gp_in (fun P23 F23 hq23 hP23 hx23 n23 => ?_))
  refine G_widen (cs' := 2058) (sl' := 77422) (by decide) (by decide) ?_
  have S23 := nwS_n S22p hq23 hP23 hx23 n23
  refine Gp_putF 17 S23.1 S23.2.1 dr_cX17_init_120 (gk_X17 D I) (Nat.le_of_ble_eq_true rfl) wr_7_91 rfl rfl rfl rfl rfl (Nat.le_of_ble_eq_true rfl) (fun F24p e24p n24p => ?_)
  have S24p := nwS_put (e1 := .inr (22, [.ref a0, .ref a1, .ref a2, .ref a3, .ref a4, .ref a5, .ref a6, .ref a7, .ref a8, .int 0, .int 0, .int 0, .int 0, .int 0, .int 0, .ref a15, .ref a16, .ref a17, .null, .null, .null, .null, .null, .int 0, .int 0, .int 0, .int 0, .int 0, .null, .null, .int 0, .null, .int 0, .int 0, .int 0, .null])) S23 e24p n24p
  refine G_aload_n 0 dr_cX17_init_123 rfl ?_
  refine G_sipush 2000 dr_cX17_init_124 (by decide +kernel) ?_
  refine G_newa 3 (2000, .inl (fun _ => 0)) dr_cX17_init_127 rfl rfl (by intro C h; cases h) wr_7_29 (fun _ => ga_boolean _ _) (by decide) (by decide) (by decide) (show 2058 + 1 ≤ 2068 by decide) (show 77422 + 2000 ≤ 94210 by decide) (fun a18 => Gp_in (fun P25 F25 hq25 hP25 hx25 n25 => ?_))
  refine G_widen (cs' := 2059) (sl' := 79422) (by decide) (by decide) ?_
  have S25 := nwS_n S24p hq25 hP25 hx25 n25
  refine Gp_putF 18 S25.1 S25.2.1 dr_cX17_init_129 (gk_X17 D I) (Nat.le_of_ble_eq_true rfl) wr_7_92 rfl rfl rfl rfl rfl (Nat.le_of_ble_eq_true rfl) (fun F26p e26p n26p => ?_)
  have S26p := nwS_put (e1 := .inr (22, [.ref a0, .ref a1, .ref a2, .ref a3, .ref a4, .ref a5, .ref a6, .ref a7, .ref a8, .int 0, .int 0, .int 0, .int 0, .int 0, .int 0, .ref a15, .ref a16, .ref a17, .ref a18, .null, .null, .null, .null, .int 0, .int 0, .int 0, .int 0, .int 0, .null, .null, .int 0, .null, .int 0, .int 0, .int 0, .null])) S25 e26p n26p
  refine G_aload_n 0 dr_cX17_init_132 rfl ?_
  refine G_sipush 2000 dr_cX17_init_133 (by decide +kernel) ?_
  refine G_newa 0 (2000, .inl (fun _ => 0)) dr_cX17_init_136 rfl rfl (by intro C h; cases h) wr_1_95 (fun _ => ga_int _ _) (by decide) (by decide) (by decide) (show 2059 + 1 ≤ 2068 by decide) (show 79422 + 2000 ≤ 94210 by decide) (fun a19 => Gp_in (fun P27 F27 hq27 hP27 hx27 n27 => ?_))
  refine G_widen (cs' := 2060) (sl' := 81422) (by decide) (by decide) ?_
  have S27 := nwS_n S26p hq27 hP27 hx27 n27
  refine Gp_putF 19 S27.1 S27.2.1 dr_cX17_init_138 (gk_X17 D I) (Nat.le_of_ble_eq_true rfl) wr_7_93 rfl rfl rfl rfl rfl (Nat.le_of_ble_eq_true rfl) (fun F28p e28p n28p => ?_)
  have S28p := nwS_put (e1 := .inr (22, [.ref a0, .ref a1, .ref a2, .ref a3, .ref a4, .ref a5, .ref a6, .ref a7, .ref a8, .int 0, .int 0, .int 0, .int 0, .int 0, .int 0, .ref a15, .ref a16, .ref a17, .ref a18, .ref a19, .null, .null, .null, .int 0, .int 0, .int 0, .int 0, .int 0, .null, .null, .int 0, .null, .int 0, .int 0, .int 0, .null])) S27 e28p n28p
  refine G_aload_n 0 dr_cX17_init_141 rfl ?_
  refine G_sipush 2000 dr_cX17_init_142 (by decide +kernel) ?_
  refine G_newa 0 (2000, .inl (fun _ => 0)) dr_cX17_init_145 rfl rfl (by intro C h; cases h) wr_1_95 (fun _ => ga_int _ _) (by decide) (by decide) (by decide) (show 2060 + 1 ≤ 2068 by decide) (show 81422 + 2000 ≤ 94210 by decide) (fun a20 => Gp_in (fun P29 F29 hq29 hP29 hx29 n29 => ?_))
  refine G_widen (cs' := 2061) (sl' := 83422) (by decide) (by decide) ?_
  have S29 := nwS_n S28p hq29 hP29 hx29 n29
  refine Gp_putF 20 S29.1 S29.2.1 dr_cX17_init_147 (gk_X17 D I) (Nat.le_of_ble_eq_true rfl) wr_7_94 rfl rfl rfl rfl rfl (Nat.le_of_ble_eq_true rfl) (fun F30p e30p n30p => ?_)
  have S30p := nwS_put (e1 := .inr (22, [.ref a0, .ref a1, .ref a2, .ref a3, .ref a4, .ref a5, .ref a6, .ref a7, .ref a8, .int 0, .int 0, .int 0, .int 0, .int 0, .int 0, .ref a15, .ref a16, .ref a17, .ref a18, .ref a19, .ref a20, .null, .null, .int 0, .int 0, .int 0, .int 0, .int 0, .null, .null, .int 0, .null, .int 0, .int 0, .int 0, .null])) S29 e30p n30p
  refine G_aload_n 0 dr_cX17_init_150 rfl ?_
  refine G_sipush 2000 dr_cX17_init_151 (by decide +kernel) ?_
  refine G_newa 0 (2000, .inl (fun _ => 0)) dr_cX17_init_154 rfl rfl (by intro C h; cases h) wr_1_95 (fun _ => ga_int _ _) (by decide) (by decide) (by decide) (show 2061 + 1 ≤ 2068 by decide) (show 83422 + 2000 ≤ 94210 by decide) (fun a21 => Gp_in (fun P31 F31 hq31 hP31 hx31 n31 => ?_))
  refine G_widen (cs' := 2062) (sl' := 85422) (by decide) (by decide) ?_
  have S31 := nwS_n S30p hq31 hP31 hx31 n31
  refine Gp_putF 21 S31.1 S31.2.1 dr_cX17_init_156 (gk_X17 D I) (Nat.le_of_ble_eq_true rfl) wr_7_95 rfl rfl rfl rfl rfl (Nat.le_of_ble_eq_true rfl) (fun F32p e32p n32p => ?_)
  have S32p := nwS_put (e1 := .inr (22, [.ref a0, .ref a1, .ref a2, .ref a3, .ref a4, .ref a5, .ref a6, .ref a7, .ref a8, .int 0, .int 0, .int 0, .int 0, .int 0, .int 0, .ref a15, .ref a16, .ref a17, .ref a18, .ref a19, .ref a20, .ref a21, .null, .int 0, .int 0, .int 0, .int 0, .int 0, .null, .null, .int 0, .null, .int 0, .int 0, .int 0, .null])) S31 e32p n32p
  refine G_aload_n 0 dr_cX17_init_159 rfl ?_
  refine G_sipush 512 dr_cX17_init_160 (by decide +kernel) ?_
  refine G_newa 0 (512, .inl (fun _ => 0)) dr_cX17_init_163 rfl rfl (by intro C h; cases h) wr_1_95 (fun _ => ga_int _ _) (by decide) (by decide) (by decide) (show 2062 + 1 ≤ 2068 by decide) (show 85422 + 512 ≤ 94210 by decide) (fun a22 => Gp_in (fun P33 F33 hq33 hP33 hx33 n33 => ?_))
  refine G_widen (cs' := 2063) (sl' := 85934) (by decide) (by decide) ?_
  have S33 := nwS_n S32p hq33 hP33 hx33 n33
  refine Gp_putF 22 S33.1 S33.2.1 dr_cX17_init_165 (gk_X17 D I) (Nat.le_of_ble_eq_true rfl) wr_7_96 rfl rfl rfl rfl rfl (Nat.le_of_ble_eq_true rfl) (fun F34p e34p n34p => ?_)
  have S34p := nwS_put (e1 := .inr (22, [.ref a0, .ref a1, .ref a2, .ref a3, .ref a4, .ref a5, .ref a6, .ref a7, .ref a8, .int 0, .int 0, .int 0, .int 0, .int 0, .int 0, .ref a15, .ref a16, .ref a17, .ref a18, .ref a19, .ref a20, .ref a21, .ref a22, .int 0, .int 0, .int 0, .int 0, .int 0, .null, .null, .int 0, .null, .int 0, .int 0, .int 0, .null])) S33 e34p n34p
  refine G_aload_n 0 dr_cX17_init_168 rfl ?_
  refine G_iconst (-1) dr_cX17_init_169 (by decide +kernel) ?_
  refine Gp_put 23 S34p.1 S34p.2.1 dr_cX17_init_170 (gk_X17 D I) (Nat.le_of_ble_eq_true rfl) wr_7_97 rfl rfl rfl (Nat.le_of_ble_eq_true rfl) (fun F36p e36p n36p => ?_)
  have S36p := nwS_put (e1 := .inr (22, [.ref a0, .ref a1, .ref a2, .ref a3, .ref a4, .ref a5, .ref a6, .ref a7, .ref a8, .int 0, .int 0, .int 0, .int 0, .int 0, .int 0, .ref a15, .ref a16, .ref a17, .ref a18, .ref a19, .ref a20, .ref a21, .ref a22, .int (-1), .int 0, .int 0, .int 0, .int 0, .null, .null, .int 0, .null, .int 0, .int 0, .int 0, .null])) S34p e36p n36p
  refine G_aload_n 0 dr_cX17_init_173 rfl ?_
  refine G_iconst 0 dr_cX17_init_174 (by decide +kernel) ?_
  refine G_newa 0 (0, .inl (fun _ => 0)) dr_cX17_init_175 rfl rfl (by intro C h; cases h) wr_1_95 (fun _ => ga_int _ _) (by decide) (by decide) (by decide) (show 2063 + 1 ≤ 2068 by decide) (show 85934 + 0 ≤ 94210 by decide) (fun a28 => Gp_in (fun P37 F37 hq37 hP37 hx37 n37 => ?_))
  refine G_widen (cs' := 2064) (sl' := 85934) (by decide) (by decide) ?_
  have S37 := nwS_n S36p hq37 hP37 hx37 n37
  refine Gp_put 28 S37.1 S37.2.1 dr_cX17_init_177 (gk_X17 D I) (Nat.le_of_ble_eq_true rfl) wr_7_102 rfl rfl rfl (Nat.le_of_ble_eq_true rfl) (fun F38p e38p n38p => ?_)
  have S38p := nwS_put (e1 := .inr (22, [.ref a0, .ref a1, .ref a2, .ref a3, .ref a4, .ref a5, .ref a6, .ref a7, .ref a8, .int 0, .int 0, .int 0, .int 0, .int 0, .int 0, .ref a15, .ref a16, .ref a17, .ref a18, .ref a19, .ref a20, .ref a21, .ref a22, .int (-1), .int 0, .int 0, .int 0, .int 0, .ref a28, .null, .int 0, .null, .int 0, .int 0, .int 0, .null])) S37 e38p n38p
  refine G_aload_n 0 dr_cX17_init_180 rfl ?_
  refine G_new [.null, .int 0, .int 0, .int 0] dr_cX17_init_181 (gk_J4 D I) wr_7_43 wr_7_44 wr_1_20 (gfs_J4) (show 2064 + 1 ≤ 2068 by decide) (show 85934 + 4 ≤ 94210 by decide) (fun a29 => Gp_in (fun P39 F39 hq39 hP39 hx39 n39 => ?_))
  refine G_widen (cs' := 2065) (sl' := 85938) (by decide) (by decide) ?_
  have S39 := nwS_n S38p hq39 hP39 hx39 n39
  refine G_dup dr_cX17_init_184 rfl ?_
  refine Gw_callI (As := []) (gV_ok D I) (cp_659115_StringBuilder_init l hl0 D I P39 F39 a29 0 0 (S39.2.2.1 _ List.mem_cons_self).1 hx39 ⟨by decide, by decide⟩ ⟨by decide, by decide⟩) dr_cX17_init_185 ⟨wr_7_45, wr_1_20, wr_7_47, by decide, rfl, (Nat.le_of_ble_eq_true rfl), (Nat.le_of_ble_eq_true rfl)⟩ wr_7_46 rfl (show 2065 + 1 ≤ 2068 by decide) (show 85938 + 16 ≤ 94210 by decide) (Nat.le_of_ble_eq_true rfl) (fun r39 w39 dc39 ds39 hp39 => ?_)
  obtain ⟨P39c, F39c, ra, rfl, rfl, hs39, fr39, ec39, eb39, mb39, nb39, hdc39, hds39⟩ := hp39
  change G _ _ _ _ _ _ _ _ _ _ _
  refine G_widen (cs' := 2066) (sl' := 85954) (by omega) (by omega) ?_
  have S39c := nwS_c (v := [(ra, .inl (I .byte, 16, .inl (fun _ => 0)))]) S39 hs39 fr39 ec39 (fun z hz => by rw [List.mem_singleton.mp hz]; exact ⟨mb39, nb39, eb39⟩) (List.nodup_cons.mpr ⟨List.not_mem_nil, List.nodup_nil⟩)
  refine Gp_putF 29 S39c.1 S39c.2.1 dr_cX17_init_188 (gk_X17 D I) (Nat.le_of_ble_eq_true rfl) wr_7_103 rfl rfl rfl rfl rfl (Nat.le_of_ble_eq_true rfl) (fun F40p e40p n40p => ?_)
  have S40p := nwS_put (e1 := .inr (22, [.ref a0, .ref a1, .ref a2, .ref a3, .ref a4, .ref a5, .ref a6, .ref a7, .ref a8, .int 0, .int 0, .int 0, .int 0, .int 0, .int 0, .ref a15, .ref a16, .ref a17, .ref a18, .ref a19, .ref a20, .ref a21, .ref a22, .int (-1), .int 0, .int 0, .int 0, .int 0, .ref a28, .ref a29, .int 0, .null, .int 0, .int 0, .int 0, .null])) S39c e40p n40p
  refine G_aload_n 0 dr_cX17_init_191 rfl ?_
  refine G_sipush 8192 dr_cX17_init_192 (by decide +kernel) ?_
  refine G_newa 1 (8192, .inl (fun _ => 0)) dr_cX17_init_195 rfl rfl (by intro C h; cases h) wr_1_66 (fun _ => ga_byte _ _) (by decide) (by decide) (by decide) (show 2066 + 1 ≤ 2068 by decide) (show 85954 + 8192 ≤ 94210 by decide) (fun a31 => Gp_in (fun P41 F41 hq41 hP41 hx41 n41 => ?_))
  refine G_widen (cs' := 2067) (sl' := 94146) (by decide) (by decide) ?_
  have S41 := nwS_n S40p hq41 hP41 hx41 n41
  refine Gp_putF 31 S41.1 S41.2.1 dr_cX17_init_197 (gk_X17 D I) (Nat.le_of_ble_eq_true rfl) wr_7_105 rfl rfl rfl rfl rfl (Nat.le_of_ble_eq_true rfl) (fun F42p e42p n42p => ?_)
  have S42p := nwS_put (e1 := .inr (22, [.ref a0, .ref a1, .ref a2, .ref a3, .ref a4, .ref a5, .ref a6, .ref a7, .ref a8, .int 0, .int 0, .int 0, .int 0, .int 0, .int 0, .ref a15, .ref a16, .ref a17, .ref a18, .ref a19, .ref a20, .ref a21, .ref a22, .int (-1), .int 0, .int 0, .int 0, .int 0, .ref a28, .ref a29, .int 0, .ref a31, .int 0, .int 0, .int 0, .null])) S41 e42p n42p
  refine G_aload_n 0 dr_cX17_init_200 rfl ?_
  refine G_bipush 64 dr_cX17_init_201 (by decide +kernel) ?_
  refine G_newa 1 (64, .inl (fun _ => 0)) dr_cX17_init_203 rfl rfl (by intro C h; cases h) wr_1_66 (fun _ => ga_byte _ _) (by decide) (by decide) (by decide) (show 2067 + 1 ≤ 2068 by decide) (show 94146 + 64 ≤ 94210 by decide) (fun a35 => Gp_in (fun P43 F43 hq43 hP43 hx43 n43 => ?_))
  refine G_widen (cs' := 2068) (sl' := 94210) (by decide) (by decide) ?_
  have S43 := nwS_n S42p hq43 hP43 hx43 n43
  refine Gp_put 35 S43.1 S43.2.1 dr_cX17_init_205 (gk_X17 D I) (Nat.le_of_ble_eq_true rfl) wr_7_109 rfl rfl rfl (Nat.le_of_ble_eq_true rfl) (fun F44p e44p n44p => ?_)
  have S44p := nwS_put (e1 := .inr (22, [.ref a0, .ref a1, .ref a2, .ref a3, .ref a4, .ref a5, .ref a6, .ref a7, .ref a8, .int 0, .int 0, .int 0, .int 0, .int 0, .int 0, .ref a15, .ref a16, .ref a17, .ref a18, .ref a19, .ref a20, .ref a21, .ref a22, .int (-1), .int 0, .int 0, .int 0, .int 0, .ref a28, .ref a29, .int 0, .ref a31, .int 0, .int 0, .int 0, .ref a35])) S43 e44p n44p
  have Z : nwS m (.inr (22, [.ref a0, .ref a1, .ref a2, .ref a3, .ref a4, .ref a5, .ref a6, .ref a7, .ref a8, .int 0, .int 0, .int 0, .int 0, .int 0, .int 0, .ref a15, .ref a16, .ref a17, .ref a18, .ref a19, .ref a20, .ref a21, .ref a22, .int (-1), .int 0, .int 0, .int 0, .int 0, .ref a28, .ref a29, .int 0, .ref a31, .int 0, .int 0, .int 0, .ref a35])) (([(a35, .inl (I .byte, 64, .inl (fun _ => 0))), (a31, .inl (I .byte, 8192, .inl (fun _ => 0))), (ra, .inl (I .byte, 16, .inl (fun _ => 0))), (a29, .inr (1, [.ref ra, .int 0, .int 0, .int 0])), (a28, .inl (I .int, 0, .inl (fun _ => 0))), (a22, .inl (I .int, 512, .inl (fun _ => 0))), (a21, .inl (I .int, 2000, .inl (fun _ => 0))), (a20, .inl (I .int, 2000, .inl (fun _ => 0))), (a19, .inl (I .int, 2000, .inl (fun _ => 0))), (a18, .inl (I .boolean, 2000, .inl (fun _ => 0))), (a17, .inl (I .int, 2000, .inl (fun _ => 0))), (a16, .inl (I .int, 2000, .inl (fun _ => 0))), (a15, .inl (I .int, 2000, .inl (fun _ => 0))), (b8, .inr (4, [.int 0, .ref (D.2 1002 1), .int 0])), (d8, .inr (4, [.int 0, .ref (D.2 1002 1), .int 0])), (a8, .inr (18, [.ref b8, .ref d8, .int 0, .int 0])), (b7, .inr (4, [.int 0, .ref (D.2 1002 1), .int 0])), (d7, .inr (4, [.int 0, .ref (D.2 1002 1), .int 0])), (a7, .inr (18, [.ref b7, .ref d7, .int 0, .int 0])), (b6, .inr (4, [.int 0, .ref (D.2 1002 1), .int 0])), (d6, .inr (4, [.int 0, .ref (D.2 1002 1), .int 0])), (a6, .inr (18, [.ref b6, .ref d6, .int 0, .int 0])), (a5, .inl (I .int, 2000, .inl (fun _ => 0))), (a4, .inl (I .int, 40, .inl (fun _ => 0))), (a3, .inl (I .boolean, 2000, .inl (fun _ => 0))), (a2, .inl (I .long, 32, .inr (.inl (fun _ => 0))))] : va_W) ++ (mnL (I (.array .long)) (I .long) a1 2000 32 ++ (mnL (I (.array .long)) (I .long) a0 40 32 ++ []))) P43 F44p := S44p
  have hN : (inK (fun j => [a0, a1, a2, a3, a4, a5, a6, a7, a8, 0, 0, 0, 0, 0, 0, a15, a16, a17, a18, a19, a20, a21, a22, 0, 0, 0, 0, 0, a28, a29, 0, a31, 0, 0, 0, a35].getD j 0) m ra (fun j => [b6, b7, b8].getD j 0) (fun j => [d6, d7, d8].getD j 0)).map Prod.fst = m :: (([(a35, .inl (I .byte, 64, .inl (fun _ => 0))), (a31, .inl (I .byte, 8192, .inl (fun _ => 0))), (ra, .inl (I .byte, 16, .inl (fun _ => 0))), (a29, .inr (1, [.ref ra, .int 0, .int 0, .int 0])), (a28, .inl (I .int, 0, .inl (fun _ => 0))), (a22, .inl (I .int, 512, .inl (fun _ => 0))), (a21, .inl (I .int, 2000, .inl (fun _ => 0))), (a20, .inl (I .int, 2000, .inl (fun _ => 0))), (a19, .inl (I .int, 2000, .inl (fun _ => 0))), (a18, .inl (I .boolean, 2000, .inl (fun _ => 0))), (a17, .inl (I .int, 2000, .inl (fun _ => 0))), (a16, .inl (I .int, 2000, .inl (fun _ => 0))), (a15, .inl (I .int, 2000, .inl (fun _ => 0))), (b8, .inr (4, [.int 0, .ref (D.2 1002 1), .int 0])), (d8, .inr (4, [.int 0, .ref (D.2 1002 1), .int 0])), (a8, .inr (18, [.ref b8, .ref d8, .int 0, .int 0])), (b7, .inr (4, [.int 0, .ref (D.2 1002 1), .int 0])), (d7, .inr (4, [.int 0, .ref (D.2 1002 1), .int 0])), (a7, .inr (18, [.ref b7, .ref d7, .int 0, .int 0])), (b6, .inr (4, [.int 0, .ref (D.2 1002 1), .int 0])), (d6, .inr (4, [.int 0, .ref (D.2 1002 1), .int 0])), (a6, .inr (18, [.ref b6, .ref d6, .int 0, .int 0])), (a5, .inl (I .int, 2000, .inl (fun _ => 0))), (a4, .inl (I .int, 40, .inl (fun _ => 0))), (a3, .inl (I .boolean, 2000, .inl (fun _ => 0))), (a2, .inl (I .long, 32, .inr (.inl (fun _ => 0))))] : va_W) ++ (mnL (I (.array .long)) (I .long) a1 2000 32 ++ (mnL (I (.array .long)) (I .long) a0 40 32 ++ []))).map Prod.fst := by
    simp only [inK, inA, inR, mnL, List.map_append, List.map_cons, List.map_map, List.map_nil, List.append_nil, List.cons_append, List.nil_append]
    rfl
  have hnd : ((inK (fun j => [a0, a1, a2, a3, a4, a5, a6, a7, a8, 0, 0, 0, 0, 0, 0, a15, a16, a17, a18, a19, a20, a21, a22, 0, 0, 0, 0, 0, a28, a29, 0, a31, 0, 0, 0, a35].getD j 0) m ra (fun j => [b6, b7, b8].getD j 0) (fun j => [d6, d7, d8].getD j 0)).map Prod.fst).Nodup := by rw [hN]; exact Z.2.2.2
  have hPP : ∀ b, b ∈ (inK (fun j => [a0, a1, a2, a3, a4, a5, a6, a7, a8, 0, 0, 0, 0, 0, 0, a15, a16, a17, a18, a19, a20, a21, a22, 0, 0, 0, 0, 0, a28, a29, 0, a31, 0, 0, 0, a35].getD j 0) m ra (fun j => [b6, b7, b8].getD j 0) (fun j => [d6, d7, d8].getD j 0)).map Prod.fst → b ∈ P43 := fun b hb => by
    rw [hN] at hb
    rcases List.mem_cons.mp hb with e | e
    · rw [e]; exact Z.1
    · obtain ⟨z, hz, ez⟩ := List.mem_map.mp e
      rw [← ez]; exact (Z.2.2.1 z hz).1
  have hr1 : ∀ i, i < 2000 → F44p (a1 + 1 + i) = .inl (I .long, 32, .inr (.inl (fun _ => 0))) := fun i hi => (Z.2.2.1 _ (List.mem_append_right _ (List.mem_append_left _ (List.mem_cons_of_mem _ (List.mem_map.mpr ⟨i, List.mem_range.mpr hi, rfl⟩))))).2
  have hr0 : ∀ i, i < 40 → F44p (a0 + 1 + i) = .inl (I .long, 32, .inr (.inl (fun _ => 0))) := fun i hi => (Z.2.2.1 _ (List.mem_append_right _ (List.mem_append_right _ (List.mem_append_left _ (List.mem_cons_of_mem _ (List.mem_map.mpr ⟨i, List.mem_range.mpr hi, rfl⟩)))))).2
  have he1 := (Z.2.2.1 _ (List.mem_append_right _ (List.mem_append_left _ List.mem_cons_self))).2
  have he0 := (Z.2.2.1 _ (List.mem_append_right _ (List.mem_append_right _ (List.mem_append_left _ List.mem_cons_self)))).2
  have hR := RS_ini (D := D) (I := I) (P := P43) (F := F44p) (el := fun _ _ => 0) (g := (fun j => [a0, a1, a2, a3, a4, a5, a6, a7, a8, 0, 0, 0, 0, 0, 0, a15, a16, a17, a18, a19, a20, a21, a22, 0, 0, 0, 0, 0, a28, a29, 0, a31, 0, 0, 0, a35].getD j 0)) (lb := (fun j => [b6, b7, b8].getD j 0)) (lr := (fun j => [d6, d7, d8].getD j 0)) (m := m) (ra := ra) hPP hnd Z.2.1 (nwS_at Z 25 rfl) (nwS_at Z 24 rfl) (nwS_at Z 23 rfl) (nwS_at Z 22 rfl) (nwS_at Z 12 rfl) (nwS_at Z 11 rfl) (nwS_at Z 10 rfl) (nwS_at Z 9 rfl) (nwS_at Z 8 rfl) (nwS_at Z 7 rfl) (nwS_at Z 6 rfl) (nwS_at Z 5 rfl) (nwS_at Z 4 rfl) (nwS_at Z 1 rfl) (nwS_at Z 0 rfl) he0 he1 hr0 hr1 (nwS_at Z 21 rfl) (nwS_at Z 19 rfl) (nwS_at Z 20 rfl) (nwS_at Z 18 rfl) (nwS_at Z 16 rfl) (nwS_at Z 17 rfl) (nwS_at Z 15 rfl) (nwS_at Z 13 rfl) (nwS_at Z 14 rfl) (nwS_at Z 3 rfl) (nwS_at Z 2 rfl)
  exact G_vretA dr_cX17_init_208 rfl (Nat.le_of_ble_eq_true rfl) (Nat.le_of_ble_eq_true rfl) ⟨P43, F44p, (fun j => [a0, a1, a2, a3, a4, a5, a6, a7, a8, 0, 0, 0, 0, 0, 0, a15, a16, a17, a18, a19, a20, a21, a22, 0, 0, 0, 0, 0, a28, a29, 0, a31, 0, 0, 0, a35].getD j 0), (fun j => [b6, b7, b8].getD j 0), (fun j => [d6, d7, d8].getD j 0), ra, rfl, rfl, hR, lkK_m hnd List.mem_cons_self, Z.2.1, (nwS_at Z 3 rfl), (nwS_at Z 4 rfl), hnd, Nat.le_refl _, Nat.le_refl _⟩
end
section
/-! the class's cells: what its methods keep -/
abbrev gCv := (Nat → Int32) × Int32 × Int32 × (Nat → Int32) × (Nat → Int32) × (Nat → Int32) × (Nat → Int32) × Int32 × (Nat → Int32) × (Nat → Int32) × (Nat → Int32) × (Nat → Int32) × (Nat → Int32) × (Nat → Int32) × (Nat → Int32) × (Nat → Int32) × (Nat → Int32) × Int32 × Int32 × Int32 × (Nat → Int32) × (Nat → Int32) × (Nat → Int32) × (Nat → Int32) × (Nat → Int32) × (Nat → Int32) × (Nat → Int32) × (Nat → Int32) × (Nat → Int32) × (Nat → Int32) × Int32 × Int32 × Int32 × Int32 × Int32 × Int32 × (Nat → Int32) × Int32 × (Nat → Int32)
set_option maxRecDepth 100000 in
def clS (D : va_G) (I : FieldType → ClassId) (x : Nat) (A : va_W) (n : Int) (c : gCv) : Prop := ∃ (qq : Nat → Nat) (pp : Nat → Int32) (ff : Nat → Nat → Int32) (gg : Nat → Nat → Int64) (ll : Nat → Int64), A = [(x, .inr (16, [.ref (qq 0), .ref (qq 1), .ref (qq 2), .ref (qq 3), .ref (qq 4), .ref (qq 5), .ref (qq 6), .int (pp 0)])), ((qq 0), .inr (15, [.ref (qq 7), .int (pp 1)])), ((qq 1), .inr (13, [.ref (qq 8), .ref (qq 9), .int (pp 2), .int (pp 3), .int (pp 4), .long (ll 0), .int (pp 5), .int (pp 6), .int (pp 7), .int (pp 8), .int (pp 9), .int (pp 10)])), ((qq 2), .inr (5, [.ref (qq 10), .ref (qq 11), .ref (qq 12), .ref (qq 13), .ref (qq 14), .ref (qq 15), .ref (qq 16), .ref (qq 17), .ref (qq 18), .int (pp 11), .int (pp 12), .int (pp 13)])), ((qq 3), .inr (11, [.ref (qq 19), .ref (qq 20), .ref (qq 21)])), ((qq 4), .inr (7, [.ref (qq 3), .ref (qq 22), .ref (qq 23), .ref (qq 24), .ref (qq 25), .ref (qq 26), .ref (qq 27), .ref (qq 28), .ref (qq 29), .ref (qq 30), .int (pp 14), .int (pp 15), .int (pp 16), .int (pp 17), .int (pp 18), .int (pp 19)])), ((qq 5), .inr (12, [.ref (qq 31), .ref (qq 32), .ref (qq 33), .ref (qq 34), .int (pp 20), .int (pp 21), .int (pp 22), .int (pp 23), .int (pp 24), .int (pp 25), .int (pp 26)])), ((qq 6), .inr (9, [.ref (qq 35), .int (pp 27)])), ((qq 7), .inl (I .byte, 8192, .inl (ff 0))), ((qq 8), .inr (14, [.ref (qq 0), .int (pp 28), .int (pp 29), .int (pp 30), .int (pp 31)])), ((qq 9), .inl (I .int, 80, .inl (ff 1))), ((qq 10), .inl (I .int, 40, .inl (ff 2))), ((qq 11), .inl (I .int, 40, .inl (ff 3))), ((qq 12), .inl (I .int, 40, .inl (ff 4))), ((qq 13), .inl (I .int, 200, .inl (ff 5))), ((qq 14), .inl (I .int, 200, .inl (ff 6))), ((qq 15), .inl (I .int, 200, .inl (ff 7))), ((qq 16), .inl (I .int, 200, .inl (ff 8))), ((qq 17), .inl (I .int, 200, .inl (ff 9))), ((qq 18), .inl (I .int, 200, .inl (ff 10))), ((qq 19), .inl (I .long, 40, .inr (.inl (gg 0)))), ((qq 20), .inl (I .long, 40, .inr (.inl (gg 1)))), ((qq 21), .inl (I .int, 40, .inl (ff 11))), ((qq 22), .inr (8, [.ref (qq 36), .ref (qq 37), .ref (qq 38), .ref (qq 39), .int (pp 32), .int (pp 33)])), ((qq 23), .inr (6, [.ref (qq 22), .ref (qq 40), .ref (qq 41), .ref (qq 42), .ref (qq 43), .ref (qq 44), .int (pp 34), .int (pp 35)])), ((qq 24), .inl (I .int, 100, .inl (ff 12))), ((qq 25), .inl (I .int, 100, .inl (ff 13))), ((qq 26), .inl (I .int, 40, .inl (ff 14))), ((qq 27), .inl (I .int, 100, .inl (ff 15))), ((qq 28), .inl (I .int, 100, .inl (ff 16))), ((qq 29), .inr (5, [.ref (qq 45), .ref (qq 46), .ref (qq 47), .ref (qq 48), .ref (qq 49), .ref (qq 50), .ref (qq 51), .ref (qq 52), .ref (qq 53), .int (pp 36), .int (pp 37), .int (pp 38)])), ((qq 30), .inr (5, [.ref (qq 54), .ref (qq 55), .ref (qq 56), .ref (qq 57), .ref (qq 58), .ref (qq 59), .ref (qq 60), .ref (qq 61), .ref (qq 62), .int (pp 39), .int (pp 40), .int (pp 41)])), ((qq 31), .inl (I .int, 2048, .inl (ff 17))), ((qq 32), .inl (I .int, 100, .inl (ff 18))), ((qq 33), .inl (I .int, 100, .inl (ff 19))), ((qq 34), .inl (I .int, 512, .inl (ff 20))), ((qq 35), .inl (I .byte, 16384, .inl (ff 21))), ((qq 36), .inr (10, [.ref (qq 63), .ref (qq 64), .ref (qq 65), .ref (qq 66), .int (pp 42), .int (pp 43), .int (pp 44)])), ((qq 37), .inl (I .long, 8640, .inr (.inl (gg 2)))), ((qq 38), .inl (I .long, 12, .inr (.inl (gg 3)))), ((qq 39), .inl (I .int, 720, .inl (ff 22))), ((qq 40), .inl (I .int, 720, .inl (ff 23))), ((qq 41), .inl (I .int, 720, .inl (ff 24))), ((qq 42), .inl (I .int, 720, .inl (ff 25))), ((qq 43), .inl (I .int, 720, .inl (ff 26))), ((qq 44), .inl (I .int, 720, .inl (ff 27))), ((qq 45), .inl (I .int, 40, .inl (ff 28))), ((qq 46), .inl (I .int, 40, .inl (ff 29))), ((qq 47), .inl (I .int, 40, .inl (ff 30))), ((qq 48), .inl (I .int, 920, .inl (ff 31))), ((qq 49), .inl (I .int, 920, .inl (ff 32))), ((qq 50), .inl (I .int, 920, .inl (ff 33))), ((qq 51), .inl (I .int, 920, .inl (ff 34))), ((qq 52), .inl (I .int, 920, .inl (ff 35))), ((qq 53), .inl (I .int, 920, .inl (ff 36))), ((qq 54), .inl (I .int, 40, .inl (ff 37))), ((qq 55), .inl (I .int, 40, .inl (ff 38))), ((qq 56), .inl (I .int, 40, .inl (ff 39))), ((qq 57), .inl (I .int, 920, .inl (ff 40))), ((qq 58), .inl (I .int, 920, .inl (ff 41))), ((qq 59), .inl (I .int, 920, .inl (ff 42))), ((qq 60), .inl (I .int, 920, .inl (ff 43))), ((qq 61), .inl (I .int, 920, .inl (ff 44))), ((qq 62), .inl (I .int, 920, .inl (ff 45))), ((qq 63), .inl (I .long, 480, .inr (.inl (gg 4)))), ((qq 64), .inl (I .long, 480, .inr (.inl (gg 5)))), ((qq 65), .inl (I .long, 480, .inr (.inl (gg 6)))), ((qq 66), .inl (I .long, 12, .inr (.inl (gg 7))))] ∧ gB (pp 0) 0 1 ∧ gB (pp 1) 0 8192 ∧ gB (pp 7) 0 13 ∧ gB (pp 11) 0 40 ∧ gB (pp 12) 0 200 ∧ gB (pp 13) 0 1 ∧ gB (pp 14) 0 720 ∧ gB (pp 19) 0 1 ∧ gB (pp 20) 0 2048 ∧ gB (pp 21) 0 39 ∧ gB (pp 23) 0 512 ∧ gB (pp 25) 0 2048 ∧ gB (pp 27) 0 16384 ∧ gF (ff 0) (-128) 127 ∧ gF (ff 2) 0 200 ∧ gF (ff 5) 0 21 ∧ gB (pp 32) 0 720 ∧ gB (pp 33) 0 12 ∧ gB (pp 34) 0 720 ∧ gB (pp 35) 0 720 ∧ gB (pp 36) 0 40 ∧ gB (pp 37) 0 920 ∧ gB (pp 38) 0 1 ∧ gB (pp 39) 0 40 ∧ gB (pp 40) 0 920 ∧ gB (pp 41) 0 1 ∧ gF (ff 21) (-128) 127 ∧ gB (pp 42) 0 720 ∧ gB (pp 43) 0 12 ∧ gB (pp 44) 0 1 ∧ gF (ff 25) 0 719 ∧ gF (ff 26) 0 719 ∧ gF (ff 28) 0 920 ∧ gF (ff 31) 0 21 ∧ gF (ff 37) 0 920 ∧ gF (ff 40) 0 21 ∧ ((pp 28).toInt ≠ 5 ∨ (0 ≤ (pp 29).toInt ∧ (pp 29).toInt ≤ 13)) ∧ (pp 33).toInt = ((pp 32).toInt + 63) / 64 ∧ lb_W (gg 2) ((pp 32).toInt * (pp 33).toInt) ((pp 33).toInt) ((pp 32).toInt) ∧ (pp 43).toInt = ((pp 42).toInt + 63) / 64 ∧ (pp 1).toInt = n ∧ c = ((ff 0), (pp 0), (pp 11), (ff 11), (ff 12), (ff 13), (ff 14), (pp 12), (ff 2), (ff 3), (ff 4), (ff 5), (ff 6), (ff 7), (ff 8), (ff 9), (ff 10), (pp 19), (pp 36), (pp 37), (ff 28), (ff 29), (ff 30), (ff 31), (ff 32), (ff 33), (ff 34), (ff 35), (ff 36), (ff 17), (pp 20), (pp 22), (pp 23), (pp 24), (pp 25), (pp 26), (ff 20), (pp 27), (ff 21))
def cwP (I : FieldType → ClassId) (o : Nat) (Q : Int32 → va_W → (Nat → Int64) → Prop) : Option Value → va_W → Prop := fun r w => ∃ (A1 : va_W) (k : Int32) (f1 : Nat → Int64), r = some (.int k) ∧ w = A1 ++ [(o, .inl (I .long, 1, .inr (.inl f1)))] ∧ Q k A1 f1
theorem gB_in1 : vp_in 0 1 := gB_inr (show (0 : Int) ≤ Int32.toInt 0 by decide) (show Int32.toInt 0 < ((1 : Nat) : Int) by decide)
/-- the class's arrays hold the program -/
def cdC (c : gCv) (P : gPg) : Prop := cdP c.2.2.1 c.2.2.2.2.2.2.2.1 c.2.2.2.2.2.2.2.2.1 c.2.2.2.2.2.2.2.2.2.1 c.2.2.2.2.2.2.2.2.2.2.1 c.2.2.2.2.2.2.2.2.2.2.2.1 c.2.2.2.2.2.2.2.2.2.2.2.2.1 c.2.2.2.2.2.2.2.2.2.2.2.2.2.1 c.2.2.2.2.2.2.2.2.2.2.2.2.2.2.1 c.2.2.2.2.2.2.2.2.2.2.2.2.2.2.2.1 c.2.2.2.2.2.2.2.2.2.2.2.2.2.2.2.2.1 P
/-- .. what was given out -/
def cdG (c : gCv) (P : gPg) : Prop := cdP c.2.2.2.2.2.2.2.2.2.2.2.2.2.2.2.2.2.2.1 c.2.2.2.2.2.2.2.2.2.2.2.2.2.2.2.2.2.2.2.1 c.2.2.2.2.2.2.2.2.2.2.2.2.2.2.2.2.2.2.2.2.1 c.2.2.2.2.2.2.2.2.2.2.2.2.2.2.2.2.2.2.2.2.2.1 c.2.2.2.2.2.2.2.2.2.2.2.2.2.2.2.2.2.2.2.2.2.2.1 c.2.2.2.2.2.2.2.2.2.2.2.2.2.2.2.2.2.2.2.2.2.2.2.1 c.2.2.2.2.2.2.2.2.2.2.2.2.2.2.2.2.2.2.2.2.2.2.2.2.1 c.2.2.2.2.2.2.2.2.2.2.2.2.2.2.2.2.2.2.2.2.2.2.2.2.2.1 c.2.2.2.2.2.2.2.2.2.2.2.2.2.2.2.2.2.2.2.2.2.2.2.2.2.2.1 c.2.2.2.2.2.2.2.2.2.2.2.2.2.2.2.2.2.2.2.2.2.2.2.2.2.2.2.1 c.2.2.2.2.2.2.2.2.2.2.2.2.2.2.2.2.2.2.2.2.2.2.2.2.2.2.2.2.1 P
def dnG (c : gCv) : Int32 := c.2.2.2.2.2.2.2.2.2.2.2.2.2.2.2.2.2.1
def inG (c : gCv) : Nat → Int32 := c.2.2.2.2.2.2.2.2.2.2.2.2.2.2.2.2.2.2.2.2.2.2.2.2.2.2.2.2.2.1
def inN (c : gCv) : Int32 := c.2.2.2.2.2.2.2.2.2.2.2.2.2.2.2.2.2.2.2.2.2.2.2.2.2.2.2.2.2.2.1
def rnA (c : gCv) : Int32 := c.2.2.2.2.2.2.2.2.2.2.2.2.2.2.2.2.2.2.2.2.2.2.2.2.2.2.2.2.2.2.2.1
def rnS (c : gCv) : Int32 := c.2.2.2.2.2.2.2.2.2.2.2.2.2.2.2.2.2.2.2.2.2.2.2.2.2.2.2.2.2.2.2.2.1
def rnN (c : gCv) : Int32 := c.2.2.2.2.2.2.2.2.2.2.2.2.2.2.2.2.2.2.2.2.2.2.2.2.2.2.2.2.2.2.2.2.2.1
def rnK (c : gCv) : Int32 := c.2.2.2.2.2.2.2.2.2.2.2.2.2.2.2.2.2.2.2.2.2.2.2.2.2.2.2.2.2.2.2.2.2.2.1
def rnE (c : gCv) : Int32 := c.2.2.2.2.2.2.2.2.2.2.2.2.2.2.2.2.2.2.2.2.2.2.2.2.2.2.2.2.2.2.2.2.2.2.2.1
def rnW (c : gCv) : Nat → Int32 := c.2.2.2.2.2.2.2.2.2.2.2.2.2.2.2.2.2.2.2.2.2.2.2.2.2.2.2.2.2.2.2.2.2.2.2.2.1
def lsZ (c : gCv) : Int32 := c.2.2.2.2.2.2.2.2.2.2.2.2.2.2.2.2.2.2.2.2.2.2.2.2.2.2.2.2.2.2.2.2.2.2.2.2.2.1
def lsY (c : gCv) : Nat → Int32 := c.2.2.2.2.2.2.2.2.2.2.2.2.2.2.2.2.2.2.2.2.2.2.2.2.2.2.2.2.2.2.2.2.2.2.2.2.2.2
def upG (c g : gCv) : gCv := (c.1, c.2.1, c.2.2.1, c.2.2.2.1, c.2.2.2.2.1, c.2.2.2.2.2.1, c.2.2.2.2.2.2.1, c.2.2.2.2.2.2.2.1, c.2.2.2.2.2.2.2.2.1, c.2.2.2.2.2.2.2.2.2.1, c.2.2.2.2.2.2.2.2.2.2.1, c.2.2.2.2.2.2.2.2.2.2.2.1, c.2.2.2.2.2.2.2.2.2.2.2.2.1, c.2.2.2.2.2.2.2.2.2.2.2.2.2.1, c.2.2.2.2.2.2.2.2.2.2.2.2.2.2.1, c.2.2.2.2.2.2.2.2.2.2.2.2.2.2.2.1, c.2.2.2.2.2.2.2.2.2.2.2.2.2.2.2.2.1, g.2.2.2.2.2.2.2.2.2.2.2.2.2.2.2.2.2.1, g.2.2.2.2.2.2.2.2.2.2.2.2.2.2.2.2.2.2.1, g.2.2.2.2.2.2.2.2.2.2.2.2.2.2.2.2.2.2.2.1, g.2.2.2.2.2.2.2.2.2.2.2.2.2.2.2.2.2.2.2.2.1, g.2.2.2.2.2.2.2.2.2.2.2.2.2.2.2.2.2.2.2.2.2.1, g.2.2.2.2.2.2.2.2.2.2.2.2.2.2.2.2.2.2.2.2.2.2.1, g.2.2.2.2.2.2.2.2.2.2.2.2.2.2.2.2.2.2.2.2.2.2.2.1, g.2.2.2.2.2.2.2.2.2.2.2.2.2.2.2.2.2.2.2.2.2.2.2.2.1, g.2.2.2.2.2.2.2.2.2.2.2.2.2.2.2.2.2.2.2.2.2.2.2.2.2.1, g.2.2.2.2.2.2.2.2.2.2.2.2.2.2.2.2.2.2.2.2.2.2.2.2.2.2.1, g.2.2.2.2.2.2.2.2.2.2.2.2.2.2.2.2.2.2.2.2.2.2.2.2.2.2.2.1, g.2.2.2.2.2.2.2.2.2.2.2.2.2.2.2.2.2.2.2.2.2.2.2.2.2.2.2.2.1, c.2.2.2.2.2.2.2.2.2.2.2.2.2.2.2.2.2.2.2.2.2.2.2.2.2.2.2.2.2.1, c.2.2.2.2.2.2.2.2.2.2.2.2.2.2.2.2.2.2.2.2.2.2.2.2.2.2.2.2.2.2.1, c.2.2.2.2.2.2.2.2.2.2.2.2.2.2.2.2.2.2.2.2.2.2.2.2.2.2.2.2.2.2.2.1, c.2.2.2.2.2.2.2.2.2.2.2.2.2.2.2.2.2.2.2.2.2.2.2.2.2.2.2.2.2.2.2.2.1, c.2.2.2.2.2.2.2.2.2.2.2.2.2.2.2.2.2.2.2.2.2.2.2.2.2.2.2.2.2.2.2.2.2.1, c.2.2.2.2.2.2.2.2.2.2.2.2.2.2.2.2.2.2.2.2.2.2.2.2.2.2.2.2.2.2.2.2.2.2.1, c.2.2.2.2.2.2.2.2.2.2.2.2.2.2.2.2.2.2.2.2.2.2.2.2.2.2.2.2.2.2.2.2.2.2.2.1, c.2.2.2.2.2.2.2.2.2.2.2.2.2.2.2.2.2.2.2.2.2.2.2.2.2.2.2.2.2.2.2.2.2.2.2.2.1, c.2.2.2.2.2.2.2.2.2.2.2.2.2.2.2.2.2.2.2.2.2.2.2.2.2.2.2.2.2.2.2.2.2.2.2.2.2.1, c.2.2.2.2.2.2.2.2.2.2.2.2.2.2.2.2.2.2.2.2.2.2.2.2.2.2.2.2.2.2.2.2.2.2.2.2.2.2)
def upI (c g : gCv) : gCv := (c.1, c.2.1, c.2.2.1, c.2.2.2.1, c.2.2.2.2.1, c.2.2.2.2.2.1, c.2.2.2.2.2.2.1, c.2.2.2.2.2.2.2.1, c.2.2.2.2.2.2.2.2.1, c.2.2.2.2.2.2.2.2.2.1, c.2.2.2.2.2.2.2.2.2.2.1, c.2.2.2.2.2.2.2.2.2.2.2.1, c.2.2.2.2.2.2.2.2.2.2.2.2.1, c.2.2.2.2.2.2.2.2.2.2.2.2.2.1, c.2.2.2.2.2.2.2.2.2.2.2.2.2.2.1, c.2.2.2.2.2.2.2.2.2.2.2.2.2.2.2.1, c.2.2.2.2.2.2.2.2.2.2.2.2.2.2.2.2.1, c.2.2.2.2.2.2.2.2.2.2.2.2.2.2.2.2.2.1, c.2.2.2.2.2.2.2.2.2.2.2.2.2.2.2.2.2.2.1, c.2.2.2.2.2.2.2.2.2.2.2.2.2.2.2.2.2.2.2.1, c.2.2.2.2.2.2.2.2.2.2.2.2.2.2.2.2.2.2.2.2.1, c.2.2.2.2.2.2.2.2.2.2.2.2.2.2.2.2.2.2.2.2.2.1, c.2.2.2.2.2.2.2.2.2.2.2.2.2.2.2.2.2.2.2.2.2.2.1, c.2.2.2.2.2.2.2.2.2.2.2.2.2.2.2.2.2.2.2.2.2.2.2.1, c.2.2.2.2.2.2.2.2.2.2.2.2.2.2.2.2.2.2.2.2.2.2.2.2.1, c.2.2.2.2.2.2.2.2.2.2.2.2.2.2.2.2.2.2.2.2.2.2.2.2.2.1, c.2.2.2.2.2.2.2.2.2.2.2.2.2.2.2.2.2.2.2.2.2.2.2.2.2.2.1, c.2.2.2.2.2.2.2.2.2.2.2.2.2.2.2.2.2.2.2.2.2.2.2.2.2.2.2.1, c.2.2.2.2.2.2.2.2.2.2.2.2.2.2.2.2.2.2.2.2.2.2.2.2.2.2.2.2.1, g.2.2.2.2.2.2.2.2.2.2.2.2.2.2.2.2.2.2.2.2.2.2.2.2.2.2.2.2.2.1, g.2.2.2.2.2.2.2.2.2.2.2.2.2.2.2.2.2.2.2.2.2.2.2.2.2.2.2.2.2.2.1, c.2.2.2.2.2.2.2.2.2.2.2.2.2.2.2.2.2.2.2.2.2.2.2.2.2.2.2.2.2.2.2.1, c.2.2.2.2.2.2.2.2.2.2.2.2.2.2.2.2.2.2.2.2.2.2.2.2.2.2.2.2.2.2.2.2.1, c.2.2.2.2.2.2.2.2.2.2.2.2.2.2.2.2.2.2.2.2.2.2.2.2.2.2.2.2.2.2.2.2.2.1, c.2.2.2.2.2.2.2.2.2.2.2.2.2.2.2.2.2.2.2.2.2.2.2.2.2.2.2.2.2.2.2.2.2.2.1, c.2.2.2.2.2.2.2.2.2.2.2.2.2.2.2.2.2.2.2.2.2.2.2.2.2.2.2.2.2.2.2.2.2.2.2.1, c.2.2.2.2.2.2.2.2.2.2.2.2.2.2.2.2.2.2.2.2.2.2.2.2.2.2.2.2.2.2.2.2.2.2.2.2.1, c.2.2.2.2.2.2.2.2.2.2.2.2.2.2.2.2.2.2.2.2.2.2.2.2.2.2.2.2.2.2.2.2.2.2.2.2.2.1, c.2.2.2.2.2.2.2.2.2.2.2.2.2.2.2.2.2.2.2.2.2.2.2.2.2.2.2.2.2.2.2.2.2.2.2.2.2.2)
def upO (c g : gCv) : gCv := (c.1, c.2.1, c.2.2.1, c.2.2.2.1, c.2.2.2.2.1, c.2.2.2.2.2.1, c.2.2.2.2.2.2.1, c.2.2.2.2.2.2.2.1, c.2.2.2.2.2.2.2.2.1, c.2.2.2.2.2.2.2.2.2.1, c.2.2.2.2.2.2.2.2.2.2.1, c.2.2.2.2.2.2.2.2.2.2.2.1, c.2.2.2.2.2.2.2.2.2.2.2.2.1, c.2.2.2.2.2.2.2.2.2.2.2.2.2.1, c.2.2.2.2.2.2.2.2.2.2.2.2.2.2.1, c.2.2.2.2.2.2.2.2.2.2.2.2.2.2.2.1, c.2.2.2.2.2.2.2.2.2.2.2.2.2.2.2.2.1, c.2.2.2.2.2.2.2.2.2.2.2.2.2.2.2.2.2.1, c.2.2.2.2.2.2.2.2.2.2.2.2.2.2.2.2.2.2.1, c.2.2.2.2.2.2.2.2.2.2.2.2.2.2.2.2.2.2.2.1, c.2.2.2.2.2.2.2.2.2.2.2.2.2.2.2.2.2.2.2.2.1, c.2.2.2.2.2.2.2.2.2.2.2.2.2.2.2.2.2.2.2.2.2.1, c.2.2.2.2.2.2.2.2.2.2.2.2.2.2.2.2.2.2.2.2.2.2.1, c.2.2.2.2.2.2.2.2.2.2.2.2.2.2.2.2.2.2.2.2.2.2.2.1, c.2.2.2.2.2.2.2.2.2.2.2.2.2.2.2.2.2.2.2.2.2.2.2.2.1, c.2.2.2.2.2.2.2.2.2.2.2.2.2.2.2.2.2.2.2.2.2.2.2.2.2.1, c.2.2.2.2.2.2.2.2.2.2.2.2.2.2.2.2.2.2.2.2.2.2.2.2.2.2.1, c.2.2.2.2.2.2.2.2.2.2.2.2.2.2.2.2.2.2.2.2.2.2.2.2.2.2.2.1, c.2.2.2.2.2.2.2.2.2.2.2.2.2.2.2.2.2.2.2.2.2.2.2.2.2.2.2.2.1, c.2.2.2.2.2.2.2.2.2.2.2.2.2.2.2.2.2.2.2.2.2.2.2.2.2.2.2.2.2.1, c.2.2.2.2.2.2.2.2.2.2.2.2.2.2.2.2.2.2.2.2.2.2.2.2.2.2.2.2.2.2.1, g.2.2.2.2.2.2.2.2.2.2.2.2.2.2.2.2.2.2.2.2.2.2.2.2.2.2.2.2.2.2.2.1, g.2.2.2.2.2.2.2.2.2.2.2.2.2.2.2.2.2.2.2.2.2.2.2.2.2.2.2.2.2.2.2.2.1, g.2.2.2.2.2.2.2.2.2.2.2.2.2.2.2.2.2.2.2.2.2.2.2.2.2.2.2.2.2.2.2.2.2.1, g.2.2.2.2.2.2.2.2.2.2.2.2.2.2.2.2.2.2.2.2.2.2.2.2.2.2.2.2.2.2.2.2.2.2.1, g.2.2.2.2.2.2.2.2.2.2.2.2.2.2.2.2.2.2.2.2.2.2.2.2.2.2.2.2.2.2.2.2.2.2.2.1, g.2.2.2.2.2.2.2.2.2.2.2.2.2.2.2.2.2.2.2.2.2.2.2.2.2.2.2.2.2.2.2.2.2.2.2.2.1, c.2.2.2.2.2.2.2.2.2.2.2.2.2.2.2.2.2.2.2.2.2.2.2.2.2.2.2.2.2.2.2.2.2.2.2.2.2.1, c.2.2.2.2.2.2.2.2.2.2.2.2.2.2.2.2.2.2.2.2.2.2.2.2.2.2.2.2.2.2.2.2.2.2.2.2.2.2)
def upL (c g : gCv) : gCv := (c.1, c.2.1, c.2.2.1, c.2.2.2.1, c.2.2.2.2.1, c.2.2.2.2.2.1, c.2.2.2.2.2.2.1, c.2.2.2.2.2.2.2.1, c.2.2.2.2.2.2.2.2.1, c.2.2.2.2.2.2.2.2.2.1, c.2.2.2.2.2.2.2.2.2.2.1, c.2.2.2.2.2.2.2.2.2.2.2.1, c.2.2.2.2.2.2.2.2.2.2.2.2.1, c.2.2.2.2.2.2.2.2.2.2.2.2.2.1, c.2.2.2.2.2.2.2.2.2.2.2.2.2.2.1, c.2.2.2.2.2.2.2.2.2.2.2.2.2.2.2.1, c.2.2.2.2.2.2.2.2.2.2.2.2.2.2.2.2.1, c.2.2.2.2.2.2.2.2.2.2.2.2.2.2.2.2.2.1, c.2.2.2.2.2.2.2.2.2.2.2.2.2.2.2.2.2.2.1, c.2.2.2.2.2.2.2.2.2.2.2.2.2.2.2.2.2.2.2.1, c.2.2.2.2.2.2.2.2.2.2.2.2.2.2.2.2.2.2.2.2.1, c.2.2.2.2.2.2.2.2.2.2.2.2.2.2.2.2.2.2.2.2.2.1, c.2.2.2.2.2.2.2.2.2.2.2.2.2.2.2.2.2.2.2.2.2.2.1, c.2.2.2.2.2.2.2.2.2.2.2.2.2.2.2.2.2.2.2.2.2.2.2.1, c.2.2.2.2.2.2.2.2.2.2.2.2.2.2.2.2.2.2.2.2.2.2.2.2.1, c.2.2.2.2.2.2.2.2.2.2.2.2.2.2.2.2.2.2.2.2.2.2.2.2.2.1, c.2.2.2.2.2.2.2.2.2.2.2.2.2.2.2.2.2.2.2.2.2.2.2.2.2.2.1, c.2.2.2.2.2.2.2.2.2.2.2.2.2.2.2.2.2.2.2.2.2.2.2.2.2.2.2.1, c.2.2.2.2.2.2.2.2.2.2.2.2.2.2.2.2.2.2.2.2.2.2.2.2.2.2.2.2.1, c.2.2.2.2.2.2.2.2.2.2.2.2.2.2.2.2.2.2.2.2.2.2.2.2.2.2.2.2.2.1, c.2.2.2.2.2.2.2.2.2.2.2.2.2.2.2.2.2.2.2.2.2.2.2.2.2.2.2.2.2.2.1, c.2.2.2.2.2.2.2.2.2.2.2.2.2.2.2.2.2.2.2.2.2.2.2.2.2.2.2.2.2.2.2.1, c.2.2.2.2.2.2.2.2.2.2.2.2.2.2.2.2.2.2.2.2.2.2.2.2.2.2.2.2.2.2.2.2.1, c.2.2.2.2.2.2.2.2.2.2.2.2.2.2.2.2.2.2.2.2.2.2.2.2.2.2.2.2.2.2.2.2.2.1, c.2.2.2.2.2.2.2.2.2.2.2.2.2.2.2.2.2.2.2.2.2.2.2.2.2.2.2.2.2.2.2.2.2.2.1, c.2.2.2.2.2.2.2.2.2.2.2.2.2.2.2.2.2.2.2.2.2.2.2.2.2.2.2.2.2.2.2.2.2.2.2.1, c.2.2.2.2.2.2.2.2.2.2.2.2.2.2.2.2.2.2.2.2.2.2.2.2.2.2.2.2.2.2.2.2.2.2.2.2.1, g.2.2.2.2.2.2.2.2.2.2.2.2.2.2.2.2.2.2.2.2.2.2.2.2.2.2.2.2.2.2.2.2.2.2.2.2.2.1, g.2.2.2.2.2.2.2.2.2.2.2.2.2.2.2.2.2.2.2.2.2.2.2.2.2.2.2.2.2.2.2.2.2.2.2.2.2.2)
/-- what give answers and leaves -/
def gvT (k : Int32) (c c1 : gCv) (z : Int32) : Prop := 1 ≤ k.toInt ∧ k.toInt ≤ 32 ∧ c.2.1.toInt ≠ 0 ∧ c1 = upG c c1 ∧ ∀ (B : Int → Int) (n : Int) (P : gPg), bOk B n → okP B n P → cdC c P → (∀ b, b < P.1 → (c.2.2.2.1 b).toInt = (dpt P b : Int)) → ∃ Z, GVr k.toInt (dpt P) 40 1 (pgZ P) 100 0 z.toInt Z ∧ ((z.toInt ≠ -1 ∧ (dnG c1).toInt = 1 ∧ (soO Z.1 Z.2.2 → Z.2.2 ≤ 100 → nmO Z.1 720 → cdG c1 (fnP Z))) ∨ (z.toInt = -1 ∧ (dnG c1).toInt = 0))
theorem gv_c {a1 : Int32} {SpillForge_hasProgram : Int32} {Code_blocks : Int32} {Code_lines : Int32} {Code_first : Nat → Int32} {Code_firstGoal : Nat → Int32} {Code_secondGoal : Nat → Int32} {Code_op : Nat → Int32} {Code_set : Nat → Int32} {Code_left : Nat → Int32} {Code_leftNumber : Nat → Int32} {Code_right : Nat → Int32} {Code_rightNumber : Nat → Int32} {Loops_depth : Nat → Int32} {Graph_names : Int32} {Graph_words : Int32} {Colouring_restSize : Int32} {Colouring_pileSize : Int32} {Giver_slotOf : Nat → Int32} {Giver_sharedSlot : Nat → Int32} {Code_blocks2 : Int32} {Code_lines2 : Int32} {Code_isFull : Int32} {Graph_joined : Nat → Int64} {Graph_standing : Nat → Int64} {Graph_degree : Nat → Int32} {Colouring_weight : Nat → Int32} {Colouring_degree : Nat → Int32} {Colouring_rest : Nat → Int32} {Colouring_pile : Nat → Int32} {Colouring_colour : Nat → Int32} {Code_first2 : Nat → Int32} {Code_firstGoal2 : Nat → Int32} {Code_secondGoal2 : Nat → Int32} {Code_op2 : Nat → Int32} {Code_set2 : Nat → Int32} {Code_left2 : Nat → Int32} {Code_leftNumber2 : Nat → Int32} {Code_right2 : Nat → Int32} {Code_rightNumber2 : Nat → Int32} {Code_first3 : Nat → Int32} {Code_firstGoal3 : Nat → Int32} {Code_secondGoal3 : Nat → Int32} {Code_op3 : Nat → Int32} {Code_set3 : Nat → Int32} {Code_left3 : Nat → Int32} {Code_leftNumber3 : Nat → Int32} {Code_right3 : Nat → Int32} {Code_rightNumber3 : Nat → Int32} {Live_in : Nat → Int64} {Live_used : Nat → Int64} {Live_set : Nat → Int64} {Live_now : Nat → Int64} {o1 : Int32} {o2 : Int32} {o3 : Int32} {o4 : Int32} {o5 : Int32} {o6 : Int32} {o7 : Int32} {o8 : Int32} {o9 : Int32} {o10 : Int32} {o11 : Int32} {o12 : Nat → Int32} {o13 : Nat → Int32} {o14 : Int32} {o15 : Int32} {o16 : Int32} {o17 : Int32} {o18 : Int32} {o19 : Int32} {o20 : Int32} {o21 : Int32} {o22 : Int32} {o23 : Nat → Int64} {o24 : Nat → Int64} {o25 : Nat → Int32} {o26 : Nat → Int32} {o27 : Nat → Int32} {o28 : Nat → Int32} {o29 : Nat → Int32} {o30 : Nat → Int32} {o31 : Nat → Int32} {o32 : Nat → Int32} {o33 : Nat → Int32} {o34 : Nat → Int32} {o35 : Nat → Int32} {o36 : Nat → Int32} {o37 : Nat → Int32} {o38 : Nat → Int32} {o39 : Nat → Int32} {o40 : Nat → Int32} {o41 : Nat → Int32} {o42 : Nat → Int32} {o43 : Nat → Int32} {o44 : Nat → Int32} {o45 : Nat → Int32} {o46 : Nat → Int32} {o47 : Nat → Int32} {o48 : Nat → Int32} {o49 : Nat → Int64} {o50 : Nat → Int64} {o51 : Nat → Int64} {o52 : Nat → Int64} {tp fw fd lb : Nat → Int32} {y0 : Int32} {y1 : Int32} {y2 : Int32} {y3 : Nat → Int32} {y4 : Nat → Int32} {y5 : Nat → Int32} {y6 : Nat → Int32} {y7 : Nat → Int32} {y8 : Nat → Int32} {y9 : Nat → Int32} {y10 : Nat → Int32} {y11 : Nat → Int32} {w0 : Nat → Int32} {w1 : Int32} {w2 : Int32} {w3 : Int32} {w4 : Int32} {w5 : Int32} {w6 : Int32} {w7 : Nat → Int32} {w8 : Int32} {w9 : Nat → Int32} (h : tr_SpillForge_give a1 SpillForge_hasProgram Code_blocks Code_lines Code_first Code_firstGoal Code_secondGoal Code_op Code_set Code_left Code_leftNumber Code_right Code_rightNumber Loops_depth Graph_names Graph_words Colouring_restSize Colouring_pileSize Giver_slotOf Giver_sharedSlot Code_blocks2 Code_lines2 Code_isFull Graph_joined Graph_standing Graph_degree Colouring_weight Colouring_degree Colouring_rest Colouring_pile Colouring_colour Code_first2 Code_firstGoal2 Code_secondGoal2 Code_op2 Code_set2 Code_left2 Code_leftNumber2 Code_right2 Code_rightNumber2 Code_first3 Code_firstGoal3 Code_secondGoal3 Code_op3 Code_set3 Code_left3 Code_leftNumber3 Code_right3 Code_rightNumber3 Live_in Live_used Live_set Live_now o1 o2 o3 o4 o5 o6 o7 o8 o9 o10 o11 o12 o13 o14 o15 o16 o17 o18 o19 o20 o21 o22 o23 o24 o25 o26 o27 o28 o29 o30 o31 o32 o33 o34 o35 o36 o37 o38 o39 o40 o41 o42 o43 o44 o45 o46 o47 o48 o49 o50 o51 o52) : gvT a1 (tp, SpillForge_hasProgram, Code_blocks, Loops_depth, fw, fd, lb, Code_lines, Code_first, Code_firstGoal, Code_secondGoal, Code_op, Code_set, Code_left, Code_leftNumber, Code_right, Code_rightNumber, y0, y1, y2, y3, y4, y5, y6, y7, y8, y9, y10, y11, w0, w1, w2, w3, w4, w5, w6, w7, w8, w9) (tp, SpillForge_hasProgram, Code_blocks, Loops_depth, fw, fd, lb, Code_lines, Code_first, Code_firstGoal, Code_secondGoal, Code_op, Code_set, Code_left, Code_leftNumber, Code_right, Code_rightNumber, o7, o14, o15, o31, o32, o33, o34, o35, o36, o37, o38, o39, w0, w1, w2, w3, w4, w5, w6, w7, w8, w9) o1 := by
  refine h (fun o1 o2 o3 o4 o5 o6 o7 o8 o9 o10 o11 o12 o13 o14 o15 o16 o17 o18 o19 o20 o21 o22 o23 o24 o25 o26 o27 o28 o29 o30 o31 o32 o33 o34 o35 o36 o37 o38 o39 o40 o41 o42 o43 o44 o45 o46 o47 o48 o49 o50 o51 o52 => gvT a1 (tp, SpillForge_hasProgram, Code_blocks, Loops_depth, fw, fd, lb, Code_lines, Code_first, Code_firstGoal, Code_secondGoal, Code_op, Code_set, Code_left, Code_leftNumber, Code_right, Code_rightNumber, y0, y1, y2, y3, y4, y5, y6, y7, y8, y9, y10, y11, w0, w1, w2, w3, w4, w5, w6, w7, w8, w9) (tp, SpillForge_hasProgram, Code_blocks, Loops_depth, fw, fd, lb, Code_lines, Code_first, Code_firstGoal, Code_secondGoal, Code_op, Code_set, Code_left, Code_leftNumber, Code_right, Code_rightNumber, o7, o14, o15, o31, o32, o33, o34, o35, o36, o37, o38, o39, w0, w1, w2, w3, w4, w5, w6, w7, w8, w9) o1) ?_
  intro x1 x2 x3 x4 x5 x6 x7 x8 x9 x10 x11 x12 x13 x14 x15 x16 x17 x18 x19 x20 x21 x22 x23 x24 x25 x26 x27 x28 x29 x30 x31 x32 x33 x34 x35 x36 x37 x38 x39 x40 x41 x42 x43 x44 x45 x46 x47 x48 x49 x50 x51 x52 h1 h2 h3 h4 h5 h6 h7 h8 h9 h10 h11 h12 h13 h14 h15 h16 h17 h18 h19 h20
  exact ⟨h1, h2, h3, rfl, fun B n P hB hP hc hd => gvo_x hB hP hc hd h1 h2 h20⟩
/-- what run answers and leaves -/
def rnT (a1 a2 : Int32) (c c1 : gCv) (z : Int32) : Prop := 1 ≤ a2.toInt ∧ a2.toInt ≤ 100000 ∧ c1 = upO c c1 ∧ ((a1.toInt = 0 ∧ c.2.1.toInt ≠ 0) ∨ (a1.toInt ≠ 0 ∧ (dnG c).toInt ≠ 0)) ∧ ∀ (Q : gPg) (inp : Nat → Int32) (gn : Nat), rnP Q → ((a1.toInt = 0 ∧ c.2.1.toInt ≠ 0 ∧ cdC c Q) ∨ (a1.toInt ≠ 0 ∧ (dnG c).toInt ≠ 0 ∧ cdG c Q)) → (inN c).toInt = (gn : Int) → (∀ i, i < gn → inG c i = inp i) → ∃ r, r = rn9 Q inp gn a2.toInt.toNat 0 in9 ∧ z.toInt = r.1 ∧ (rnE c1).toInt = r.1 ∧ rnA c1 = r.2.1 ∧ (rnN c1).toInt = (r.2.2.1 : Int) ∧ ag8 r.2.2.2 (rnS c1) (rnK c1) (rnW c1)
theorem rn_c {a1 : Int32} {a2 : Int32} {SpillForge_hasProgram : Int32} {Code_blocks : Int32} {Code_lines : Int32} {Giver_isDone : Int32} {Machine_givens : Int32} {Code_first : Nat → Int32} {Code_firstGoal : Nat → Int32} {Code_secondGoal : Nat → Int32} {Code_op : Nat → Int32} {Code_set : Nat → Int32} {Code_left : Nat → Int32} {Code_leftNumber : Nat → Int32} {Code_right : Nat → Int32} {Code_rightNumber : Nat → Int32} {Code_blocks2 : Int32} {Code_lines2 : Int32} {Machine_given : Nat → Int32} {Machine_registers : Nat → Int32} {Machine_slots : Nat → Int32} {Machine_shows : Nat → Int32} {Code_first2 : Nat → Int32} {Code_firstGoal2 : Nat → Int32} {Code_secondGoal2 : Nat → Int32} {Code_op2 : Nat → Int32} {Code_set2 : Nat → Int32} {Code_left2 : Nat → Int32} {Code_leftNumber2 : Nat → Int32} {Code_right2 : Nat → Int32} {Code_rightNumber2 : Nat → Int32} {o1 : Int32} {o2 : Int32} {o3 : Int32} {o4 : Int32} {o5 : Int32} {o6 : Int32} {o7 : Int32} {o8 : Nat → Int32} {o9 : Nat → Int32} {o10 : Nat → Int32} {tp d0 d1 d2 d3 w5 w7 : Nat → Int32} {w0 w1 w2 w3 w4 w6 : Int32} (h : tr_SpillForge_run a1 a2 SpillForge_hasProgram Code_blocks Code_lines Giver_isDone Machine_givens Code_first Code_firstGoal Code_secondGoal Code_op Code_set Code_left Code_leftNumber Code_right Code_rightNumber Code_blocks2 Code_lines2 Machine_given Machine_registers Machine_slots Machine_shows Code_first2 Code_firstGoal2 Code_secondGoal2 Code_op2 Code_set2 Code_left2 Code_leftNumber2 Code_right2 Code_rightNumber2 o1 o2 o3 o4 o5 o6 o7 o8 o9 o10) : rnT a1 a2 (tp, SpillForge_hasProgram, Code_blocks, d0, d1, d2, d3, Code_lines, Code_first, Code_firstGoal, Code_secondGoal, Code_op, Code_set, Code_left, Code_leftNumber, Code_right, Code_rightNumber, Giver_isDone, Code_blocks2, Code_lines2, Code_first2, Code_firstGoal2, Code_secondGoal2, Code_op2, Code_set2, Code_left2, Code_leftNumber2, Code_right2, Code_rightNumber2, Machine_given, Machine_givens, w0, w1, w2, w3, w4, w5, w6, w7) (tp, SpillForge_hasProgram, Code_blocks, d0, d1, d2, d3, Code_lines, Code_first, Code_firstGoal, Code_secondGoal, Code_op, Code_set, Code_left, Code_leftNumber, Code_right, Code_rightNumber, Giver_isDone, Code_blocks2, Code_lines2, Code_first2, Code_firstGoal2, Code_secondGoal2, Code_op2, Code_set2, Code_left2, Code_leftNumber2, Code_right2, Code_rightNumber2, Machine_given, Machine_givens, o3, o4, o5, o6, o7, o10, w6, w7) o1 := by
  refine h (fun o1 o2 o3 o4 o5 o6 o7 o8 o9 o10 => rnT a1 a2 (tp, SpillForge_hasProgram, Code_blocks, d0, d1, d2, d3, Code_lines, Code_first, Code_firstGoal, Code_secondGoal, Code_op, Code_set, Code_left, Code_leftNumber, Code_right, Code_rightNumber, Giver_isDone, Code_blocks2, Code_lines2, Code_first2, Code_firstGoal2, Code_secondGoal2, Code_op2, Code_set2, Code_left2, Code_leftNumber2, Code_right2, Code_rightNumber2, Machine_given, Machine_givens, w0, w1, w2, w3, w4, w5, w6, w7) (tp, SpillForge_hasProgram, Code_blocks, d0, d1, d2, d3, Code_lines, Code_first, Code_firstGoal, Code_secondGoal, Code_op, Code_set, Code_left, Code_leftNumber, Code_right, Code_rightNumber, Giver_isDone, Code_blocks2, Code_lines2, Code_first2, Code_firstGoal2, Code_secondGoal2, Code_op2, Code_set2, Code_left2, Code_leftNumber2, Code_right2, Code_rightNumber2, Machine_given, Machine_givens, o3, o4, o5, o6, o7, o10, w6, w7) o1) ?_ ?_
  · intro x1 x2 x3 x4 x5 x6 x7 x8 x9 h1 h2 h3 h4 h5 h6 h7 h8 h9 h10
    refine ⟨h1, h2, rfl, Or.inl ⟨by have w1 := h5.1; have w2 := h5.2; omega, h4⟩, fun Q inp gn hP hq hg hi => ?_⟩
    have hq' : cdP Code_blocks Code_lines Code_first Code_firstGoal Code_secondGoal Code_op Code_set Code_left Code_leftNumber Code_right Code_rightNumber Q := by
      rcases hq with ⟨y1, y2, y3⟩ | ⟨y1, y2, y3⟩
      · exact y3
      · have w1 := h5.2; have w2 := h5.1; omega
    obtain ⟨r, q1, q2, q3, q4, q5⟩ := pf_x hP hq' hg hi (by omega) h10
    exact ⟨r, q1, q2, q2, q3, q4, q5⟩
  · intro x1 x2 x3 x4 x5 x6 x7 x8 x9 h1 h2 h3 h4 h5 h6 h7 h8 h9 h10
    refine ⟨h1, h2, rfl, Or.inr ⟨by have w1 := h5.1; have w2 := h5.2; omega, h4⟩, fun Q inp gn hP hq hg hi => ?_⟩
    have hq' : cdP Code_blocks2 Code_lines2 Code_first2 Code_firstGoal2 Code_secondGoal2 Code_op2 Code_set2 Code_left2 Code_leftNumber2 Code_right2 Code_rightNumber2 Q := by
      rcases hq with ⟨y1, y2, y3⟩ | ⟨y1, y2, y3⟩
      · have w1 := h5.1; omega
      · exact y3
    obtain ⟨r, q1, q2, q3, q4, q5⟩ := pf_x2 hP hq' hg hi (by omega) h10
    exact ⟨r, q1, q2, q2, q3, q4, q5⟩
/-- what list answers and leaves -/
def lsT (a1 : Int32) (c c1 : gCv) (z : Int32) : Prop := c1 = upL c c1 ∧ ((a1.toInt = 0 ∧ c.2.1.toInt ≠ 0) ∨ (a1.toInt ≠ 0 ∧ (dnG c).toInt ≠ 0)) ∧ z = lsZ c1 ∧ ∀ Q : gPg, rnP Q → ((a1.toInt = 0 ∧ c.2.1.toInt ≠ 0 ∧ cdC c Q) ∨ (a1.toInt ≠ 0 ∧ (dnG c).toInt ≠ 0 ∧ cdG c Q)) → (zlB Q Q.1).length ≤ 16384 → (lsZ c1).toInt = ((zlB Q Q.1).length : Int) ∧ ∀ i, i < (zlB Q Q.1).length → lsY c1 i = (zlB Q Q.1).getD i 0
theorem ls_c {a1 : Int32} {SpillForge_hasProgram : Int32} {Code_blocks : Int32} {Code_lines : Int32} {Giver_isDone : Int32} {Code_first : Nat → Int32} {Code_firstGoal : Nat → Int32} {Code_secondGoal : Nat → Int32} {Code_op : Nat → Int32} {Code_set : Nat → Int32} {Code_left : Nat → Int32} {Code_leftNumber : Nat → Int32} {Code_right : Nat → Int32} {Code_rightNumber : Nat → Int32} {Code_blocks2 : Int32} {Code_lines2 : Int32} {Listing_bytes : Nat → Int32} {Code_first2 : Nat → Int32} {Code_firstGoal2 : Nat → Int32} {Code_secondGoal2 : Nat → Int32} {Code_op2 : Nat → Int32} {Code_set2 : Nat → Int32} {Code_left2 : Nat → Int32} {Code_leftNumber2 : Nat → Int32} {Code_right2 : Nat → Int32} {Code_rightNumber2 : Nat → Int32} {o1 : Int32} {o2 : Int32} {o3 : Nat → Int32} {tp d0 d1 d2 d3 g0 w5 : Nat → Int32} {w0 w1 w2 w3 w4 w6 w7 : Int32} (h : tr_SpillForge_list a1 SpillForge_hasProgram Code_blocks Code_lines Giver_isDone Code_first Code_firstGoal Code_secondGoal Code_op Code_set Code_left Code_leftNumber Code_right Code_rightNumber Code_blocks2 Code_lines2 Listing_bytes Code_first2 Code_firstGoal2 Code_secondGoal2 Code_op2 Code_set2 Code_left2 Code_leftNumber2 Code_right2 Code_rightNumber2 o1 o2 o3) : lsT a1 (tp, SpillForge_hasProgram, Code_blocks, d0, d1, d2, d3, Code_lines, Code_first, Code_firstGoal, Code_secondGoal, Code_op, Code_set, Code_left, Code_leftNumber, Code_right, Code_rightNumber, Giver_isDone, Code_blocks2, Code_lines2, Code_first2, Code_firstGoal2, Code_secondGoal2, Code_op2, Code_set2, Code_left2, Code_leftNumber2, Code_right2, Code_rightNumber2, g0, w6, w0, w1, w2, w3, w4, w5, w7, Listing_bytes) (tp, SpillForge_hasProgram, Code_blocks, d0, d1, d2, d3, Code_lines, Code_first, Code_firstGoal, Code_secondGoal, Code_op, Code_set, Code_left, Code_leftNumber, Code_right, Code_rightNumber, Giver_isDone, Code_blocks2, Code_lines2, Code_first2, Code_firstGoal2, Code_secondGoal2, Code_op2, Code_set2, Code_left2, Code_leftNumber2, Code_right2, Code_rightNumber2, g0, w6, w0, w1, w2, w3, w4, w5, o2, o3) o1 := by
  refine h (fun o1 o2 o3 => lsT a1 (tp, SpillForge_hasProgram, Code_blocks, d0, d1, d2, d3, Code_lines, Code_first, Code_firstGoal, Code_secondGoal, Code_op, Code_set, Code_left, Code_leftNumber, Code_right, Code_rightNumber, Giver_isDone, Code_blocks2, Code_lines2, Code_first2, Code_firstGoal2, Code_secondGoal2, Code_op2, Code_set2, Code_left2, Code_leftNumber2, Code_right2, Code_rightNumber2, g0, w6, w0, w1, w2, w3, w4, w5, w7, Listing_bytes) (tp, SpillForge_hasProgram, Code_blocks, d0, d1, d2, d3, Code_lines, Code_first, Code_firstGoal, Code_secondGoal, Code_op, Code_set, Code_left, Code_leftNumber, Code_right, Code_rightNumber, Giver_isDone, Code_blocks2, Code_lines2, Code_first2, Code_firstGoal2, Code_secondGoal2, Code_op2, Code_set2, Code_left2, Code_leftNumber2, Code_right2, Code_rightNumber2, g0, w6, w0, w1, w2, w3, w4, w5, o2, o3) o1) ?_ ?_
  · intro x1 x2 h1 h2 h3 h4 h5
    have e1 := h3.1
    have e2 := h3.2
    refine ⟨rfl, Or.inl ⟨by omega, h2⟩, rfl, fun Q hP hq => ?_⟩
    refine wr_tr hP ?_ h5
    rcases hq with ⟨y1, y2, y3⟩ | ⟨y1, y2, y3⟩
    · exact y3
    · omega
  · intro x1 x2 h1 h2 h3 h4 h5
    have e1 := h3.1
    have e2 := h3.2
    refine ⟨rfl, Or.inr ⟨by omega, h2⟩, rfl, fun Q hP hq => ?_⟩
    refine wr_tr2 hP ?_ h5
    rcases hq with ⟨y1, y2, y3⟩ | ⟨y1, y2, y3⟩
    · omega
    · exact y3
theorem svd_x {Code_blocks : Int32} {Code_lines : Int32} {Giver_firstWeight : Nat → Int32} {Giver_firstDegree : Nat → Int32} {Giver_liveBefore : Nat → Int32} {Giver_slotOf : Nat → Int32} {Code_first : Nat → Int32} {Code_firstGoal : Nat → Int32} {Code_secondGoal : Nat → Int32} {Code_op : Nat → Int32} {Code_set : Nat → Int32} {Code_left : Nat → Int32} {Code_leftNumber : Nat → Int32} {Code_right : Nat → Int32} {Code_rightNumber : Nat → Int32} {Loops_depth : Nat → Int32} {Graph_joined : Nat → Int64} {Graph_standing : Nat → Int64} {Graph_degree : Nat → Int32} {Colouring_weight : Nat → Int32} {Code_first2 : Nat → Int32} {Code_firstGoal2 : Nat → Int32} {Code_secondGoal2 : Nat → Int32} {Code_op2 : Nat → Int32} {Code_set2 : Nat → Int32} {Code_left2 : Nat → Int32} {Code_leftNumber2 : Nat → Int32} {Code_right2 : Nat → Int32} {Code_rightNumber2 : Nat → Int32} {Live_in : Nat → Int64} {Live_used : Nat → Int64} {Live_set : Nat → Int64} {Live_now : Nat → Int64} {o1 : Int32} {o2 : Int32} {o3 : Int32} {o4 : Int32} {o5 : Int32} {o6 : Int32} {o7 : Int32} {o8 : Int32} {o9 : Nat → Int32} {o10 : Nat → Int32} {o11 : Nat → Int32} {o12 : Nat → Int32} {o13 : Int32} {o14 : Int32} {o15 : Int32} {o16 : Int32} {o17 : Int32} {o18 : Int32} {o19 : Nat → Int64} {o20 : Nat → Int64} {o21 : Nat → Int32} {o22 : Nat → Int32} {o23 : Nat → Int32} {o24 : Nat → Int32} {o25 : Nat → Int32} {o26 : Nat → Int32} {o27 : Nat → Int32} {o28 : Nat → Int32} {o29 : Nat → Int32} {o30 : Nat → Int32} {o31 : Nat → Int32} {o32 : Nat → Int64} {o33 : Nat → Int64} {o34 : Nat → Int64} {o35 : Nat → Int64} (h : tr_Giver_survey Code_blocks Code_lines Giver_firstWeight Giver_firstDegree Giver_liveBefore Giver_slotOf Code_first Code_firstGoal Code_secondGoal Code_op Code_set Code_left Code_leftNumber Code_right Code_rightNumber Loops_depth Graph_joined Graph_standing Graph_degree Colouring_weight Code_first2 Code_firstGoal2 Code_secondGoal2 Code_op2 Code_set2 Code_left2 Code_leftNumber2 Code_right2 Code_rightNumber2 Live_in Live_used Live_set Live_now o1 o2 o3 o4 o5 o6 o7 o8 o9 o10 o11 o12 o13 o14 o15 o16 o17 o18 o19 o20 o21 o22 o23 o24 o25 o26 o27 o28 o29 o30 o31 o32 o33 o34 o35) : o6.toInt = 0 := by
  refine h (fun o1 o2 o3 o4 o5 o6 o7 o8 o9 o10 o11 o12 o13 o14 o15 o16 o17 o18 o19 o20 o21 o22 o23 o24 o25 o26 o27 o28 o29 o30 o31 o32 o33 o34 o35 => o6.toInt = 0) ?_
  · intro x1 x2 x3 x4 x5 x6 x7 x8 x9 x10 x11 x12 x13 x14 x15 x16 x17 x18 x19 x20 x21 x22 x23 x24 x25 x26 x27 x28 x29 x30 x31 x32 x33 x34 x35 x36 x37 x38 x39 x40 x41 x42 h1 h2 h3 h4 h5 h6 h7 h8 h9 h10 h11 h12 h13 h14 h15 h16 h17 h18 h19 h20 h21 h22
    exact bgd_tr h13
theorem txg_x {Tape_size : Int32} {Reader_op : Int32} {Reader_set : Int32} {Reader_left : Int32} {Reader_leftNumber : Int32} {Giver_names : Int32} {Giver_slots : Int32} {Giver_sharedSlots : Int32} {Giver_spilled : Int32} {Giver_merged : Int32} {Giver_isDone : Int32} {Tape_bytes : Nat → Int32} {Reader_goalPlaces : Nat → Int32} {Code_first : Nat → Int32} {Code_firstGoal : Nat → Int32} {Code_secondGoal : Nat → Int32} {Code_op : Nat → Int32} {Code_set : Nat → Int32} {Code_left : Nat → Int32} {Code_leftNumber : Nat → Int32} {Code_right : Nat → Int32} {Code_rightNumber : Nat → Int32} {Loops_goals : Nat → Int64} {Loops_sources : Nat → Int64} {Loops_depth : Nat → Int32} {Graph_names : Int32} {Graph_words : Int32} {Giver_firstWeight : Nat → Int32} {Giver_firstDegree : Nat → Int32} {Giver_liveBefore : Nat → Int32} {Giver_slotOf : Nat → Int32} {Code_blocks : Int32} {Code_lines : Int32} {Code_isFull : Int32} {Live_names : Int32} {Live_words : Int32} {Live_ofSlots : Int32} {Graph_joined : Nat → Int64} {Graph_standing : Nat → Int64} {Graph_degree : Nat → Int32} {Colouring_weight : Nat → Int32} {Code_first2 : Nat → Int32} {Code_firstGoal2 : Nat → Int32} {Code_secondGoal2 : Nat → Int32} {Code_op2 : Nat → Int32} {Code_set2 : Nat → Int32} {Code_left2 : Nat → Int32} {Code_leftNumber2 : Nat → Int32} {Code_right2 : Nat → Int32} {Code_rightNumber2 : Nat → Int32} {Live_in : Nat → Int64} {Live_used : Nat → Int64} {Live_set : Nat → Int64} {Live_now : Nat → Int64} {o1 : Int32} {o2 : Int32} {o3 : Int32} {o4 : Int32} {o5 : Int32} {o6 : Int32} {o7 : Int64} {o8 : Int32} {o9 : Int32} {o10 : Int32} {o11 : Int32} {o12 : Int32} {o13 : Int32} {o14 : Int32} {o15 : Int32} {o16 : Int32} {o17 : Int32} {o18 : Int32} {o19 : Int32} {o20 : Int32} {o21 : Nat → Int32} {o22 : Nat → Int32} {o23 : Nat → Int32} {o24 : Nat → Int32} {o25 : Nat → Int32} {o26 : Nat → Int32} {o27 : Nat → Int32} {o28 : Nat → Int32} {o29 : Nat → Int32} {o30 : Nat → Int32} {o31 : Int32} {o32 : Int32} {o33 : Int32} {o34 : Int32} {o35 : Int32} {o36 : Int32} {o37 : Nat → Int64} {o38 : Nat → Int64} {o39 : Nat → Int32} {o40 : Int32} {o41 : Int32} {o42 : Nat → Int32} {o43 : Nat → Int32} {o44 : Nat → Int32} {o45 : Nat → Int32} {o46 : Int32} {o47 : Int32} {o48 : Int32} {o49 : Int32} {o50 : Int32} {o51 : Int32} {o52 : Nat → Int64} {o53 : Nat → Int64} {o54 : Nat → Int32} {o55 : Nat → Int32} {o56 : Nat → Int32} {o57 : Nat → Int32} {o58 : Nat → Int32} {o59 : Nat → Int32} {o60 : Nat → Int32} {o61 : Nat → Int32} {o62 : Nat → Int32} {o63 : Nat → Int32} {o64 : Nat → Int32} {o65 : Nat → Int64} {o66 : Nat → Int64} {o67 : Nat → Int64} {o68 : Nat → Int64} (h : tr_SpillForge_text Tape_size Reader_op Reader_set Reader_left Reader_leftNumber Giver_names Giver_slots Giver_sharedSlots Giver_spilled Giver_merged Giver_isDone Tape_bytes Reader_goalPlaces Code_first Code_firstGoal Code_secondGoal Code_op Code_set Code_left Code_leftNumber Code_right Code_rightNumber Loops_goals Loops_sources Loops_depth Graph_names Graph_words Giver_firstWeight Giver_firstDegree Giver_liveBefore Giver_slotOf Code_blocks Code_lines Code_isFull Live_names Live_words Live_ofSlots Graph_joined Graph_standing Graph_degree Colouring_weight Code_first2 Code_firstGoal2 Code_secondGoal2 Code_op2 Code_set2 Code_left2 Code_leftNumber2 Code_right2 Code_rightNumber2 Live_in Live_used Live_set Live_now o1 o2 o3 o4 o5 o6 o7 o8 o9 o10 o11 o12 o13 o14 o15 o16 o17 o18 o19 o20 o21 o22 o23 o24 o25 o26 o27 o28 o29 o30 o31 o32 o33 o34 o35 o36 o37 o38 o39 o40 o41 o42 o43 o44 o45 o46 o47 o48 o49 o50 o51 o52 o53 o54 o55 o56 o57 o58 o59 o60 o61 o62 o63 o64 o65 o66 o67 o68) : (o2.toInt = 0 ∧ o36 = Giver_isDone ∧ o46 = Code_blocks ∧ o47 = Code_lines ∧ o56 = Code_first2 ∧ o57 = Code_firstGoal2 ∧ o58 = Code_secondGoal2 ∧ o59 = Code_op2 ∧ o60 = Code_set2 ∧ o61 = Code_left2 ∧ o62 = Code_leftNumber2 ∧ o63 = Code_right2 ∧ o64 = Code_rightNumber2) ∨ (o2.toInt ≠ 0 ∧ o36.toInt = 0) := by
  refine h (fun o1 o2 o3 o4 o5 o6 o7 o8 o9 o10 o11 o12 o13 o14 o15 o16 o17 o18 o19 o20 o21 o22 o23 o24 o25 o26 o27 o28 o29 o30 o31 o32 o33 o34 o35 o36 o37 o38 o39 o40 o41 o42 o43 o44 o45 o46 o47 o48 o49 o50 o51 o52 o53 o54 o55 o56 o57 o58 o59 o60 o61 o62 o63 o64 o65 o66 o67 o68 => (o2.toInt = 0 ∧ o36 = Giver_isDone ∧ o46 = Code_blocks ∧ o47 = Code_lines ∧ o56 = Code_first2 ∧ o57 = Code_firstGoal2 ∧ o58 = Code_secondGoal2 ∧ o59 = Code_op2 ∧ o60 = Code_set2 ∧ o61 = Code_left2 ∧ o62 = Code_leftNumber2 ∧ o63 = Code_right2 ∧ o64 = Code_rightNumber2) ∨ (o2.toInt ≠ 0 ∧ o36.toInt = 0)) ?_ ?_
  · intro x1 x2 x3 x4 x5 x6 x7 x8 x9 x10 x11 x12 x13 x14 x15 x16 x17 x18 x19 x20 x21 x22 x23 x24 x25 x26 x27 x28 x29 h1 h2 h3 h4 h5 h6 h7 h8 h9 h10
    exact Or.inl ⟨by decide, rfl, rfl, rfl, rfl, rfl, rfl, rfl, rfl, rfl, rfl, rfl, rfl⟩
  · intro x1 x2 x3 x4 x5 x6 x7 x8 x9 x10 x11 x12 x13 x14 x15 x16 x17 x18 x19 x20 x21 x22 x23 x24 x25 x26 x27 x28 x29 x30 x31 x32 x33 x34 x35 x36 x37 x38 x39 x40 x41 x42 x43 x44 x45 x46 x47 x48 x49 x50 x51 x52 x53 x54 x55 x56 x57 x58 x59 x60 x61 x62 x63 x64 x65 x66 x67 h1 h2 h3 h4 h5 h6 h7 h8 h9 h10 h11 h12 h13 h14 h15 h16 h17 h18 h19 h20 h21 h22 h23 h24 h25 h26
    exact Or.inr ⟨by decide, svd_x h26⟩
/-- what text leaves of what was given out, of INPUT and of the latest RUN -/
def txG (c c1 : gCv) : Prop := (inG c1 = inG c ∧ inN c1 = inN c ∧ c1 = upO c1 c ∧ c1 = upL c1 c) ∧ ((c1.2.1.toInt = 0 ∧ c1 = upG c1 c) ∨ (c1.2.1.toInt ≠ 0 ∧ (dnG c1).toInt = 0))
/-- what input leaves -/
def inC (c c1 : gCv) (n : Int) : Prop := c1 = upI c c1 ∧ ∃ k : Nat, (k : Int) = n / 4 ∧ (inN c1).toInt = (k : Int) ∧ ∀ q, q < k → inG c1 q = i4 c.1 q 4
theorem tx_g {Tape_size : Int32} {Reader_op : Int32} {Reader_set : Int32} {Reader_left : Int32} {Reader_leftNumber : Int32} {Giver_names : Int32} {Giver_slots : Int32} {Giver_sharedSlots : Int32} {Giver_spilled : Int32} {Giver_merged : Int32} {Giver_isDone : Int32} {Tape_bytes : Nat → Int32} {Reader_goalPlaces : Nat → Int32} {Code_first : Nat → Int32} {Code_firstGoal : Nat → Int32} {Code_secondGoal : Nat → Int32} {Code_op : Nat → Int32} {Code_set : Nat → Int32} {Code_left : Nat → Int32} {Code_leftNumber : Nat → Int32} {Code_right : Nat → Int32} {Code_rightNumber : Nat → Int32} {Loops_goals : Nat → Int64} {Loops_sources : Nat → Int64} {Loops_depth : Nat → Int32} {Graph_names : Int32} {Graph_words : Int32} {Giver_firstWeight : Nat → Int32} {Giver_firstDegree : Nat → Int32} {Giver_liveBefore : Nat → Int32} {Giver_slotOf : Nat → Int32} {Code_blocks : Int32} {Code_lines : Int32} {Code_isFull : Int32} {Live_names : Int32} {Live_words : Int32} {Live_ofSlots : Int32} {Graph_joined : Nat → Int64} {Graph_standing : Nat → Int64} {Graph_degree : Nat → Int32} {Colouring_weight : Nat → Int32} {Code_first2 : Nat → Int32} {Code_firstGoal2 : Nat → Int32} {Code_secondGoal2 : Nat → Int32} {Code_op2 : Nat → Int32} {Code_set2 : Nat → Int32} {Code_left2 : Nat → Int32} {Code_leftNumber2 : Nat → Int32} {Code_right2 : Nat → Int32} {Code_rightNumber2 : Nat → Int32} {Live_in : Nat → Int64} {Live_used : Nat → Int64} {Live_set : Nat → Int64} {Live_now : Nat → Int64} {o1 : Int32} {o2 : Int32} {o3 : Int32} {o4 : Int32} {o5 : Int32} {o6 : Int32} {o7 : Int64} {o8 : Int32} {o9 : Int32} {o10 : Int32} {o11 : Int32} {o12 : Int32} {o13 : Int32} {o14 : Int32} {o15 : Int32} {o16 : Int32} {o17 : Int32} {o18 : Int32} {o19 : Int32} {o20 : Int32} {o21 : Nat → Int32} {o22 : Nat → Int32} {o23 : Nat → Int32} {o24 : Nat → Int32} {o25 : Nat → Int32} {o26 : Nat → Int32} {o27 : Nat → Int32} {o28 : Nat → Int32} {o29 : Nat → Int32} {o30 : Nat → Int32} {o31 : Int32} {o32 : Int32} {o33 : Int32} {o34 : Int32} {o35 : Int32} {o36 : Int32} {o37 : Nat → Int64} {o38 : Nat → Int64} {o39 : Nat → Int32} {o40 : Int32} {o41 : Int32} {o42 : Nat → Int32} {o43 : Nat → Int32} {o44 : Nat → Int32} {o45 : Nat → Int32} {o46 : Int32} {o47 : Int32} {o48 : Int32} {o49 : Int32} {o50 : Int32} {o51 : Int32} {o52 : Nat → Int64} {o53 : Nat → Int64} {o54 : Nat → Int32} {o55 : Nat → Int32} {o56 : Nat → Int32} {o57 : Nat → Int32} {o58 : Nat → Int32} {o59 : Nat → Int32} {o60 : Nat → Int32} {o61 : Nat → Int32} {o62 : Nat → Int32} {o63 : Nat → Int32} {o64 : Nat → Int32} {o65 : Nat → Int64} {o66 : Nat → Int64} {o67 : Nat → Int64} {o68 : Nat → Int64} {b0 : Nat → Int32} {b1 : Int32} {b2 : Int32} {b3 : Nat → Int32} {b4 : Nat → Int32} {b5 : Nat → Int32} {b6 : Nat → Int32} {b7 : Int32} {b8 : Nat → Int32} {b9 : Nat → Int32} {b10 : Nat → Int32} {b11 : Nat → Int32} {b12 : Nat → Int32} {b13 : Nat → Int32} {b14 : Nat → Int32} {b15 : Nat → Int32} {b16 : Nat → Int32} {b29 : Nat → Int32} {b30 : Int32} {b31 : Int32} {b32 : Int32} {b33 : Int32} {b34 : Int32} {b35 : Int32} {b36 : Nat → Int32} {b37 : Int32} {b38 : Nat → Int32} {u0 : Nat → Int32} {u2 : Int32} {u3 : Nat → Int32} {u4 : Nat → Int32} {u5 : Nat → Int32} {u6 : Nat → Int32} {u7 : Int32} {u8 : Nat → Int32} {u9 : Nat → Int32} {u10 : Nat → Int32} {u11 : Nat → Int32} {u12 : Nat → Int32} {u13 : Nat → Int32} {u14 : Nat → Int32} {u15 : Nat → Int32} {u16 : Nat → Int32} (h : tr_SpillForge_text Tape_size Reader_op Reader_set Reader_left Reader_leftNumber Giver_names Giver_slots Giver_sharedSlots Giver_spilled Giver_merged Giver_isDone Tape_bytes Reader_goalPlaces Code_first Code_firstGoal Code_secondGoal Code_op Code_set Code_left Code_leftNumber Code_right Code_rightNumber Loops_goals Loops_sources Loops_depth Graph_names Graph_words Giver_firstWeight Giver_firstDegree Giver_liveBefore Giver_slotOf Code_blocks Code_lines Code_isFull Live_names Live_words Live_ofSlots Graph_joined Graph_standing Graph_degree Colouring_weight Code_first2 Code_firstGoal2 Code_secondGoal2 Code_op2 Code_set2 Code_left2 Code_leftNumber2 Code_right2 Code_rightNumber2 Live_in Live_used Live_set Live_now o1 o2 o3 o4 o5 o6 o7 o8 o9 o10 o11 o12 o13 o14 o15 o16 o17 o18 o19 o20 o21 o22 o23 o24 o25 o26 o27 o28 o29 o30 o31 o32 o33 o34 o35 o36 o37 o38 o39 o40 o41 o42 o43 o44 o45 o46 o47 o48 o49 o50 o51 o52 o53 o54 o55 o56 o57 o58 o59 o60 o61 o62 o63 o64 o65 o66 o67 o68) : txG (b0, b1, b2, b3, b4, b5, b6, b7, b8, b9, b10, b11, b12, b13, b14, b15, b16, Giver_isDone, Code_blocks, Code_lines, Code_first2, Code_firstGoal2, Code_secondGoal2, Code_op2, Code_set2, Code_left2, Code_leftNumber2, Code_right2, Code_rightNumber2, b29, b30, b31, b32, b33, b34, b35, b36, b37, b38) (u0, o2, u2, u3, u4, u5, u6, u7, u8, u9, u10, u11, u12, u13, u14, u15, u16, o36, o46, o47, o56, o57, o58, o59, o60, o61, o62, o63, o64, b29, b30, b31, b32, b33, b34, b35, b36, b37, b38) := by
  refine ⟨⟨rfl, rfl, rfl, rfl⟩, ?_⟩
  rcases txg_x h with ⟨y, y0, y1, y2, y3, y4, y5, y6, y7, y8, y9, y10, y11⟩ | ⟨y1, y2⟩
  · refine Or.inl ⟨y, ?_⟩
    rw [y0, y1, y2, y3, y4, y5, y6, y7, y8, y9, y10, y11]
    rfl
  · exact Or.inr ⟨y1, y2⟩
/-- what text leaves of the values -/
def txC (B : Nat → Int32) (n : Int) (c : gCv) : Prop := (c.2.1.toInt = 1 ∧ ∃ P, okP (bA B n) n P ∧ c.2.2.1.toInt = (P.1 : Int) ∧ lkS P c.2.2.2.1 c.2.2.2.2.1 c.2.2.2.2.2.1 c.2.2.2.2.2.2.1 ∧ cdC c P) ∨ (c.2.1.toInt = 0 ∧ ∀ P, ¬ okP (bA B n) n P)
set_option maxRecDepth 100000 in
set_option maxHeartbeats 4000000 in
theorem Gl_input {l : Launch} {R : Room} {Qf : gFin} {k : gKey} {pc cs sl i x : Nat} {Lv : List (Nat × Value)} {st : List Value} {A Y : va_W} {n : Int} {c : gCv} {D : va_G} {I : FieldType → ClassId} (hl0 : l.stackTraces = false) (d : decode k.1 pc = .ok (.invokevirtual i, 3)) (hw : gCw (gV D I) R k.2.2.1 i yX11_input cX11_input 2 (some FieldType.int) 3 66 0) (w2 : Cond.instanceMethod yX11_input ∈ (gV D I).2.2.2.2) (w3 : Cond.selects yX11_input.cls yX11_input yX11_input ∈ (gV D I).2.2.2.2)
    (hx : clS D I x A n c) (hcs : cs + 0 ≤ R.cells) (hsl : sl + 0 ≤ R.slots) (hcat : (st.map fun u => u.category).sum ≤ 8)
    (kk : ∀ (A1 : va_W) (z : Int32) (c1 : gCv), clS D I x A1 0 c1 → z.toInt = n / 4 → inC c c1 n → G (gV D I) l R Qf k (pc + 3) Lv (.int z :: st) (A1 ++ Y) (cs + 0) (sl + 0)) :
    G (gV D I) l R Qf k pc Lv (.ref x :: st) (A ++ Y) cs sl := by
  obtain ⟨qq, pp, ff, gg, ll, rfl, bp86219, bp86220, bp86227, bp86231, bp86232, bp86233, bp86234, bp86239, bp86240, bp86241, bp86243, bp86245, bp86247, bf86248, bf86254, bf86257, bp86266, bp86267, bp86268, bp86269, bp86275, bp86276, bp86277, bp86278, bp86279, bp86280, bf86285, bp86286, bp86287, bp86288, bf86294, bf86295, bf86297, bf86300, bf86306, bf86309, x86319, x86320, x86321, x86322, hsz, rfl⟩ := hx
  refine Gf_1V (As := []) (gV_ok D I) (ct_80558_SpillForge_input l hl0 D I x (qq 0) (qq 1) (qq 2) (qq 3) (qq 4) (qq 5) (qq 6) (qq 7) (qq 8) (qq 9) (qq 10) (qq 11) (qq 12) (qq 13) (qq 14) (qq 15) (qq 16) (qq 17) (qq 18) (qq 19) (qq 20) (qq 21) (qq 22) (qq 23) (qq 24) (qq 25) (qq 26) (qq 27) (qq 28) (qq 29) (qq 30) (qq 31) (qq 32) (qq 33) (qq 34) (qq 35) (qq 36) (qq 37) (qq 38) (qq 39) (qq 40) (qq 41) (qq 42) (qq 43) (qq 44) (qq 45) (qq 46) (qq 47) (qq 48) (qq 49) (qq 50) (qq 51) (qq 52) (qq 53) (qq 54) (qq 55) (qq 56) (qq 57) (qq 58) (qq 59) (qq 60) (qq 61) (qq 62) (qq 63) (qq 64) (qq 65) (qq 66) (pp 0) (pp 1) (pp 2) (pp 3) (pp 4) (ll 0) (pp 5) (pp 6) (pp 7) (pp 8) (pp 9) (pp 10) (pp 11) (pp 12) (pp 13) (pp 14) (pp 15) (pp 16) (pp 17) (pp 18) (pp 19) (pp 20) (pp 21) (pp 22) (pp 23) (pp 24) (pp 25) (pp 26) (pp 27) (ff 0) (pp 28) (pp 29) (pp 30) (pp 31) (ff 1) (ff 2) (ff 3) (ff 4) (ff 5) (ff 6) (ff 7) (ff 8) (ff 9) (ff 10) (gg 0) (gg 1) (ff 11) (pp 32) (pp 33) (pp 34) (pp 35) (ff 12) (ff 13) (ff 14) (ff 15) (ff 16) (pp 36) (pp 37) (pp 38) (pp 39) (pp 40) (pp 41) (ff 17) (ff 18) (ff 19) (ff 20) (ff 21) (pp 42) (pp 43) (pp 44) (gg 2) (gg 3) (ff 22) (ff 23) (ff 24) (ff 25) (ff 26) (ff 27) (ff 28) (ff 29) (ff 30) (ff 31) (ff 32) (ff 33) (ff 34) (ff 35) (ff 36) (ff 37) (ff 38) (ff 39) (ff 40) (ff 41) (ff 42) (ff 43) (ff 44) (ff 45) (gg 4) (gg 5) (gg 6) (gg 7) bp86219 bp86220 bp86227 bp86231 bp86232 bp86233 bp86234 bp86239 bp86240 bp86241 bp86243 bp86245 bp86247 bf86248 bf86254 bf86257 bp86266 bp86267 bp86268 bp86269 bp86275 bp86276 bp86277 bp86278 bp86279 bp86280 bf86285 bp86286 bp86287 bp86288 bf86294 bf86295 bf86297 bf86300 bf86306 bf86309 x86319 x86320 x86321 x86322) d hw w2 w3 0 rfl rfl hcs hsl hcat (fun r w hp => ?_) (fun _ _ _ z => z.elim)
  refine Exists.elim hp fun o80570 hp => ?_
  refine Exists.elim hp fun o80567 hp => ?_
  refine Exists.elim hp fun o80568 hp => ?_
  refine Exists.elim hp fun f80569 hp => ?_
  obtain ⟨rfl, rfl, y0, y1, y2, y3, y4, y5, y6⟩ := hp
  have hi := inp_c bp86220.1 bp86220.2 y6
  rw [hsz] at hi
  exact kk _ o80570 ((ff 0), (pp 0), (pp 11), (ff 11), (ff 12), (ff 13), (ff 14), (pp 12), (ff 2), (ff 3), (ff 4), (ff 5), (ff 6), (ff 7), (ff 8), (ff 9), (ff 10), (pp 19), (pp 36), (pp 37), (ff 28), (ff 29), (ff 30), (ff 31), (ff 32), (ff 33), (ff 34), (ff 35), (ff 36), f80569, o80568, (pp 22), (pp 23), (pp 24), (pp 25), (pp 26), (ff 20), (pp 27), (ff 21)) ⟨qq, (fun j => [(pp 0), o80567, (pp 2), (pp 3), (pp 4), (pp 5), (pp 6), (pp 7), (pp 8), (pp 9), (pp 10), (pp 11), (pp 12), (pp 13), (pp 14), (pp 15), (pp 16), (pp 17), (pp 18), (pp 19), o80568, (pp 21), (pp 22), (pp 23), (pp 24), (pp 25), (pp 26), (pp 27), (pp 28), (pp 29), (pp 30), (pp 31), (pp 32), (pp 33), (pp 34), (pp 35), (pp 36), (pp 37), (pp 38), (pp 39), (pp 40), (pp 41), (pp 42), (pp 43), (pp 44)].getD j 0), (fun j => [(ff 0), (ff 1), (ff 2), (ff 3), (ff 4), (ff 5), (ff 6), (ff 7), (ff 8), (ff 9), (ff 10), (ff 11), (ff 12), (ff 13), (ff 14), (ff 15), (ff 16), f80569, (ff 18), (ff 19), (ff 20), (ff 21), (ff 22), (ff 23), (ff 24), (ff 25), (ff 26), (ff 27), (ff 28), (ff 29), (ff 30), (ff 31), (ff 32), (ff 33), (ff 34), (ff 35), (ff 36), (ff 37), (ff 38), (ff 39), (ff 40), (ff 41), (ff 42), (ff 43), (ff 44), (ff 45)].getD j (fun _ => 0)), gg, ll, rfl, bp86219, y1, bp86227, bp86231, bp86232, bp86233, bp86234, bp86239, y2, bp86241, bp86243, bp86245, bp86247, bf86248, bf86254, bf86257, bp86266, bp86267, bp86268, bp86269, bp86275, bp86276, bp86277, bp86278, bp86279, bp86280, bf86285, bp86286, bp86287, bp86288, bf86294, bf86295, bf86297, bf86300, bf86306, bf86309, x86319, x86320, x86321, x86322, (show (o80567).toInt = 0 by omega), rfl⟩ (show (o80570).toInt = n / 4 by omega) ⟨rfl, hi⟩
set_option maxRecDepth 100000 in
set_option maxHeartbeats 4000000 in
theorem Gl_text {l : Launch} {R : Room} {Qf : gFin} {k : gKey} {pc cs sl i x : Nat} {Lv : List (Nat × Value)} {st : List Value} {A Y : va_W} {n : Int} {c : gCv} {D : va_G} {I : FieldType → ClassId} (hl0 : l.stackTraces = false) (d : decode k.1 pc = .ok (.invokevirtual i, 3)) (hw : gCw (gV D I) R k.2.2.1 i yX11_text cX11_text 2 (some FieldType.int) 9 196 0) (w2 : Cond.instanceMethod yX11_text ∈ (gV D I).2.2.2.2) (w3 : Cond.selects yX11_text.cls yX11_text yX11_text ∈ (gV D I).2.2.2.2)
    (hx : clS D I x A n c) (hcs : cs + 0 ≤ R.cells) (hsl : sl + 0 ≤ R.slots) (hcat : (st.map fun u => u.category).sum ≤ 8)
    (kk : ∀ (A1 : va_W) (z : Int32) (c1 : gCv), clS D I x A1 0 c1 → txC c.1 n c1 → txG c c1 → G (gV D I) l R Qf k (pc + 3) Lv (.int z :: st) (A1 ++ Y) (cs + 0) (sl + 0)) :
    G (gV D I) l R Qf k pc Lv (.ref x :: st) (A ++ Y) cs sl := by
  obtain ⟨qq, pp, ff, gg, ll, rfl, bp86219, bp86220, bp86227, bp86231, bp86232, bp86233, bp86234, bp86239, bp86240, bp86241, bp86243, bp86245, bp86247, bf86248, bf86254, bf86257, bp86266, bp86267, bp86268, bp86269, bp86275, bp86276, bp86277, bp86278, bp86279, bp86280, bf86285, bp86286, bp86287, bp86288, bf86294, bf86295, bf86297, bf86300, bf86306, bf86309, x86319, x86320, x86321, x86322, hsz, rfl⟩ := hx
  refine Gf_1V (As := []) (gV_ok D I) (ct_80743_SpillForge_text l hl0 D I x (qq 0) (qq 1) (qq 2) (qq 3) (qq 4) (qq 5) (qq 6) (qq 7) (qq 8) (qq 9) (qq 10) (qq 11) (qq 12) (qq 13) (qq 14) (qq 15) (qq 16) (qq 17) (qq 18) (qq 19) (qq 20) (qq 21) (qq 22) (qq 23) (qq 24) (qq 25) (qq 26) (qq 27) (qq 28) (qq 29) (qq 30) (qq 31) (qq 32) (qq 33) (qq 34) (qq 35) (qq 36) (qq 37) (qq 38) (qq 39) (qq 40) (qq 41) (qq 42) (qq 43) (qq 44) (qq 45) (qq 46) (qq 47) (qq 48) (qq 49) (qq 50) (qq 51) (qq 52) (qq 53) (qq 54) (qq 55) (qq 56) (qq 57) (qq 58) (qq 59) (qq 60) (qq 61) (qq 62) (qq 63) (qq 64) (qq 65) (qq 66) (pp 0) (pp 1) (pp 2) (pp 3) (pp 4) (ll 0) (pp 5) (pp 6) (pp 7) (pp 8) (pp 9) (pp 10) (pp 11) (pp 12) (pp 13) (pp 14) (pp 15) (pp 16) (pp 17) (pp 18) (pp 19) (pp 20) (pp 21) (pp 22) (pp 23) (pp 24) (pp 25) (pp 26) (pp 27) (ff 0) (pp 28) (pp 29) (pp 30) (pp 31) (ff 1) (ff 2) (ff 3) (ff 4) (ff 5) (ff 6) (ff 7) (ff 8) (ff 9) (ff 10) (gg 0) (gg 1) (ff 11) (pp 32) (pp 33) (pp 34) (pp 35) (ff 12) (ff 13) (ff 14) (ff 15) (ff 16) (pp 36) (pp 37) (pp 38) (pp 39) (pp 40) (pp 41) (ff 17) (ff 18) (ff 19) (ff 20) (ff 21) (pp 42) (pp 43) (pp 44) (gg 2) (gg 3) (ff 22) (ff 23) (ff 24) (ff 25) (ff 26) (ff 27) (ff 28) (ff 29) (ff 30) (ff 31) (ff 32) (ff 33) (ff 34) (ff 35) (ff 36) (ff 37) (ff 38) (ff 39) (ff 40) (ff 41) (ff 42) (ff 43) (ff 44) (ff 45) (gg 4) (gg 5) (gg 6) (gg 7) bp86219 bp86220 bp86227 bp86231 bp86232 bp86233 bp86234 bp86239 bp86240 bp86241 bp86243 bp86245 bp86247 bf86248 bf86254 bf86257 bp86266 bp86267 bp86268 bp86269 bp86275 bp86276 bp86277 bp86278 bp86279 bp86280 bf86285 bp86286 bp86287 bp86288 bf86294 bf86295 bf86297 bf86300 bf86306 bf86309 x86319 x86320 x86321 x86322) d hw w2 w3 0 rfl rfl hcs hsl hcat (fun r w hp => ?_) (fun _ _ _ z => z.elim)
  refine Exists.elim hp fun o80890 hp => ?_
  refine Exists.elim hp fun o80823 hp => ?_
  refine Exists.elim hp fun o80824 hp => ?_
  refine Exists.elim hp fun o80825 hp => ?_
  refine Exists.elim hp fun o80826 hp => ?_
  refine Exists.elim hp fun o80827 hp => ?_
  refine Exists.elim hp fun ol80828 hp => ?_
  refine Exists.elim hp fun o80829 hp => ?_
  refine Exists.elim hp fun o80830 hp => ?_
  refine Exists.elim hp fun o80831 hp => ?_
  refine Exists.elim hp fun o80832 hp => ?_
  refine Exists.elim hp fun o80833 hp => ?_
  refine Exists.elim hp fun o80834 hp => ?_
  refine Exists.elim hp fun o80835 hp => ?_
  refine Exists.elim hp fun o80836 hp => ?_
  refine Exists.elim hp fun o80837 hp => ?_
  refine Exists.elim hp fun o80838 hp => ?_
  refine Exists.elim hp fun o80839 hp => ?_
  refine Exists.elim hp fun o80840 hp => ?_
  refine Exists.elim hp fun o80841 hp => ?_
  refine Exists.elim hp fun f80842 hp => ?_
  refine Exists.elim hp fun f80843 hp => ?_
  refine Exists.elim hp fun f80844 hp => ?_
  refine Exists.elim hp fun f80845 hp => ?_
  refine Exists.elim hp fun f80846 hp => ?_
  refine Exists.elim hp fun f80847 hp => ?_
  refine Exists.elim hp fun f80848 hp => ?_
  refine Exists.elim hp fun f80849 hp => ?_
  refine Exists.elim hp fun f80850 hp => ?_
  refine Exists.elim hp fun f80851 hp => ?_
  refine Exists.elim hp fun o80852 hp => ?_
  refine Exists.elim hp fun o80853 hp => ?_
  refine Exists.elim hp fun o80854 hp => ?_
  refine Exists.elim hp fun o80855 hp => ?_
  refine Exists.elim hp fun o80856 hp => ?_
  refine Exists.elim hp fun o80857 hp => ?_
  refine Exists.elim hp fun f80858 hp => ?_
  refine Exists.elim hp fun f80859 hp => ?_
  refine Exists.elim hp fun f80860 hp => ?_
  refine Exists.elim hp fun o80861 hp => ?_
  refine Exists.elim hp fun o80862 hp => ?_
  refine Exists.elim hp fun f80863 hp => ?_
  refine Exists.elim hp fun f80864 hp => ?_
  refine Exists.elim hp fun f80865 hp => ?_
  refine Exists.elim hp fun f80866 hp => ?_
  refine Exists.elim hp fun o80867 hp => ?_
  refine Exists.elim hp fun o80868 hp => ?_
  refine Exists.elim hp fun o80869 hp => ?_
  refine Exists.elim hp fun o80870 hp => ?_
  refine Exists.elim hp fun o80871 hp => ?_
  refine Exists.elim hp fun o80872 hp => ?_
  refine Exists.elim hp fun f80873 hp => ?_
  refine Exists.elim hp fun f80874 hp => ?_
  refine Exists.elim hp fun f80875 hp => ?_
  refine Exists.elim hp fun f80876 hp => ?_
  refine Exists.elim hp fun f80877 hp => ?_
  refine Exists.elim hp fun f80878 hp => ?_
  refine Exists.elim hp fun f80879 hp => ?_
  refine Exists.elim hp fun f80880 hp => ?_
  refine Exists.elim hp fun f80881 hp => ?_
  refine Exists.elim hp fun f80882 hp => ?_
  refine Exists.elim hp fun f80883 hp => ?_
  refine Exists.elim hp fun f80884 hp => ?_
  refine Exists.elim hp fun f80885 hp => ?_
  refine Exists.elim hp fun f80886 hp => ?_
  refine Exists.elim hp fun f80887 hp => ?_
  refine Exists.elim hp fun f80888 hp => ?_
  refine Exists.elim hp fun f80889 hp => ?_
  obtain ⟨rfl, rfl, y0, y1, y2, y3, y4, y5, y6, y7, y8, y9, y10, y11, y12, y13, y14, y15, y16, y17, y18, y19, y20, y21, y22, y23, y24, y25, y26, y27, y28, y29, y30, y31, y32, y33, y34, y35, y36, y37, y38, y39, y40, y41, y42, y43, y44, y45, y46, y47, y48, y49, y50, y51, y52, y53, y54, y55, y56, y57, y58, y59, y60, y61, y62, y63, y64⟩ := hp
  have ht := tx_tr bp86220.1 bp86220.2 y64
  rw [hsz] at ht
  exact kk _ o80890 ((ff 0), o80823, o80835, f80860, f80863, f80864, f80865, o80836, f80843, f80844, f80845, f80846, f80847, f80848, f80849, f80850, f80851, o80857, o80867, o80868, f80877, f80878, f80879, f80880, f80881, f80882, f80883, f80884, f80885, (ff 17), (pp 20), (pp 22), (pp 23), (pp 24), (pp 25), (pp 26), (ff 20), (pp 27), (ff 21)) ⟨qq, (fun j => [o80823, o80824, o80825, o80826, o80827, o80829, o80830, o80831, o80832, o80833, o80834, o80835, o80836, o80837, o80852, o80853, o80854, o80855, o80856, o80857, (pp 20), (pp 21), (pp 22), (pp 23), (pp 24), (pp 25), (pp 26), (pp 27), o80838, o80839, o80840, o80841, o80861, o80862, (pp 34), (pp 35), o80867, o80868, o80869, (pp 39), (pp 40), (pp 41), o80870, o80871, o80872].getD j 0), (fun j => [(ff 0), f80842, f80843, f80844, f80845, f80846, f80847, f80848, f80849, f80850, f80851, f80860, f80863, f80864, f80865, f80866, (ff 16), (ff 17), (ff 18), (ff 19), (ff 20), (ff 21), f80875, f80876, (ff 24), (ff 25), (ff 26), (ff 27), f80877, f80878, f80879, f80880, f80881, f80882, f80883, f80884, f80885, (ff 37), (ff 38), (ff 39), (ff 40), (ff 41), (ff 42), (ff 43), (ff 44), (ff 45)].getD j (fun _ => 0)), (fun j => [f80858, f80859, f80873, f80874, f80886, f80887, f80888, f80889].getD j (fun _ => 0)), (fun j => [ol80828].getD j 0), rfl, y1, y2, y8, y12, y13, y14, y29, y34, bp86240, bp86241, bp86243, bp86245, bp86247, bf86248, y20, y23, y36, y37, bp86268, bp86269, y42, y43, y44, bp86278, bp86279, bp86280, bf86285, y45, y46, y47, bf86294, bf86295, y50, y53, bf86306, bf86309, y60, y61, y62, y63, (show (o80824).toInt = 0 by omega), rfl⟩ (ht.2.imp (fun q => ⟨q.1, q.2.2.elim fun P r => ⟨P, r.1, r.2.1.1, r.2.2, r.2.1⟩⟩) (fun q => ⟨q.1, q.2.2⟩)) (tx_g y64)
end
