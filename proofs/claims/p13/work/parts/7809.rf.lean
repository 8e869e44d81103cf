section
theorem dr_cX17_merge_0 : decode cX17_merge 0 = .ok (.iconst 0, 1) := by decide +kernel
theorem dr_cX17_merge_1 : decode cX17_merge 1 = .ok (.istore_n 3, 1) := by decide +kernel
theorem dr_cX17_merge_2 : decode cX17_merge 2 = .ok (.iload_n 3, 1) := by decide +kernel
theorem dr_cX17_merge_3 : decode cX17_merge 3 = .ok (.aload_n 1, 1) := by decide +kernel
theorem dr_cX17_merge_4 : decode cX17_merge 4 = .ok (.invokevirtual 96, 3) := by decide +kernel
theorem dr_cX17_merge_7 : decode cX17_merge 7 = .ok (.if_icmp .ge 171, 3) := by decide +kernel
theorem dr_cX17_merge_178 : decode cX17_merge 178 = .ok (.iconst 0, 1) := by decide +kernel
theorem dr_cX17_merge_179 : decode cX17_merge 179 = .ok (.ireturn, 1) := by decide +kernel
theorem dr_cX17_merge_10 : decode cX17_merge 10 = .ok (.aload_n 1, 1) := by decide +kernel
theorem dr_cX17_merge_11 : decode cX17_merge 11 = .ok (.iload_n 3, 1) := by decide +kernel
theorem dr_cX17_merge_12 : decode cX17_merge 12 = .ok (.invokevirtual 101, 3) := by decide +kernel
theorem dr_cX17_merge_15 : decode cX17_merge 15 = .ok (.astore 4, 2) := by decide +kernel
theorem dr_cX17_merge_17 : decode cX17_merge 17 = .ok (.iconst 0, 1) := by decide +kernel
theorem dr_cX17_merge_18 : decode cX17_merge 18 = .ok (.istore 5, 2) := by decide +kernel
theorem dr_cX17_merge_20 : decode cX17_merge 20 = .ok (.iload 5, 2) := by decide +kernel
theorem dr_cX17_merge_22 : decode cX17_merge 22 = .ok (.aload 4, 2) := by decide +kernel
theorem dr_cX17_merge_24 : decode cX17_merge 24 = .ok (.getfield 117, 3) := by decide +kernel
theorem dr_cX17_merge_27 : decode cX17_merge 27 = .ok (.invokevirtual 121, 3) := by decide +kernel
theorem dr_cX17_merge_30 : decode cX17_merge 30 = .ok (.if_icmp .ge 142, 3) := by decide +kernel
theorem dr_cX17_merge_172 : decode cX17_merge 172 = .ok (.iinc 3 1, 3) := by decide +kernel
theorem dr_cX17_merge_175 : decode cX17_merge 175 = .ok (.goto (-173), 3) := by decide +kernel
theorem dr_cX17_merge_33 : decode cX17_merge 33 = .ok (.aload 4, 2) := by decide +kernel
theorem dr_cX17_merge_35 : decode cX17_merge 35 = .ok (.getfield 117, 3) := by decide +kernel
theorem dr_cX17_merge_38 : decode cX17_merge 38 = .ok (.iload 5, 2) := by decide +kernel
theorem dr_cX17_merge_40 : decode cX17_merge 40 = .ok (.invokevirtual 124, 3) := by decide +kernel
theorem dr_cX17_merge_43 : decode cX17_merge 43 = .ok (.checkcast 40, 3) := by decide +kernel
theorem dr_cX17_merge_46 : decode cX17_merge 46 = .ok (.astore 6, 2) := by decide +kernel
theorem dr_cX17_merge_48 : decode cX17_merge 48 = .ok (.aload 6, 2) := by decide +kernel
theorem dr_cX17_merge_50 : decode cX17_merge 50 = .ok (.getfield 39, 3) := by decide +kernel
theorem dr_cX17_merge_53 : decode cX17_merge 53 = .ok (.ifCond .ne 113, 3) := by decide +kernel
theorem dr_cX17_merge_166 : decode cX17_merge 166 = .ok (.iinc 5 1, 3) := by decide +kernel
theorem dr_cX17_merge_169 : decode cX17_merge 169 = .ok (.goto (-149), 3) := by decide +kernel
theorem dr_cX17_merge_56 : decode cX17_merge 56 = .ok (.aload 6, 2) := by decide +kernel
theorem dr_cX17_merge_58 : decode cX17_merge 58 = .ok (.getfield 141, 3) := by decide +kernel
theorem dr_cX17_merge_61 : decode cX17_merge 61 = .ok (.ifCond .eq 105, 3) := by decide +kernel
theorem dr_cX17_merge_64 : decode cX17_merge 64 = .ok (.aload 6, 2) := by decide +kernel
theorem dr_cX17_merge_66 : decode cX17_merge 66 = .ok (.getfield 52, 3) := by decide +kernel
theorem dr_cX17_merge_69 : decode cX17_merge 69 = .ok (.aload 6, 2) := by decide +kernel
theorem dr_cX17_merge_71 : decode cX17_merge 71 = .ok (.getfield 73, 3) := by decide +kernel
theorem dr_cX17_merge_74 : decode cX17_merge 74 = .ok (.if_icmp .eq 24, 3) := by decide +kernel
theorem dr_cX17_merge_98 : decode cX17_merge 98 = .ok (.aload 6, 2) := by decide +kernel
theorem dr_cX17_merge_100 : decode cX17_merge 100 = .ok (.getfield 52, 3) := by decide +kernel
theorem dr_cX17_merge_103 : decode cX17_merge 103 = .ok (.aload 6, 2) := by decide +kernel
theorem dr_cX17_merge_105 : decode cX17_merge 105 = .ok (.getfield 73, 3) := by decide +kernel
theorem dr_cX17_merge_108 : decode cX17_merge 108 = .ok (.invokestatic 164, 3) := by decide +kernel
theorem dr_cX17_merge_111 : decode cX17_merge 111 = .ok (.istore 7, 2) := by decide +kernel
theorem dr_cX17_merge_113 : decode cX17_merge 113 = .ok (.aload 6, 2) := by decide +kernel
theorem dr_cX17_merge_115 : decode cX17_merge 115 = .ok (.getfield 52, 3) := by decide +kernel
theorem dr_cX17_merge_118 : decode cX17_merge 118 = .ok (.aload 6, 2) := by decide +kernel
theorem dr_cX17_merge_120 : decode cX17_merge 120 = .ok (.getfield 73, 3) := by decide +kernel
theorem dr_cX17_merge_123 : decode cX17_merge 123 = .ok (.invokestatic 189, 3) := by decide +kernel
theorem wr_11_21 : (Jvm.Cond.methodLink "SpillForgeModel" (189 : Nat) ({ cls := "java/lang/Math", name := "max", desc := "(II)I" } : Jvm.MethodName)) ∈ gw := gw_11 21 rfl rfl
theorem dr_cX17_merge_126 : decode cX17_merge 126 = .ok (.istore 8, 2) := by decide +kernel
theorem dr_cX17_merge_128 : decode cX17_merge 128 = .ok (.aload 4, 2) := by decide +kernel
theorem dr_cX17_merge_130 : decode cX17_merge 130 = .ok (.getfield 117, 3) := by decide +kernel
theorem dr_cX17_merge_133 : decode cX17_merge 133 = .ok (.iload 5, 2) := by decide +kernel
theorem dr_cX17_merge_135 : decode cX17_merge 135 = .ok (.invokevirtual 192, 3) := by decide +kernel
theorem wr_11_22 : (Jvm.Cond.methodLink "SpillForgeModel" (192 : Nat) ({ cls := "java/util/ArrayList", name := "remove", desc := "(I)Ljava/lang/Object;" } : Jvm.MethodName)) ∈ gw := gw_11 22 rfl rfl
theorem wr_11_25 : (Jvm.Cond.code ({ cls := "java/util/ArrayList", name := "remove", desc := "(I)Ljava/lang/Object;" } : Jvm.MethodName) prog_43_method_29_code (4 : Nat) (Option.some (Jvm.ClassFile.FieldType.object "java/lang/Object"))) ∈ gw := gw_11 25 rfl rfl
theorem wr_11_23 : (Jvm.Cond.instanceMethod ({ cls := "java/util/ArrayList", name := "remove", desc := "(I)Ljava/lang/Object;" } : Jvm.MethodName)) ∈ gw := gw_11 23 rfl rfl
theorem wr_11_24 : (Jvm.Cond.selects "java/util/ArrayList" ({ cls := "java/util/ArrayList", name := "remove", desc := "(I)Ljava/lang/Object;" } : Jvm.MethodName) ({ cls := "java/util/ArrayList", name := "remove", desc := "(I)Ljava/lang/Object;" } : Jvm.MethodName)) ∈ gw := gw_11 24 rfl rfl
theorem dr_cX17_merge_138 : decode cX17_merge 138 = .ok (.pop, 1) := by decide +kernel
theorem dr_cX17_merge_139 : decode cX17_merge 139 = .ok (.aload_n 0, 1) := by decide +kernel
theorem dr_cX17_merge_140 : decode cX17_merge 140 = .ok (.dup, 1) := by decide +kernel
theorem dr_cX17_merge_141 : decode cX17_merge 141 = .ok (.getfield 195, 3) := by decide +kernel
theorem wr_7_87 : (Jvm.Cond.fieldLink "SpillForgeModel" (195 : Nat) "SpillForgeModel" "merged" "I") ∈ gw := gw_7 87 rfl rfl
theorem dr_cX17_merge_144 : decode cX17_merge 144 = .ok (.iconst 1, 1) := by decide +kernel
theorem dr_cX17_merge_145 : decode cX17_merge 145 = .ok (.iadd, 1) := by decide +kernel
theorem dr_cX17_merge_146 : decode cX17_merge 146 = .ok (.putfield 195, 3) := by decide +kernel
theorem dr_cX17_merge_149 : decode cX17_merge 149 = .ok (.iload 7, 2) := by decide +kernel
theorem dr_cX17_merge_151 : decode cX17_merge 151 = .ok (.iload 8, 2) := by decide +kernel
theorem dr_cX17_merge_153 : decode cX17_merge 153 = .ok (.if_icmp .eq 11, 3) := by decide +kernel
theorem dr_cX17_merge_164 : decode cX17_merge 164 = .ok (.iconst 1, 1) := by decide +kernel
theorem dr_cX17_merge_165 : decode cX17_merge 165 = .ok (.ireturn, 1) := by decide +kernel
theorem dr_cX17_merge_156 : decode cX17_merge 156 = .ok (.aload_n 1, 1) := by decide +kernel
theorem dr_cX17_merge_157 : decode cX17_merge 157 = .ok (.iload 8, 2) := by decide +kernel
theorem dr_cX17_merge_159 : decode cX17_merge 159 = .ok (.iload 7, 2) := by decide +kernel
theorem dr_cX17_merge_161 : decode cX17_merge 161 = .ok (.invokestatic 198, 3) := by decide +kernel
theorem wr_11_30 : (Jvm.Cond.methodLink "SpillForgeModel" (198 : Nat) ({ cls := "SpillForgeModel", name := "rename", desc := "(LSpillForgeModel$Code;II)V" } : Jvm.MethodName)) ∈ gw := gw_11 30 rfl rfl
theorem wr_11_32 : (Jvm.Cond.code ({ cls := "SpillForgeModel", name := "rename", desc := "(LSpillForgeModel$Code;II)V" } : Jvm.MethodName) prog_14_method_19_code (7 : Nat) (Option.none : Option Jvm.ClassFile.FieldType)) ∈ gw := gw_11 32 rfl rfl
theorem wr_11_31 : (Jvm.Cond.static ({ cls := "SpillForgeModel", name := "rename", desc := "(LSpillForgeModel$Code;II)V" } : Jvm.MethodName)) ∈ gw := gw_11 31 rfl rfl
theorem dr_cX17_merge_77 : decode cX17_merge 77 = .ok (.aload_n 0, 1) := by decide +kernel
theorem dr_cX17_merge_78 : decode cX17_merge 78 = .ok (.aload 6, 2) := by decide +kernel
theorem dr_cX17_merge_80 : decode cX17_merge 80 = .ok (.getfield 52, 3) := by decide +kernel
theorem dr_cX17_merge_83 : decode cX17_merge 83 = .ok (.aload 6, 2) := by decide +kernel
theorem dr_cX17_merge_85 : decode cX17_merge 85 = .ok (.getfield 73, 3) := by decide +kernel
theorem dr_cX17_merge_88 : decode cX17_merge 88 = .ok (.iload_n 2, 1) := by decide +kernel
theorem dr_cX17_merge_89 : decode cX17_merge 89 = .ok (.invokevirtual 185, 3) := by decide +kernel
theorem wr_11_12 : (Jvm.Cond.methodLink "SpillForgeModel" (185 : Nat) ({ cls := "SpillForgeModel", name := "mayMerge", desc := "(III)Z" } : Jvm.MethodName)) ∈ gw := gw_11 12 rfl rfl
theorem wr_11_15 : (Jvm.Cond.code ({ cls := "SpillForgeModel", name := "mayMerge", desc := "(III)Z" } : Jvm.MethodName) prog_14_method_18_code (8 : Nat) (Option.some Jvm.ClassFile.FieldType.boolean)) ∈ gw := gw_11 15 rfl rfl
theorem wr_11_14 : (Jvm.Cond.instanceMethod ({ cls := "SpillForgeModel", name := "mayMerge", desc := "(III)Z" } : Jvm.MethodName)) ∈ gw := gw_11 14 rfl rfl
theorem wr_p_102 : Cond.selects "SpillForgeModel" ⟨"SpillForgeModel", "mayMerge", "(III)Z"⟩ ⟨"SpillForgeModel", "mayMerge", "(III)Z"⟩ ∈ gw := gw_p _ 102 rfl rfl rfl
theorem dr_cX17_merge_92 : decode cX17_merge 92 = .ok (.ifCond .ne 6, 3) := by decide +kernel
theorem dr_cX17_merge_95 : decode cX17_merge 95 = .ok (.goto 71, 3) := by decide +kernel
end
section
/-! exact bits: clear; what back does -/
theorem rbt_clr {f f2 : Nat → Int64} {i z : Int32} {u v w x : Int64} (hz : z.toInt = i.toInt / 64) (hu : u = f z.toNatClampNeg) (hv : v = 1 <<< (i.toInt64 &&& 63)) (hx : x = v ^^^ (-1)) (hw : w = u &&& x) (hf : f2 = vp_updL f z.toNatClampNeg w) (h0 : 0 ≤ i.toInt) : ∀ k : Nat, rbt f2 k = (rbt f k && !decide ((k : Int) = i.toInt)) := fun k => by
  have hzn : (z.toNatClampNeg : Int) = z.toInt := g_nn (by omega)
  have hm1 : ∀ j : Fin 64, ((-1 : Int64)).toBitVec.getLsbD j.val = true := by decide +kernel
  rw [rbt_updL hf]
  split
  · next e =>
    rw [hw, Int64.toBitVec_and, BitVec.getLsbD_and, hu, ← e]
    show (rbt f k && _) = _
    congr 1
    rw [hx, Int64.toBitVec_xor, BitVec.getLsbD_xor, hm1 ⟨k % 64, by omega⟩, hv, lb_Qcnt i h0]
    have h2 : ((1 : Int64) <<< (Int64.ofNat (i.toInt.toNat % 64 % 64))).toBitVec.getLsbD (k % 64) = decide (k % 64 = i.toInt.toNat % 64) := r1_bit ⟨i.toInt.toNat % 64, by omega⟩ ⟨k % 64, by omega⟩
    rw [Nat.mod_mod] at h2
    rw [h2]
    have h3 : decide (k % 64 = i.toInt.toNat % 64) = decide ((k : Int) = i.toInt) := by
      apply decide_eq_decide.mpr
      omega
    rw [h3]
    cases decide ((k : Int) = i.toInt) <;> rfl
  · next e =>
    have hne : ¬ (k : Int) = i.toInt := fun c => e (by omega)
    rw [decide_eq_false hne, Bool.not_false, Bool.and_true]
theorem bkS_of {e : va_E} {op t a b s ra rb : Int32} {sl : Bool} {S : Nat → Bool} {k : Nat} (he : e = .inr (20, [.int op, .int t, .int a, .int b, .int s, .int ra, .int rb])) : bkS e sl S k = bkV sl op.toInt t.toInt a.toInt b.toInt s.toInt ra.toInt rb.toInt S k := by
  rw [he]
  rfl
/-- the set behind a row without slots: c1 cleared, ca, cb set -/
theorem bk_n {op t a b s ra rb : Int} {S : Nat → Bool} {k : Nat} {x : Bool} (c1 ca cb : Bool) (h1 : decide (op ≤ 21) = c1) (ha : decide (op ≠ 20 ∧ op ≠ 21 ∧ op ≠ 30 ∧ ra = 1) = ca) (hb : decide (0 < op ∧ op < 20 ∧ rb = 1) = cb)
    (hx : x = (((S k && !(c1 && decide ((k : Int) = t))) || (ca && decide ((k : Int) = a))) || (cb && decide ((k : Int) = b)))) : x = bkV false op t a b s ra rb S k := by
  rw [hx]
  unfold bkV
  rw [if_neg (by decide), h1, ha, hb]
theorem bk_s {op t a b s ra rb : Int} {S : Nat → Bool} {k : Nat} {x : Bool} (c1 ca : Bool) (h1 : decide (op = 23) = c1) (ha : decide (op = 21) = ca)
    (hx : x = ((S k && !(c1 && decide ((k : Int) = s))) || (ca && decide ((k : Int) = s)))) : x = bkV true op t a b s ra rb S k := by
  rw [hx]
  unfold bkV
  rw [if_pos rfl, h1, ha]
/-- the rows of live, by bits; what lies behind a block -/
def lvS (γ : Nat → Nat → Nat) (F : Nat → va_E) : Nat → Nat → Bool := fun b k => rbt (cL (F (γ 10 b))) k
def wyV (w f s : Int) (L : Nat → Nat → Bool) (k : Nat) : Bool := (decide (0 < w) && L f.toNat k) || (decide (1 < w) && L s.toNat k)
def bhV (op f s : Int) (L : Nat → Nat → Bool) (k : Nat) : Bool := if op = 32 then false else if op = 30 ∨ f = s then L f.toNat k else (L f.toNat k || L s.toNat k)
def rLv (γ : Nat → Nat → Nat) (F F1 : Nat → va_E) : Prop := ∀ i, i < 40 → F1 (γ 10 i) = F (γ 10 i)
theorem rLv_rf {γ : Nat → Nat → Nat} {F : Nat → va_E} : rLv γ F F := fun _ _ => rfl
theorem RS_live {D : va_G} {I : FieldType → ClassId} {P : List Nat} {F : Nat → va_E} {γ el : Nat → Nat → Nat} {a i : Nat} (hT : RS D I P F γ el) (h : rKd γ a 12) (hi : i < 40) : rKd γ (γ 10 i) 11 := by
  obtain ⟨g, g1, g2⟩ := show rk_12 I γ (F a) from RS_o hT h
  exact (g2 i hi).2.1
theorem rLv_put {D : va_G} {I : FieldType → ClassId} {P : List Nat} {F F1 F2 : Nat → va_E} {γ el : Nat → Nat → Nat} {a b k : Nat} (hT : RS D I P F1 γ el) (h : rKd γ a 12) (g : rLv γ F F1) (n : ∀ c, c ≠ b → F2 c = F1 c) (hb : rKd γ b k) (hk : k ≠ 11) : rLv γ F F2 := fun i hi => (n _ (rn_ty (RS_live hT h hi) hb (by omega))).trans (g i hi)
theorem zr_st {f f2 : Nat → Int64} {i z : Int32} (hf : f2 = vp_updL f z.toNatClampNeg 0) (h : ∀ j : Nat, (j : Int) < z.toInt → f j = 0) (e : i.toInt = z.toInt + 1) (h0 : 0 ≤ z.toInt) : ∀ j : Nat, (j : Int) < i.toInt → f2 j = 0 := fun j hj => by
  have hzn : (z.toNatClampNeg : Int) = z.toInt := g_nn h0
  subst hf
  show (if j = z.toNatClampNeg then 0 else f j) = 0
  split
  · rfl
  · exact h j (by omega)
theorem rbt_z {f : Nat → Int64} {k : Nat} (h : f (k / 64) = 0) : rbt f k = false := by
  have h0 : ∀ j : Fin 64, (0 : Int64).toBitVec.getLsbD j.val = false := by decide +kernel
  unfold rbt
  rw [h]
  exact h0 ⟨k % 64, by omega⟩
theorem wy_0 {f s : Int} {L : Nat → Nat → Bool} {k : Nat} : wyV 0 f s L k = false := rfl
theorem wy_s {w f s y : Int} {L : Nat → Nat → Bool} {k : Nat} (h : (w = 0 ∧ y = f) ∨ (w = 1 ∧ y = s)) : wyV (w + 1) f s L k = (wyV w f s L k || L y.toNat k) := by
  unfold wyV
  rcases h with ⟨rfl, rfl⟩ | ⟨rfl, rfl⟩
  · simp
  · simp
/-- one more word -/
theorem or_st {f f2 g : Nat → Int64} {i z : Int32} {u v w : Int64} {A B : Nat → Bool} (hu : u = f z.toNatClampNeg) (hv : v = g z.toNatClampNeg) (hw : w = u ||| v) (hf : f2 = vp_updL f z.toNatClampNeg w) (h0 : 0 ≤ z.toInt) (e : i.toInt = z.toInt + 1)
    (h : ∀ k : Nat, k < 2048 → rbt f k = if (k : Int) < 64 * z.toInt then A k else B k) (hA : ∀ k : Nat, A k = (B k || rbt g k)) : ∀ k : Nat, k < 2048 → rbt f2 k = if (k : Int) < 64 * i.toInt then A k else B k := fun k hk => by
  have hzn : (z.toNatClampNeg : Int) = z.toInt := g_nn h0
  have h1 := h k hk
  rw [rbt_updL hf]
  split
  · next q =>
    rw [hw, Int64.toBitVec_or, BitVec.getLsbD_or, hu, hv, ← q]
    show (rbt f k || rbt g k) = _
    rw [h1, if_neg (by omega), if_pos (by omega), hA]
  · next q =>
    rw [h1]
    by_cases c : (k : Int) < 64 * z.toInt
    · rw [if_pos c, if_pos (by omega)]
    · rw [if_neg c, if_neg (by omega)]
theorem bh_of {op f s w : Int} {L : Nat → Nat → Bool} {k : Nat} (h : (w = 0 ∧ op = 32) ∨ (w = 1 ∧ op ≠ 32 ∧ (op = 30 ∨ f = s)) ∨ (w = 2 ∧ op ≠ 32 ∧ op ≠ 30 ∧ f ≠ s)) : wyV w f s L k = bhV op f s L k := by
  unfold bhV
  rcases h with ⟨rfl, h⟩ | ⟨rfl, h, g⟩ | ⟨rfl, h, g, e⟩
  · rw [if_pos h]; rfl
  · rw [if_neg h, if_pos g]; unfold wyV; simp
  · rw [if_neg h, if_neg (fun z => z.elim g e)]; unfold wyV; simp
end
section
/-! findLive: live only grows -/
def lvM (γ : Nat → Nat → Nat) (F : Nat → va_E) : Nat → Nat → Bool := fun i k => decide (i < 40 ∧ k < 2048) && lvS γ F i k
theorem lvM_e {γ : Nat → Nat → Nat} {F : Nat → va_E} {i k : Nat} (hi : i < 40) (hk : k < 2048) : lvM γ F i k = lvS γ F i k := by
  unfold lvM
  rw [decide_eq_true ⟨hi, hk⟩, Bool.true_and]
theorem lvM_t {γ : Nat → Nat → Nat} {F : Nat → va_E} {i k : Nat} (h : lvM γ F i k = true) : i < 40 ∧ k < 2048 ∧ lvS γ F i k = true := by
  unfold lvM at h
  rw [Bool.and_eq_true, decide_eq_true_eq] at h
  exact ⟨h.1.1, h.1.2, h.2⟩
theorem bhV_mono {op f s : Int} {L L' : Nat → Nat → Bool} {k : Nat} (h : ∀ i k, L i k = true → L' i k = true) : bhV op f s L k = true → bhV op f s L' k = true := by
  unfold bhV
  split
  · exact id
  · split
    · exact h _ _
    · rw [Bool.or_eq_true, Bool.or_eq_true]
      exact fun z => z.imp (h _ _) (h _ _)
/-- what is alive at the beginning of block b, if L is what is at the beginnings -/
def trS (γ el : Nat → Nat → Nat) (F : Nat → va_E) (sl : Bool) (b : Nat) (L : Nat → Nat → Bool) (d : Nat) : Nat → Bool := rfo (fun j => F (el (γ 14 b) j)) sl (γ 2 (γ 14 b)) (bkS (F (γ 15 b)) sl (bhV (fI (F (γ 15 b)) 0).toInt (fI (F b) 2).toInt (fI (F b) 3).toInt L)) d
theorem trS_mono {γ el : Nat → Nat → Nat} {F : Nat → va_E} {sl : Bool} {b d k : Nat} {L L' : Nat → Nat → Bool} (h : ∀ i k, L i k = true → L' i k = true) : trS γ el F sl b L d k = true → trS γ el F sl b L' d k = true := rfo_mono (fun k => bkS_mono (fun k => bhV_mono h) k) d k
def rJv (γ el : Nat → Nat → Nat) (F F1 : Nat → va_E) (c : Nat) (sl : Bool) (n : Nat) : Prop := ∀ i, i < n → ∀ k, lvM γ F1 i k = true → trS γ el F sl (el (γ 14 c) i) (lvM γ F1) (γ 2 (γ 14 (el (γ 14 c) i))) k = true
theorem rJv_0 {γ el : Nat → Nat → Nat} {F F1 : Nat → va_E} {c n : Nat} {sl : Bool} (h : ∀ i, i < n → ∀ j, j < 32 → cL (F1 (γ 10 i)) j = 0) : rJv γ el F F1 c sl n := fun i hi k hk => by
  obtain ⟨h1, h2, h3⟩ := lvM_t hk
  unfold lvS at h3
  rw [rbt_z (h i hi (k / 64) (by omega))] at h3
  cases h3
theorem rJv_s {γ el : Nat → Nat → Nat} {F F1 F2 : Nat → va_E} {c n i0 : Nat} {sl : Bool} (h : rJv γ el F F1 c sl n) (hi0 : i0 < n) (h40 : i0 < 40) (hn : ∀ i, i < 40 → i ≠ i0 → F2 (γ 10 i) = F1 (γ 10 i)) (hr : ∀ k, k < 2048 → lvS γ F2 i0 k = trS γ el F sl (el (γ 14 c) i0) (lvM γ F1) (γ 2 (γ 14 (el (γ 14 c) i0))) k) : rJv γ el F F2 c sl n := by
  have hle : ∀ i k, lvM γ F1 i k = true → lvM γ F2 i k = true := fun i k hk => by
    obtain ⟨h1, h2, h3⟩ := lvM_t hk
    rw [lvM_e h1 h2]
    by_cases q : i = i0
    · subst q
      rw [hr k h2]
      exact h i hi0 k hk
    · unfold lvS at h3 ⊢
      rw [hn i h1 q]
      exact h3
  intro i hi k hk
  obtain ⟨h1, h2, h3⟩ := lvM_t hk
  by_cases q : i = i0
  · subst q
    rw [hr k h2] at h3
    exact trS_mono hle h3
  · refine trS_mono hle (h i hi k ?_)
    rw [lvM_e h1 h2]
    unfold lvS at h3 ⊢
    rw [← hn i h1 q]
    exact h3
/-- bits of all rows of live -/
def lvT (γ : Nat → Nat → Nat) (F : Nat → va_E) : Nat := rsum (fun i => rsum (fun j => rpop (cL (F (γ 10 i)) j)) 32) 40
theorem lvT_le {γ : Nat → Nat → Nat} {F : Nat → va_E} : lvT γ F ≤ 81920 := by
  have h1 : ∀ i, i < 40 → rsum (fun j => rpop (cL (F (γ 10 i)) j)) 32 ≤ 2048 := fun i _ => by
    have := rsum_b (f := fun j => rpop (cL (F (γ 10 i)) j)) (B := 64) 32 (fun j _ => rpop_le _)
    omega
  have := rsum_b (f := fun i => rsum (fun j => rpop (cL (F (γ 10 i)) j)) 32) (B := 2048) 40 h1
  unfold lvT
  omega
theorem lvT_u {γ : Nat → Nat → Nat} {F F1 : Nat → va_E} {f f2 : Nat → Int64} {i z : Nat} {w : Int64} (hi : i < 40) (hz : z < 32) (hn : ∀ j, j < 40 → j ≠ i → F1 (γ 10 j) = F (γ 10 j)) (h : cL (F (γ 10 i)) = f) (h1 : cL (F1 (γ 10 i)) = f2) (hf : f2 = vp_updL f z w) : lvT γ F1 + rpop (f z) = lvT γ F + rpop w := by
  have u := rsum_u (f := fun i => rsum (fun j => rpop (cL (F (γ 10 i)) j)) 32) (g := fun i => rsum (fun j => rpop (cL (F1 (γ 10 i)) j)) 32) 40 hi (fun j hj hne => by show rsum _ 32 = rsum _ 32; rw [hn j hj hne])
  have v := rsum_u (f := fun j => rpop (f j)) (g := fun j => rpop (f2 j)) 32 hz (fun j hj hne => by show rpop (f2 j) = _; rw [hf]; unfold vp_updL; rw [if_neg hne])
  have e : f2 z = w := by rw [hf]; unfold vp_updL; rw [if_pos rfl]
  rw [h, h1] at u
  rw [e] at v
  unfold lvT
  omega
theorem rpop_sub {x y : Int64} (h : ∀ j, j < 64 → x.toBitVec.getLsbD j = true → y.toBitVec.getLsbD j = true) : rpop x ≤ rpop y := by
  refine rpopN_mono (fun i hi => ?_) 64
  by_cases q : i < 64
  · exact h i q hi
  · rw [BitVec.getLsbD_of_ge _ _ (by omega)] at hi
    cases hi
theorem rpop_slt {x y : Int64} (h : ∀ j, j < 64 → x.toBitVec.getLsbD j = true → y.toBitVec.getLsbD j = true) (hne : x ≠ y) : rpop x + 1 ≤ rpop y := by
  have hx : ∃ j, j < 64 ∧ x.toBitVec.getLsbD j = false ∧ y.toBitVec.getLsbD j = true := Classical.byContradiction (fun hc => hne (by
    apply Int64.toBitVec.inj
    apply BitVec.eq_of_getLsbD_eq
    intro j hj
    cases hxj : x.toBitVec.getLsbD j with
    | true => rw [h j hj hxj]
    | false =>
      cases hyj : y.toBitVec.getLsbD j with
      | false => rfl
      | true => exact absurd ⟨j, hj, hxj, hyj⟩ hc))
  obtain ⟨j, hj, h1, h2⟩ := hx
  refine rpopN_lt (fun i hi => ?_) h1 h2 64 hj
  by_cases q : i < 64
  · exact h i q hi
  · rw [BitVec.getLsbD_of_ge _ _ (by omega)] at hi
    cases hi
theorem rbt_w {f : Nat → Int64} {z j : Nat} (h : j < 64) : rbt f (64 * z + j) = (f z).toBitVec.getLsbD j := by
  unfold rbt
  rw [show (64 * z + j) / 64 = z by omega, show (64 * z + j) % 64 = j by omega]
theorem rLv_fr {D : va_G} {I : FieldType → ClassId} {P : List Nat} {F F1 F2 : Nat → va_E} {γ el : Nat → Nat → Nat} {a b k : Nat} (hT : RS D I P F1 γ el) (h : rKd γ a 12) (g : rLv γ F F1) (n : rFr [b] P F1 F2) (hb : rKd γ b k) (hk : k ≠ 11) : rLv γ F F2 := fun i hi => (n _ (RS_m hT (RS_live hT h hi) (by decide)) (nm_c (rn_ty (RS_live hT h hi) hb (by omega)) nm_n)).trans (g i hi)
section GLV2
variable {γ el : Nat → Nat → Nat} {F F1 F2 : Nat → va_E} {c n b : Nat} {sl : Bool}
theorem lvS_l (h : rLv γ F1 F2) {i k : Nat} (hi : i < 40) : lvS γ F2 i k = lvS γ F1 i k := by unfold lvS; rw [h i hi]
theorem lvM_l (h : rLv γ F1 F2) : lvM γ F2 = lvM γ F1 := by
  funext i k
  unfold lvM
  by_cases q : i < 40
  · rw [lvS_l h q]
  · rw [decide_eq_false (fun z => q z.1), Bool.false_and, Bool.false_and]
theorem rJv_l (h : rLv γ F1 F2) (g : rJv γ el F F1 c sl n) : rJv γ el F F2 c sl n := by unfold rJv at g ⊢; rw [lvM_l h]; exact g
theorem lvT_l (h : rLv γ F1 F2) : lvT γ F2 = lvT γ F1 := by
  unfold lvT
  exact rsum_c _ (fun i hi => by show rsum _ 32 = rsum _ 32; rw [h i hi])
theorem rLv_tr {F3 : Nat → va_E} (h : rLv γ F1 F2) (g : rLv γ F2 F3) : rLv γ F1 F3 := fun i hi => (g i hi).trans (h i hi)
/-- behind the block's end and its rows: one row more -/
theorem tr_b {x : Nat} {L : Nat → Nat → Bool} {f f1 : Nat → Int64} {d : Nat} {e : va_E} (h : ∀ k, k < 2048 → rbt f k = trS γ el F sl x L d k) (he : e = F (el (γ 14 x) (γ 2 (γ 14 x) - 1 - d))) (hb : ∀ k, rbt f1 k = bkS e sl (rbt f) k) : ∀ k, k < 2048 → rbt f1 k = trS γ el F sl x L (d + 1) k := fun k hk => by
  rw [hb k, he]
  show _ = bkS (F (el (γ 14 x) (γ 2 (γ 14 x) - 1 - d))) sl (trS γ el F sl x L d) k
  unfold bkS bkV
  rw [h k hk]
theorem tr_0 {x : Nat} {L : Nat → Nat → Bool} {f f1 : Nat → Int64} {e : va_E} (h : ∀ k, k < 2048 → rbt f k = bhV (fI (F (γ 15 x)) 0).toInt (fI (F x) 2).toInt (fI (F x) 3).toInt L k) (he : e = F (γ 15 x)) (hb : ∀ k, rbt f1 k = bkS e sl (rbt f) k) : ∀ k, k < 2048 → rbt f1 k = trS γ el F sl x L 0 k := fun k hk => by
  rw [hb k, he]
  show _ = bkS (F (γ 15 x)) sl _ k
  unfold bkS bkV
  rw [h k hk]
theorem bhV_c {op f s : Int} {L L' : Nat → Nat → Bool} {k : Nat} (hf : 0 ≤ f ∧ f < 40) (hs : 0 ≤ s ∧ s < 40) (h : ∀ i, i < 40 → L i k = L' i k) : bhV op f s L k = bhV op f s L' k := by
  unfold bhV
  rw [h f.toNat (by omega), h s.toNat (by omega)]
/-- a word is copied: none of its bits goes -/
theorem lv_w {f g : Nat → Int64} {z : Nat} {A : Nat → Bool} (hz : z < 32) (hf : ∀ k, k < 2048 → 64 * z ≤ k → rbt f k = true → A k = true) (hg : ∀ k, k < 2048 → rbt g k = A k) : ∀ j, j < 64 → (f z).toBitVec.getLsbD j = true → (g z).toBitVec.getLsbD j = true := fun j hj h => by
  rw [← rbt_w hj] at h ⊢
  rw [hg _ (by omega)]
  exact hf _ (by omega) (by omega) h
end GLV2
theorem RS_lne {D : va_G} {I : FieldType → ClassId} {P : List Nat} {F : Nat → va_E} {γ el : Nat → Nat → Nat} {a i j : Nat} (hT : RS D I P F γ el) (h : rKd γ a 12) (hi : i < 40) (hj : j < 40) (hne : i ≠ j) : γ 10 i ≠ γ 10 j := fun e => by
  obtain ⟨g, g1, g2⟩ := show rk_12 I γ (F a) from RS_o hT h
  have h1 := (g2 i hi).2.2
  have h2 := (g2 j hj).2.2
  rw [e, h2] at h1
  exact hne h1.symm
/-- rows of live emptied one by one -/
theorem zl_r {F F1 : Nat → va_E} {γ : Nat → Nat → Nat} {b : Int} (h : ∀ i : Nat, (i : Int) < b → ∀ j : Nat, j < 32 → cL (F (γ 10 i)) j = 0) (hn : ∀ i : Nat, (i : Int) < b → F1 (γ 10 i) = F (γ 10 i)) : ∀ i : Nat, (i : Int) < b → ∀ j : Nat, j < 32 → cL (F1 (γ 10 i)) j = 0 := fun i hi j hj => by rw [hn i hi]; exact h i hi j hj
theorem zl_s {F : Nat → va_E} {γ : Nat → Nat → Nat} {b b1 k : Int} (h : ∀ i : Nat, (i : Int) < b → ∀ j : Nat, j < 32 → cL (F (γ 10 i)) j = 0) (g : ∀ j : Nat, (j : Int) < k → cL (F (γ 10 b.toNat)) j = 0) (hk : 32 ≤ k) (e : b1 = b + 1) (h0 : 0 ≤ b) : ∀ i : Nat, (i : Int) < b1 → ∀ j : Nat, j < 32 → cL (F (γ 10 i)) j = 0 := fun i hi j hj => by
  by_cases q : (i : Int) < b
  · exact h i q j hj
  · rw [show i = b.toNat by omega]
    exact g j (by omega)
/-- one word copied -/
theorem cp_st {f f2 g : Nat → Int64} {i z : Int32} {v : Int64} {A B : Nat → Bool} (hv : v = g z.toNatClampNeg) (hf : f2 = vp_updL f z.toNatClampNeg v) (h0 : 0 ≤ z.toInt) (e : i.toInt = z.toInt + 1)
    (h : ∀ k : Nat, k < 2048 → rbt f k = if (k : Int) < 64 * z.toInt then A k else B k) (hg : ∀ k : Nat, k < 2048 → rbt g k = A k) : ∀ k : Nat, k < 2048 → rbt f2 k = if (k : Int) < 64 * i.toInt then A k else B k := fun k hk => by
  have hzn : (z.toNatClampNeg : Int) = z.toInt := g_nn h0
  have h1 := h k hk
  rw [rbt_updL hf]
  split
  · next q =>
    rw [hv, ← q]
    show rbt g k = _
    rw [hg k hk, if_pos (by omega)]
  · next q =>
    rw [h1]
    by_cases c : (k : Int) < 64 * z.toInt
    · rw [if_pos c, if_pos (by omega)]
    · rw [if_neg c, if_neg (by omega)]
theorem lc_ne {z : Int32} {u v : Int64} (h : z = lg_cmp u v) (hz : z.toInt ≠ 0) : u ≠ v := fun e => hz (by
  subst e
  rw [h]
  unfold lg_cmp
  simp)
theorem cl32 {z : Int32} (h0 : 0 ≤ z.toInt) (h : z.toInt < 32) : z.toNatClampNeg < 32 := by
  have := g_nn h0
  omega
end
section
/-! the lowest bit goes -/
theorem lo_not {x : BitVec 64} {j : Nat} (h1 : x.getLsbD j = true) (h2 : ∀ i, i < j → x.getLsbD i = false) : (x - 1#64).getLsbD j = false := by
  have hj : j < 64 := by
    refine Classical.byContradiction fun hn => ?_
    rw [BitVec.getLsbD_of_ge x j (by omega)] at h1
    cases h1
  have h3 := congrArg (fun z => BitVec.getLsbD z j) (lb_andneg h1 h2)
  have h4 : (x &&& -x).getLsbD j = (BitVec.twoPow 64 j).getLsbD j := h3
  rw [BitVec.getLsbD_and, h1, BitVec.getLsbD_twoPow, Bool.true_and] at h4
  have h5 : (-x).getLsbD j = true := by rw [h4]; simp [hj]
  rw [← BitVec.not_neg, BitVec.getLsbD_not, h5]
  simp
theorem rpop_low {x y z : Int64} (hx : ¬ x = 0) (hy : y = x - 1) (hz : z = x &&& y) : rpop z + 1 ≤ rpop x := by
  have hx' : x.toBitVec ≠ 0#64 := fun h => hx (Int64.toBitVec_inj.mp h)
  obtain ⟨j, h1, h2, h3⟩ := lb_least hx'
  have h4 : y.toBitVec.getLsbD j = false := by
    rw [hy]
    exact lo_not h2 h3
  refine rpopN_lt (x := z.toBitVec) (y := x.toBitVec) (fun i hi => ?_) ?_ h2 64 h1
  · rw [hz, Int64.toBitVec_and, BitVec.getLsbD_and, Bool.and_eq_true] at hi
    exact hi.1
  · rw [hz, Int64.toBitVec_and, BitVec.getLsbD_and, h4, Bool.and_false]
/-! trailing zeros of an int, as the JDK finds them -/
theorem nz_least {x : BitVec 32} (h : x ≠ 0#32) : ∃ j, j < 32 ∧ x.getLsbD j = true ∧ ∀ i, i < j → x.getLsbD i = false := by
  have h1 : ∃ j, j < 32 ∧ x.getLsbD j = true := by
    refine Classical.byContradiction fun hn => h ?_
    apply BitVec.eq_of_getLsbD_eq
    intro i hi
    rw [BitVec.getLsbD_zero]
    cases hx : x.getLsbD i with
    | false => rfl
    | true => exact absurd ⟨i, hi, hx⟩ hn
  have h2 : ∀ n : Nat, (∃ j, j < n ∧ x.getLsbD j = true) → ∃ j, j < n ∧ x.getLsbD j = true ∧ ∀ i, i < j → x.getLsbD i = false := by
    intro n
    induction n with
    | zero => intro ⟨j, hj, _⟩; omega
    | succ n ih =>
      intro ⟨j, hj, hx⟩
      by_cases hs : ∃ j, j < n ∧ x.getLsbD j = true
      · obtain ⟨k, k1, k2, k3⟩ := ih hs
        exact ⟨k, by omega, k2, k3⟩
      · refine ⟨j, hj, hx, fun i hi => ?_⟩
        cases hxi : x.getLsbD i with
        | false => rfl
        | true => exact absurd ⟨i, by omega, hxi⟩ hs
  exact h2 32 h1
theorem nz_mask {x : BitVec 32} {j : Nat} (h1 : x.getLsbD j = true) (h2 : ∀ i, i < j → x.getLsbD i = false) : ∀ i, i < 32 → (~~~x &&& (x - 1#32)).getLsbD i = decide (i < j) := fun i hi => by
  rw [← BitVec.not_neg, BitVec.getLsbD_and, BitVec.getLsbD_not, BitVec.getLsbD_not, BitVec.getLsbD_neg]
  rcases Nat.lt_trichotomy i j with h | h | h
  · have hn : ¬ ∃ k, k < i ∧ x.getLsbD k = true := fun ⟨k, k1, k2⟩ => by rw [h2 k (by omega)] at k2; cases k2
    rw [h2 i h]; simp [hn, hi, h]
  · subst h
    rw [h1]; simp
  · have hy : ∃ k, k < i ∧ x.getLsbD k = true := ⟨j, h, h1⟩
    have hne : ¬ i < j := by omega
    cases x.getLsbD i <;> simp [hi, hy, hne]
def nz_u (x k : Int32) : Int32 := (x.toUInt32 >>> (k.toUInt32 &&& Int32.toUInt32 31)).toInt32
def nz_s (p : Int32 × Int32) (t k : Int32) : Int32 × Int32 := if t < p.1 then (nz_u p.1 k, p.2 + k) else p
def nz_q (m : Int32) : Int32 × Int32 := nz_s (nz_s (nz_s (nz_s (m, 1) 65536 16) 256 8) 16 4) 4 2
def nz_f (m : Int32) : Int32 := if 0 < m then (nz_q m).2 + nz_u (nz_q m).1 1 else m &&& 32
theorem nz_tab : ∀ j : Fin 32, (nz_f (Int32.ofNat (2 ^ j.val - 1))).toInt = j.val := by decide +kernel
theorem nz_ok {i r : Int32} (h : ¬ i = 0) (hr : r = nz_f ((i ^^^ (-1)) &&& (i - 1))) : 0 ≤ r.toInt ∧ r.toInt ≤ 31 ∧ i.toBitVec.getLsbD r.toInt.toNat = true := by
  have hx : i.toBitVec ≠ 0#32 := fun e => h (Int32.toBitVec_inj.mp e)
  obtain ⟨j, h1, h2, h3⟩ := nz_least hx
  have hm : (i ^^^ (-1)) &&& (i - 1) = Int32.ofNat (2 ^ j - 1) := by
    apply Int32.toBitVec_inj.mp
    apply BitVec.eq_of_getLsbD_eq
    intro k hk
    have e1 : ((i ^^^ (-1)) &&& (i - 1)).toBitVec = ~~~i.toBitVec &&& (i.toBitVec - 1#32) := by
      rw [Int32.toBitVec_and, Int32.toBitVec_xor, Int32.toBitVec_sub]
      congr 1
      show i.toBitVec ^^^ BitVec.allOnes 32 = _
      rw [BitVec.xor_allOnes]
    rw [e1, nz_mask h2 h3 k hk]
    show _ = (BitVec.ofNat 32 (2 ^ j - 1)).getLsbD k
    rw [BitVec.getLsbD_ofNat, Nat.testBit_two_pow_sub_one]
    simp [hk]
  have ht := nz_tab ⟨j, h1⟩
  have hj : r.toInt = j := by rw [hr, hm]; exact ht
  refine ⟨by omega, by omega, ?_⟩
  rw [hj]
  exact h2
end
section
def nzp_int (P : List Nat) (F : Nat → va_E) (p : Int32) : Option Value → va_W → Nat → Nat → Prop := fun r w dc ds => ∃ o : Int32, r = some (.int o) ∧ w = va_pl P F ∧ dc ≤ 0 ∧ ds ≤ 0 ∧ o = nz_f ((p ^^^ (-1)) &&& (p - 1))
set_option maxRecDepth 100000 in
set_option maxHeartbeats 4000000 in
theorem nzc_Integer_numberOfTrailingZeros (l : Launch) (hl0 : l.stackTraces = false) (D : va_G) (I : FieldType → ClassId) (P2107 : List Nat) (F2108 : Nat → va_E) (p2109 : Int32)  : CtA (gV D I) l yJ6_numberOfTrailingZeros_0f7a4 cJ6_numberOfTrailingZeros_0f7a4 2 (some FieldType.int) 0 0 0 0 [.int p2109] (va_pl P2107 F2108) (nzp_int P2107 F2108 p2109) gNA := by
  refine CtA_ofF hl0 (by decide +kernel) (Nat.le_of_ble_eq_true rfl) ?_
  have bp2109 := gB_any p2109
  refine G_iload_n 0 dr_cJ6_numberOfTrailingZeros_0f7a4_0 rfl ?_
  refine G_iconst (-1) dr_cJ6_numberOfTrailingZeros_0f7a4_1 (by decide +kernel) ?_
  refine G_ixor dr_cJ6_numberOfTrailingZeros_0f7a4_2 (G_nam fun z2111 hz2111 => ?_)
  have bz2111 : gB z2111 (-2147483648) 2147483647 := gB_any z2111
  refine G_iload_n 0 dr_cJ6_numberOfTrailingZeros_0f7a4_3 rfl ?_
  refine G_iconst 1 dr_cJ6_numberOfTrailingZeros_0f7a4_4 (by decide +kernel) ?_
  refine G_isub dr_cJ6_numberOfTrailingZeros_0f7a4_5 (G_nam fun z2112 hz2112 => ?_)
  have bz2112 : gB z2112 (-2147483648) 2147483647 := gB_any z2112
  refine G_iand dr_cJ6_numberOfTrailingZeros_0f7a4_6 (G_nam fun z2113 hz2113 => ?_)
  have bz2113 : gB z2113 (-2147483648) 2147483647 := gB_any z2113
  refine G_istore_n (L' := [(0, .int z2113)]) dr_cJ6_numberOfTrailingZeros_0f7a4_7 (Nat.le_of_ble_eq_true rfl) rfl ?_
  refine G_iload_n 0 dr_cJ6_numberOfTrailingZeros_0f7a4_8 rfl ?_
  refine G_if_gt 17 dr_cJ6_numberOfTrailingZeros_0f7a4_9 (by decide +kernel) (fun hc2114 => ?_) (fun hc2114 => ?_)
  · have r2115 : 0 < z2113.toInt := gj_ltL hc2114 (show Int32.toInt 0 = 0 by decide)
    have bz2113' : gB z2113 1 2147483647 := ⟨by omega, by omega⟩
    refine G_iconst 1 dr_cJ6_numberOfTrailingZeros_0f7a4_17 (by decide +kernel) ?_
    refine G_istore_n (L' := [(1, .int 1), (0, .int z2113)]) dr_cJ6_numberOfTrailingZeros_0f7a4_18 (Nat.le_of_ble_eq_true rfl) rfl ?_
    refine G_iload_n 1 dr_cJ6_numberOfTrailingZeros_0f7a4_19 rfl ?_
    refine G_ldcw 65536 dr_cJ6_numberOfTrailingZeros_0f7a4_20 wr_11_7 ?_
    refine G_icmp_le 34 dr_cJ6_numberOfTrailingZeros_0f7a4_23 (by decide +kernel) (fun hc2116 => ?_) (fun hc2116 => ?_)
    · have r2117 : z2113.toInt ≤ 65536 := gj_le hc2116 (show Int32.toInt 65536 = 65536 by decide)
      have bz2113'' : gB z2113 1 65536 := ⟨by omega, by omega⟩
      refine G_iload_n 1 dr_cJ6_numberOfTrailingZeros_0f7a4_34 rfl ?_
      refine G_sipush 256 dr_cJ6_numberOfTrailingZeros_0f7a4_35 (by decide +kernel) ?_
      refine G_icmp_le 49 dr_cJ6_numberOfTrailingZeros_0f7a4_38 (by decide +kernel) (fun hc2118 => ?_) (fun hc2118 => ?_)
      · have r2119 : z2113.toInt ≤ 256 := gj_le hc2118 (show Int32.toInt 256 = 256 by decide)
        have bz2113''' : gB z2113 1 256 := ⟨by omega, by omega⟩
        refine G_iload_n 1 dr_cJ6_numberOfTrailingZeros_0f7a4_49 rfl ?_
        refine G_bipush 16 dr_cJ6_numberOfTrailingZeros_0f7a4_50 (by decide +kernel) ?_
        refine G_icmp_le 62 dr_cJ6_numberOfTrailingZeros_0f7a4_52 (by decide +kernel) (fun hc2120 => ?_) (fun hc2120 => ?_)
        · have r2121 : z2113.toInt ≤ 16 := gj_le hc2120 (show Int32.toInt 16 = 16 by decide)
          have bz2113'''' : gB z2113 1 16 := ⟨by omega, by omega⟩
          refine G_iload_n 1 dr_cJ6_numberOfTrailingZeros_0f7a4_62 rfl ?_
          refine G_iconst 4 dr_cJ6_numberOfTrailingZeros_0f7a4_63 (by decide +kernel) ?_
          refine G_icmp_le 74 dr_cJ6_numberOfTrailingZeros_0f7a4_64 (by decide +kernel) (fun hc2122 => ?_) (fun hc2122 => ?_)
          · have r2123 : z2113.toInt ≤ 4 := gj_le hc2122 (show Int32.toInt 4 = 4 by decide)
            have bz2113''''' : gB z2113 1 4 := ⟨by omega, by omega⟩
            refine G_iload_n 0 dr_cJ6_numberOfTrailingZeros_0f7a4_74 rfl ?_
            refine G_iload_n 1 dr_cJ6_numberOfTrailingZeros_0f7a4_75 rfl ?_
            refine G_iconst 1 dr_cJ6_numberOfTrailingZeros_0f7a4_76 (by decide +kernel) ?_
            refine G_iushr dr_cJ6_numberOfTrailingZeros_0f7a4_77 (G_nam fun z2124 hz2124 => ?_)
            have bz2124 : gB z2124 (-2147483648) 2147483647 := gB_any z2124
            refine G_iadd dr_cJ6_numberOfTrailingZeros_0f7a4_78 (G_nam fun z2125 hz2125 => ?_)
            have bz2125 : gB z2125 (-2147483648) 2147483647 := gB_any z2125
            have hm : (p2109 ^^^ (-1)) &&& (p2109 - 1) = z2113 := by rw [hz2113, hz2111, hz2112]
            have e0 : nz_s (z2113, 1) 65536 16 = (z2113, 1) := if_neg (Int32.not_lt.mpr hc2116)
            have e1 : nz_s (z2113, 1) 256 8 = (z2113, 1) := if_neg (Int32.not_lt.mpr hc2118)
            have e2 : nz_s (z2113, 1) 16 4 = (z2113, 1) := if_neg (Int32.not_lt.mpr hc2120)
            have e3 : nz_s (z2113, 1) 4 2 = (z2113, 1) := if_neg (Int32.not_lt.mpr hc2122)
            have eq : nz_q z2113 = (z2113, 1) := by unfold nz_q; rw [e0, e1, e2, e3]
            have hE : z2125 = nz_f ((p2109 ^^^ (-1)) &&& (p2109 - 1)) := by rw [hm, nz_f, if_pos hc2114, eq, hz2125, hz2124]; rfl
            exact G_iretA dr_cJ6_numberOfTrailingZeros_0f7a4_79 rfl (Nat.le_of_ble_eq_true rfl) (Nat.le_of_ble_eq_true rfl) ⟨z2125, rfl, rfl, (Nat.le_of_ble_eq_true rfl), (Nat.le_of_ble_eq_true rfl), hE⟩
          · have r2126 : 4 < z2113.toInt := gj_nle hc2122 (show Int32.toInt 4 = 4 by decide)
            have bz2113''''' : gB z2113 5 16 := ⟨by omega, by omega⟩
            refine G_iinc (L' := [(1, .int 3), (0, .int z2113)]) (3) 0 dr_cJ6_numberOfTrailingZeros_0f7a4_67 rfl (by decide) (Nat.le_of_ble_eq_true rfl) rfl ?_
            refine G_iload_n 1 dr_cJ6_numberOfTrailingZeros_0f7a4_70 rfl ?_
            refine G_iconst 2 dr_cJ6_numberOfTrailingZeros_0f7a4_71 (by decide +kernel) ?_
            refine G_iushr dr_cJ6_numberOfTrailingZeros_0f7a4_72 (G_nam fun z2127 hz2127 => ?_)
            have bz2127 : gB z2127 (-2147483648) 2147483647 := gB_any z2127
            refine G_istore_n (L' := [(0, .int z2127), (1, .int 3)]) dr_cJ6_numberOfTrailingZeros_0f7a4_73 (Nat.le_of_ble_eq_true rfl) rfl ?_
            refine G_iload_n 1 dr_cJ6_numberOfTrailingZeros_0f7a4_74 rfl ?_
            refine G_iload_n 0 dr_cJ6_numberOfTrailingZeros_0f7a4_75 rfl ?_
            refine G_iconst 1 dr_cJ6_numberOfTrailingZeros_0f7a4_76 (by decide +kernel) ?_
            refine G_iushr dr_cJ6_numberOfTrailingZeros_0f7a4_77 (G_nam fun z2128 hz2128 => ?_)
            have bz2128 : gB z2128 (-2147483648) 2147483647 := gB_any z2128
            refine G_iadd dr_cJ6_numberOfTrailingZeros_0f7a4_78 (G_nam fun z2129 hz2129 => ?_)
            have bz2129 : gB z2129 (-2147483648) 2147483647 := gB_any z2129
            have hm : (p2109 ^^^ (-1)) &&& (p2109 - 1) = z2113 := by rw [hz2113, hz2111, hz2112]
            have e0 : nz_s (z2113, 1) 65536 16 = (z2113, 1) := if_neg (Int32.not_lt.mpr hc2116)
            have e1 : nz_s (z2113, 1) 256 8 = (z2113, 1) := if_neg (Int32.not_lt.mpr hc2118)
            have e2 : nz_s (z2113, 1) 16 4 = (z2113, 1) := if_neg (Int32.not_lt.mpr hc2120)
            have e3 : nz_s (z2113, 1) 4 2 = (z2127, 3) := (if_pos (Int32.not_le.mp hc2122)).trans (by rw [hz2127]; exact Prod.ext rfl (show (1 : Int32) + 2 = 3 by decide))
            have eq : nz_q z2113 = (z2127, 3) := by unfold nz_q; rw [e0, e1, e2, e3]
            have hE : z2129 = nz_f ((p2109 ^^^ (-1)) &&& (p2109 - 1)) := by rw [hm, nz_f, if_pos hc2114, eq, hz2129, hz2128]; rfl
            exact G_iretA dr_cJ6_numberOfTrailingZeros_0f7a4_79 rfl (Nat.le_of_ble_eq_true rfl) (Nat.le_of_ble_eq_true rfl) ⟨z2129, rfl, rfl, (Nat.le_of_ble_eq_true rfl), (Nat.le_of_ble_eq_true rfl), hE⟩
        · have r2130 : 16 < z2113.toInt := gj_nle hc2120 (show Int32.toInt 16 = 16 by decide)
          have bz2113'''' : gB z2113 17 256 := ⟨by omega, by omega⟩
          refine G_iinc (L' := [(1, .int 5), (0, .int z2113)]) (5) 0 dr_cJ6_numberOfTrailingZeros_0f7a4_55 rfl (by decide) (Nat.le_of_ble_eq_true rfl) rfl ?_
          refine G_iload_n 1 dr_cJ6_numberOfTrailingZeros_0f7a4_58 rfl ?_
          refine G_iconst 4 dr_cJ6_numberOfTrailingZeros_0f7a4_59 (by decide +kernel) ?_
          refine G_iushr dr_cJ6_numberOfTrailingZeros_0f7a4_60 (G_nam fun z2131 hz2131 => ?_)
          have bz2131 : gB z2131 (-2147483648) 2147483647 := gB_any z2131
          refine G_istore_n (L' := [(0, .int z2131), (1, .int 5)]) dr_cJ6_numberOfTrailingZeros_0f7a4_61 (Nat.le_of_ble_eq_true rfl) rfl ?_
          refine G_iload_n 0 dr_cJ6_numberOfTrailingZeros_0f7a4_62 rfl ?_
          refine G_iconst 4 dr_cJ6_numberOfTrailingZeros_0f7a4_63 (by decide +kernel) ?_
          refine G_icmp_le 74 dr_cJ6_numberOfTrailingZeros_0f7a4_64 (by decide +kernel) (fun hc2132 => ?_) (fun hc2132 => ?_)
          · have r2133 : z2131.toInt ≤ 4 := gj_le hc2132 (show Int32.toInt 4 = 4 by decide)
            have bz2131' : gB z2131 (-2147483648) 4 := ⟨by omega, by omega⟩
            refine G_iload_n 1 dr_cJ6_numberOfTrailingZeros_0f7a4_74 rfl ?_
            refine G_iload_n 0 dr_cJ6_numberOfTrailingZeros_0f7a4_75 rfl ?_
            refine G_iconst 1 dr_cJ6_numberOfTrailingZeros_0f7a4_76 (by decide +kernel) ?_
            refine G_iushr dr_cJ6_numberOfTrailingZeros_0f7a4_77 (G_nam fun z2134 hz2134 => ?_)
            have bz2134 : gB z2134 (-2147483648) 2147483647 := gB_any z2134
            refine G_iadd dr_cJ6_numberOfTrailingZeros_0f7a4_78 (G_nam fun z2135 hz2135 => ?_)
            have bz2135 : gB z2135 (-2147483648) 2147483647 := gB_any z2135
            have hm : (p2109 ^^^ (-1)) &&& (p2109 - 1) = z2113 := by rw [hz2113, hz2111, hz2112]
            have e0 : nz_s (z2113, 1) 65536 16 = (z2113, 1) := if_neg (Int32.not_lt.mpr hc2116)
            have e1 : nz_s (z2113, 1) 256 8 = (z2113, 1) := if_neg (Int32.not_lt.mpr hc2118)
            have e2 : nz_s (z2113, 1) 16 4 = (z2131, 5) := (if_pos (Int32.not_le.mp hc2120)).trans (by rw [hz2131]; exact Prod.ext rfl (show (1 : Int32) + 4 = 5 by decide))
            have e3 : nz_s (z2131, 5) 4 2 = (z2131, 5) := if_neg (Int32.not_lt.mpr hc2132)
            have eq : nz_q z2113 = (z2131, 5) := by unfold nz_q; rw [e0, e1, e2, e3]
            have hE : z2135 = nz_f ((p2109 ^^^ (-1)) &&& (p2109 - 1)) := by rw [hm, nz_f, if_pos hc2114, eq, hz2135, hz2134]; rfl
            exact G_iretA dr_cJ6_numberOfTrailingZeros_0f7a4_79 rfl (Nat.le_of_ble_eq_true rfl) (Nat.le_of_ble_eq_true rfl) ⟨z2135, rfl, rfl, (Nat.le_of_ble_eq_true rfl), (Nat.le_of_ble_eq_true rfl), hE⟩
          · have r2136 : 4 < z2131.toInt := gj_nle hc2132 (show Int32.toInt 4 = 4 by decide)
            have bz2131' : gB z2131 5 2147483647 := ⟨by omega, by omega⟩
            refine G_iinc (L' := [(1, .int 7), (0, .int z2131)]) (7) 1 dr_cJ6_numberOfTrailingZeros_0f7a4_67 rfl (by decide) (Nat.le_of_ble_eq_true rfl) rfl ?_
            refine G_iload_n 1 dr_cJ6_numberOfTrailingZeros_0f7a4_70 rfl ?_
            refine G_iconst 2 dr_cJ6_numberOfTrailingZeros_0f7a4_71 (by decide +kernel) ?_
            refine G_iushr dr_cJ6_numberOfTrailingZeros_0f7a4_72 (G_nam fun z2137 hz2137 => ?_)
            have bz2137 : gB z2137 (-2147483648) 2147483647 := gB_any z2137
            refine G_istore_n (L' := [(0, .int z2137), (1, .int 7)]) dr_cJ6_numberOfTrailingZeros_0f7a4_73 (Nat.le_of_ble_eq_true rfl) rfl ?_
            refine G_iload_n 1 dr_cJ6_numberOfTrailingZeros_0f7a4_74 rfl ?_
            refine G_iload_n 0 dr_cJ6_numberOfTrailingZeros_0f7a4_75 rfl ?_
            refine G_iconst 1 dr_cJ6_numberOfTrailingZeros_0f7a4_76 (by decide +kernel) ?_
            refine G_iushr dr_cJ6_numberOfTrailingZeros_0f7a4_77 (G_nam fun z2138 hz2138 => ?_)
            have bz2138 : gB z2138 (-2147483648) 2147483647 := gB_any z2138
            refine G_iadd dr_cJ6_numberOfTrailingZeros_0f7a4_78 (G_nam fun z2139 hz2139 => ?_)
            have bz2139 : gB z2139 (-2147483648) 2147483647 := gB_any z2139
            have hm : (p2109 ^^^ (-1)) &&& (p2109 - 1) = z2113 := by rw [hz2113, hz2111, hz2112]
            have e0 : nz_s (z2113, 1) 65536 16 = (z2113, 1) := if_neg (Int32.not_lt.mpr hc2116)
            have e1 : nz_s (z2113, 1) 256 8 = (z2113, 1) := if_neg (Int32.not_lt.mpr hc2118)
            have e2 : nz_s (z2113, 1) 16 4 = (z2131, 5) := (if_pos (Int32.not_le.mp hc2120)).trans (by rw [hz2131]; exact Prod.ext rfl (show (1 : Int32) + 4 = 5 by decide))
            have e3 : nz_s (z2131, 5) 4 2 = (z2137, 7) := (if_pos (Int32.not_le.mp hc2132)).trans (by rw [hz2137]; exact Prod.ext rfl (show (5 : Int32) + 2 = 7 by decide))
            have eq : nz_q z2113 = (z2137, 7) := by unfold nz_q; rw [e0, e1, e2, e3]
            have hE : z2139 = nz_f ((p2109 ^^^ (-1)) &&& (p2109 - 1)) := by rw [hm, nz_f, if_pos hc2114, eq, hz2139, hz2138]; rfl
            exact G_iretA dr_cJ6_numberOfTrailingZeros_0f7a4_79 rfl (Nat.le_of_ble_eq_true rfl) (Nat.le_of_ble_eq_true rfl) ⟨z2139, rfl, rfl, (Nat.le_of_ble_eq_true rfl), (Nat.le_of_ble_eq_true rfl), hE⟩
      · have r2140 : 256 < z2113.toInt := gj_nle hc2118 (show Int32.toInt 256 = 256 by decide)
        have bz2113''' : gB z2113 257 65536 := ⟨by omega, by omega⟩
        refine G_iinc (L' := [(1, .int 9), (0, .int z2113)]) (9) 0 dr_cJ6_numberOfTrailingZeros_0f7a4_41 rfl (by decide) (Nat.le_of_ble_eq_true rfl) rfl ?_
        refine G_iload_n 1 dr_cJ6_numberOfTrailingZeros_0f7a4_44 rfl ?_
        refine G_bipush 8 dr_cJ6_numberOfTrailingZeros_0f7a4_45 (by decide +kernel) ?_
        refine G_iushr dr_cJ6_numberOfTrailingZeros_0f7a4_47 (G_nam fun z2141 hz2141 => ?_)
        have bz2141 : gB z2141 (-2147483648) 2147483647 := gB_any z2141
        refine G_istore_n (L' := [(0, .int z2141), (1, .int 9)]) dr_cJ6_numberOfTrailingZeros_0f7a4_48 (Nat.le_of_ble_eq_true rfl) rfl ?_
        refine G_iload_n 0 dr_cJ6_numberOfTrailingZeros_0f7a4_49 rfl ?_
        refine G_bipush 16 dr_cJ6_numberOfTrailingZeros_0f7a4_50 (by decide +kernel) ?_
        refine G_icmp_le 62 dr_cJ6_numberOfTrailingZeros_0f7a4_52 (by decide +kernel) (fun hc2142 => ?_) (fun hc2142 => ?_)
        · have r2143 : z2141.toInt ≤ 16 := gj_le hc2142 (show Int32.toInt 16 = 16 by decide)
          have bz2141' : gB z2141 (-2147483648) 16 := ⟨by omega, by omega⟩
          refine G_iload_n 0 dr_cJ6_numberOfTrailingZeros_0f7a4_62 rfl ?_
          refine G_iconst 4 dr_cJ6_numberOfTrailingZeros_0f7a4_63 (by decide +kernel) ?_
          refine G_icmp_le 74 dr_cJ6_numberOfTrailingZeros_0f7a4_64 (by decide +kernel) (fun hc2144 => ?_) (fun hc2144 => ?_)
          · have r2145 : z2141.toInt ≤ 4 := gj_le hc2144 (show Int32.toInt 4 = 4 by decide)
            have bz2141'' : gB z2141 (-2147483648) 4 := ⟨by omega, by omega⟩
            refine G_iload_n 1 dr_cJ6_numberOfTrailingZeros_0f7a4_74 rfl ?_
            refine G_iload_n 0 dr_cJ6_numberOfTrailingZeros_0f7a4_75 rfl ?_
            refine G_iconst 1 dr_cJ6_numberOfTrailingZeros_0f7a4_76 (by decide +kernel) ?_
            refine G_iushr dr_cJ6_numberOfTrailingZeros_0f7a4_77 (G_nam fun z2146 hz2146 => ?_)
            have bz2146 : gB z2146 (-2147483648) 2147483647 := gB_any z2146
            refine G_iadd dr_cJ6_numberOfTrailingZeros_0f7a4_78 (G_nam fun z2147 hz2147 => ?_)
            have bz2147 : gB z2147 (-2147483648) 2147483647 := gB_any z2147
            have hm : (p2109 ^^^ (-1)) &&& (p2109 - 1) = z2113 := by rw [hz2113, hz2111, hz2112]
            have e0 : nz_s (z2113, 1) 65536 16 = (z2113, 1) := if_neg (Int32.not_lt.mpr hc2116)
            have e1 : nz_s (z2113, 1) 256 8 = (z2141, 9) := (if_pos (Int32.not_le.mp hc2118)).trans (by rw [hz2141]; exact Prod.ext rfl (show (1 : Int32) + 8 = 9 by decide))
            have e2 : nz_s (z2141, 9) 16 4 = (z2141, 9) := if_neg (Int32.not_lt.mpr hc2142)
            have e3 : nz_s (z2141, 9) 4 2 = (z2141, 9) := if_neg (Int32.not_lt.mpr hc2144)
            have eq : nz_q z2113 = (z2141, 9) := by unfold nz_q; rw [e0, e1, e2, e3]
            have hE : z2147 = nz_f ((p2109 ^^^ (-1)) &&& (p2109 - 1)) := by rw [hm, nz_f, if_pos hc2114, eq, hz2147, hz2146]; rfl
            exact G_iretA dr_cJ6_numberOfTrailingZeros_0f7a4_79 rfl (Nat.le_of_ble_eq_true rfl) (Nat.le_of_ble_eq_true rfl) ⟨z2147, rfl, rfl, (Nat.le_of_ble_eq_true rfl), (Nat.le_of_ble_eq_true rfl), hE⟩
          · have r2148 : 4 < z2141.toInt := gj_nle hc2144 (show Int32.toInt 4 = 4 by decide)
            have bz2141'' : gB z2141 5 16 := ⟨by omega, by omega⟩
            refine G_iinc (L' := [(1, .int 11), (0, .int z2141)]) (11) 1 dr_cJ6_numberOfTrailingZeros_0f7a4_67 rfl (by decide) (Nat.le_of_ble_eq_true rfl) rfl ?_
            refine G_iload_n 1 dr_cJ6_numberOfTrailingZeros_0f7a4_70 rfl ?_
            refine G_iconst 2 dr_cJ6_numberOfTrailingZeros_0f7a4_71 (by decide +kernel) ?_
            refine G_iushr dr_cJ6_numberOfTrailingZeros_0f7a4_72 (G_nam fun z2149 hz2149 => ?_)
            have bz2149 : gB z2149 (-2147483648) 2147483647 := gB_any z2149
            refine G_istore_n (L' := [(0, .int z2149), (1, .int 11)]) dr_cJ6_numberOfTrailingZeros_0f7a4_73 (Nat.le_of_ble_eq_true rfl) rfl ?_
            refine G_iload_n 1 dr_cJ6_numberOfTrailingZeros_0f7a4_74 rfl ?_
            refine G_iload_n 0 dr_cJ6_numberOfTrailingZeros_0f7a4_75 rfl ?_
            refine G_iconst 1 dr_cJ6_numberOfTrailingZeros_0f7a4_76 (by decide +kernel) ?_
            refine G_iushr dr_cJ6_numberOfTrailingZeros_0f7a4_77 (G_nam fun z2150 hz2150 => ?_)
            have bz2150 : gB z2150 (-2147483648) 2147483647 := gB_any z2150
            refine G_iadd dr_cJ6_numberOfTrailingZeros_0f7a4_78 (G_nam fun z2151 hz2151 => ?_)
            have bz2151 : gB z2151 (-2147483648) 2147483647 := gB_any z2151
            have hm : (p2109 ^^^ (-1)) &&& (p2109 - 1) = z2113 := by rw [hz2113, hz2111, hz2112]
            have e0 : nz_s (z2113, 1) 65536 16 = (z2113, 1) := if_neg (Int32.not_lt.mpr hc2116)
            have e1 : nz_s (z2113, 1) 256 8 = (z2141, 9) := (if_pos (Int32.not_le.mp hc2118)).trans (by rw [hz2141]; exact Prod.ext rfl (show (1 : Int32) + 8 = 9 by decide))
            have e2 : nz_s (z2141, 9) 16 4 = (z2141, 9) := if_neg (Int32.not_lt.mpr hc2142)
            have e3 : nz_s (z2141, 9) 4 2 = (z2149, 11) := (if_pos (Int32.not_le.mp hc2144)).trans (by rw [hz2149]; exact Prod.ext rfl (show (9 : Int32) + 2 = 11 by decide))
            have eq : nz_q z2113 = (z2149, 11) := by unfold nz_q; rw [e0, e1, e2, e3]
            have hE : z2151 = nz_f ((p2109 ^^^ (-1)) &&& (p2109 - 1)) := by rw [hm, nz_f, if_pos hc2114, eq, hz2151, hz2150]; rfl
            exact G_iretA dr_cJ6_numberOfTrailingZeros_0f7a4_79 rfl (Nat.le_of_ble_eq_true rfl) (Nat.le_of_ble_eq_true rfl) ⟨z2151, rfl, rfl, (Nat.le_of_ble_eq_true rfl), (Nat.le_of_ble_eq_true rfl), hE⟩
        · have r2152 : 16 < z2141.toInt := gj_nle hc2142 (show Int32.toInt 16 = 16 by decide)
          have bz2141' : gB z2141 17 2147483647 := ⟨by omega, by omega⟩
          refine G_iinc (L' := [(1, .int 13), (0, .int z2141)]) (13) 1 dr_cJ6_numberOfTrailingZeros_0f7a4_55 rfl (by decide) (Nat.le_of_ble_eq_true rfl) rfl ?_
          refine G_iload_n 1 dr_cJ6_numberOfTrailingZeros_0f7a4_58 rfl ?_
          refine G_iconst 4 dr_cJ6_numberOfTrailingZeros_0f7a4_59 (by decide +kernel) ?_
          refine G_iushr dr_cJ6_numberOfTrailingZeros_0f7a4_60 (G_nam fun z2153 hz2153 => ?_)
          have bz2153 : gB z2153 (-2147483648) 2147483647 := gB_any z2153
          refine G_istore_n (L' := [(0, .int z2153), (1, .int 13)]) dr_cJ6_numberOfTrailingZeros_0f7a4_61 (Nat.le_of_ble_eq_true rfl) rfl ?_
          refine G_iload_n 0 dr_cJ6_numberOfTrailingZeros_0f7a4_62 rfl ?_
          refine G_iconst 4 dr_cJ6_numberOfTrailingZeros_0f7a4_63 (by decide +kernel) ?_
          refine G_icmp_le 74 dr_cJ6_numberOfTrailingZeros_0f7a4_64 (by decide +kernel) (fun hc2154 => ?_) (fun hc2154 => ?_)
          · have r2155 : z2153.toInt ≤ 4 := gj_le hc2154 (show Int32.toInt 4 = 4 by decide)
            have bz2153' : gB z2153 (-2147483648) 4 := ⟨by omega, by omega⟩
            refine G_iload_n 1 dr_cJ6_numberOfTrailingZeros_0f7a4_74 rfl ?_
            refine G_iload_n 0 dr_cJ6_numberOfTrailingZeros_0f7a4_75 rfl ?_
            refine G_iconst 1 dr_cJ6_numberOfTrailingZeros_0f7a4_76 (by decide +kernel) ?_
            refine G_iushr dr_cJ6_numberOfTrailingZeros_0f7a4_77 (G_nam fun z2156 hz2156 => ?_)
            have bz2156 : gB z2156 (-2147483648) 2147483647 := gB_any z2156
            refine G_iadd dr_cJ6_numberOfTrailingZeros_0f7a4_78 (G_nam fun z2157 hz2157 => ?_)
            have bz2157 : gB z2157 (-2147483648) 2147483647 := gB_any z2157
            have hm : (p2109 ^^^ (-1)) &&& (p2109 - 1) = z2113 := by rw [hz2113, hz2111, hz2112]
            have e0 : nz_s (z2113, 1) 65536 16 = (z2113, 1) := if_neg (Int32.not_lt.mpr hc2116)
            have e1 : nz_s (z2113, 1) 256 8 = (z2141, 9) := (if_pos (Int32.not_le.mp hc2118)).trans (by rw [hz2141]; exact Prod.ext rfl (show (1 : Int32) + 8 = 9 by decide))
            have e2 : nz_s (z2141, 9) 16 4 = (z2153, 13) := (if_pos (Int32.not_le.mp hc2142)).trans (by rw [hz2153]; exact Prod.ext rfl (show (9 : Int32) + 4 = 13 by decide))
            have e3 : nz_s (z2153, 13) 4 2 = (z2153, 13) := if_neg (Int32.not_lt.mpr hc2154)
            have eq : nz_q z2113 = (z2153, 13) := by unfold nz_q; rw [e0, e1, e2, e3]
            have hE : z2157 = nz_f ((p2109 ^^^ (-1)) &&& (p2109 - 1)) := by rw [hm, nz_f, if_pos hc2114, eq, hz2157, hz2156]; rfl
            exact G_iretA dr_cJ6_numberOfTrailingZeros_0f7a4_79 rfl (Nat.le_of_ble_eq_true rfl) (Nat.le_of_ble_eq_true rfl) ⟨z2157, rfl, rfl, (Nat.le_of_ble_eq_true rfl), (Nat.le_of_ble_eq_true rfl), hE⟩
          · have r2158 : 4 < z2153.toInt := gj_nle hc2154 (show Int32.toInt 4 = 4 by decide)
            have bz2153' : gB z2153 5 2147483647 := ⟨by omega, by omega⟩
            refine G_iinc (L' := [(1, .int 15), (0, .int z2153)]) (15) 1 dr_cJ6_numberOfTrailingZeros_0f7a4_67 rfl (by decide) (Nat.le_of_ble_eq_true rfl) rfl ?_
            refine G_iload_n 1 dr_cJ6_numberOfTrailingZeros_0f7a4_70 rfl ?_
            refine G_iconst 2 dr_cJ6_numberOfTrailingZeros_0f7a4_71 (by decide +kernel) ?_
            refine G_iushr dr_cJ6_numberOfTrailingZeros_0f7a4_72 (G_nam fun z2159 hz2159 => ?_)
            have bz2159 : gB z2159 (-2147483648) 2147483647 := gB_any z2159
            refine G_istore_n (L' := [(0, .int z2159), (1, .int 15)]) dr_cJ6_numberOfTrailingZeros_0f7a4_73 (Nat.le_of_ble_eq_true rfl) rfl ?_
            refine G_iload_n 1 dr_cJ6_numberOfTrailingZeros_0f7a4_74 rfl ?_
            refine G_iload_n 0 dr_cJ6_numberOfTrailingZeros_0f7a4_75 rfl ?_
            refine G_iconst 1 dr_cJ6_numberOfTrailingZeros_0f7a4_76 (by decide +kernel) ?_
            refine G_iushr dr_cJ6_numberOfTrailingZeros_0f7a4_77 (G_nam fun z2160 hz2160 => ?_)
            have bz2160 : gB z2160 (-2147483648) 2147483647 := gB_any z2160
            refine G_iadd dr_cJ6_numberOfTrailingZeros_0f7a4_78 (G_nam fun z2161 hz2161 => ?_)
            have bz2161 : gB z2161 (-2147483648) 2147483647 := gB_any z2161
            have hm : (p2109 ^^^ (-1)) &&& (p2109 - 1) = z2113 := by rw [hz2113, hz2111, hz2112]
            have e0 : nz_s (z2113, 1) 65536 16 = (z2113, 1) := if_neg (Int32.not_lt.mpr hc2116)
            have e1 : nz_s (z2113, 1) 256 8 = (z2141, 9) := (if_pos (Int32.not_le.mp hc2118)).trans (by rw [hz2141]; exact Prod.ext rfl (show (1 : Int32) + 8 = 9 by decide))
            have e2 : nz_s (z2141, 9) 16 4 = (z2153, 13) := (if_pos (Int32.not_le.mp hc2142)).trans (by rw [hz2153]; exact Prod.ext rfl (show (9 : Int32) + 4 = 13 by decide))
            have e3 : nz_s (z2153, 13) 4 2 = (z2159, 15) := (if_pos (Int32.not_le.mp hc2154)).trans (by rw [hz2159]; exact Prod.ext rfl (show (13 : Int32) + 2 = 15 by decide))
            have eq : nz_q z2113 = (z2159, 15) := by unfold nz_q; rw [e0, e1, e2, e3]
            have hE : z2161 = nz_f ((p2109 ^^^ (-1)) &&& (p2109 - 1)) := by rw [hm, nz_f, if_pos hc2114, eq, hz2161, hz2160]; rfl
            exact G_iretA dr_cJ6_numberOfTrailingZeros_0f7a4_79 rfl (Nat.le_of_ble_eq_true rfl) (Nat.le_of_ble_eq_true rfl) ⟨z2161, rfl, rfl, (Nat.le_of_ble_eq_true rfl), (Nat.le_of_ble_eq_true rfl), hE⟩
    · have r2162 : 65536 < z2113.toInt := gj_nle hc2116 (show Int32.toInt 65536 = 65536 by decide)
      have bz2113'' : gB z2113 65537 2147483647 := ⟨by omega, by omega⟩
      refine G_iinc (L' := [(1, .int 17), (0, .int z2113)]) (17) 0 dr_cJ6_numberOfTrailingZeros_0f7a4_26 rfl (by decide) (Nat.le_of_ble_eq_true rfl) rfl ?_
      refine G_iload_n 1 dr_cJ6_numberOfTrailingZeros_0f7a4_29 rfl ?_
      refine G_bipush 16 dr_cJ6_numberOfTrailingZeros_0f7a4_30 (by decide +kernel) ?_
      refine G_iushr dr_cJ6_numberOfTrailingZeros_0f7a4_32 (G_nam fun z2163 hz2163 => ?_)
      have bz2163 : gB z2163 (-2147483648) 2147483647 := gB_any z2163
      refine G_istore_n (L' := [(0, .int z2163), (1, .int 17)]) dr_cJ6_numberOfTrailingZeros_0f7a4_33 (Nat.le_of_ble_eq_true rfl) rfl ?_
      refine G_iload_n 0 dr_cJ6_numberOfTrailingZeros_0f7a4_34 rfl ?_
      refine G_sipush 256 dr_cJ6_numberOfTrailingZeros_0f7a4_35 (by decide +kernel) ?_
      refine G_icmp_le 49 dr_cJ6_numberOfTrailingZeros_0f7a4_38 (by decide +kernel) (fun hc2164 => ?_) (fun hc2164 => ?_)
      · have r2165 : z2163.toInt ≤ 256 := gj_le hc2164 (show Int32.toInt 256 = 256 by decide)
        have bz2163' : gB z2163 (-2147483648) 256 := ⟨by omega, by omega⟩
        refine G_iload_n 0 dr_cJ6_numberOfTrailingZeros_0f7a4_49 rfl ?_
        refine G_bipush 16 dr_cJ6_numberOfTrailingZeros_0f7a4_50 (by decide +kernel) ?_
        refine G_icmp_le 62 dr_cJ6_numberOfTrailingZeros_0f7a4_52 (by decide +kernel) (fun hc2166 => ?_) (fun hc2166 => ?_)
        · have r2167 : z2163.toInt ≤ 16 := gj_le hc2166 (show Int32.toInt 16 = 16 by decide)
          have bz2163'' : gB z2163 (-2147483648) 16 := ⟨by omega, by omega⟩
          refine G_iload_n 0 dr_cJ6_numberOfTrailingZeros_0f7a4_62 rfl ?_
          refine G_iconst 4 dr_cJ6_numberOfTrailingZeros_0f7a4_63 (by decide +kernel) ?_
          refine G_icmp_le 74 dr_cJ6_numberOfTrailingZeros_0f7a4_64 (by decide +kernel) (fun hc2168 => ?_) (fun hc2168 => ?_)
          · have r2169 : z2163.toInt ≤ 4 := gj_le hc2168 (show Int32.toInt 4 = 4 by decide)
            have bz2163''' : gB z2163 (-2147483648) 4 := ⟨by omega, by omega⟩
            refine G_iload_n 1 dr_cJ6_numberOfTrailingZeros_0f7a4_74 rfl ?_
            refine G_iload_n 0 dr_cJ6_numberOfTrailingZeros_0f7a4_75 rfl ?_
            refine G_iconst 1 dr_cJ6_numberOfTrailingZeros_0f7a4_76 (by decide +kernel) ?_
            refine G_iushr dr_cJ6_numberOfTrailingZeros_0f7a4_77 (G_nam fun z2170 hz2170 => ?_)
            have bz2170 : gB z2170 (-2147483648) 2147483647 := gB_any z2170
            refine G_iadd dr_cJ6_numberOfTrailingZeros_0f7a4_78 (G_nam fun z2171 hz2171 => ?_)
            have bz2171 : gB z2171 (-2147483648) 2147483647 := gB_any z2171
            have hm : (p2109 ^^^ (-1)) &&& (p2109 - 1) = z2113 := by rw [hz2113, hz2111, hz2112]
            have e0 : nz_s (z2113, 1) 65536 16 = (z2163, 17) := (if_pos (Int32.not_le.mp hc2116)).trans (by rw [hz2163]; exact Prod.ext rfl (show (1 : Int32) + 16 = 17 by decide))
            have e1 : nz_s (z2163, 17) 256 8 = (z2163, 17) := if_neg (Int32.not_lt.mpr hc2164)
            have e2 : nz_s (z2163, 17) 16 4 = (z2163, 17) := if_neg (Int32.not_lt.mpr hc2166)
            have e3 : nz_s (z2163, 17) 4 2 = (z2163, 17) := if_neg (Int32.not_lt.mpr hc2168)
            have eq : nz_q z2113 = (z2163, 17) := by unfold nz_q; rw [e0, e1, e2, e3]
            have hE : z2171 = nz_f ((p2109 ^^^ (-1)) &&& (p2109 - 1)) := by rw [hm, nz_f, if_pos hc2114, eq, hz2171, hz2170]; rfl
            exact G_iretA dr_cJ6_numberOfTrailingZeros_0f7a4_79 rfl (Nat.le_of_ble_eq_true rfl) (Nat.le_of_ble_eq_true rfl) ⟨z2171, rfl, rfl, (Nat.le_of_ble_eq_true rfl), (Nat.le_of_ble_eq_true rfl), hE⟩
          · have r2172 : 4 < z2163.toInt := gj_nle hc2168 (show Int32.toInt 4 = 4 by decide)
            have bz2163''' : gB z2163 5 16 := ⟨by omega, by omega⟩
            refine G_iinc (L' := [(1, .int 19), (0, .int z2163)]) (19) 1 dr_cJ6_numberOfTrailingZeros_0f7a4_67 rfl (by decide) (Nat.le_of_ble_eq_true rfl) rfl ?_
            refine G_iload_n 1 dr_cJ6_numberOfTrailingZeros_0f7a4_70 rfl ?_
            refine G_iconst 2 dr_cJ6_numberOfTrailingZeros_0f7a4_71 (by decide +kernel) ?_
            refine G_iushr dr_cJ6_numberOfTrailingZeros_0f7a4_72 (G_nam fun z2173 hz2173 => ?_)
            have bz2173 : gB z2173 (-2147483648) 2147483647 := gB_any z2173
            refine G_istore_n (L' := [(0, .int z2173), (1, .int 19)]) dr_cJ6_numberOfTrailingZeros_0f7a4_73 (Nat.le_of_ble_eq_true rfl) rfl ?_
            refine G_iload_n 1 dr_cJ6_numberOfTrailingZeros_0f7a4_74 rfl ?_
            refine G_iload_n 0 dr_cJ6_numberOfTrailingZeros_0f7a4_75 rfl ?_
            refine G_iconst 1 dr_cJ6_numberOfTrailingZeros_0f7a4_76 (by decide +kernel) ?_
            refine G_iushr dr_cJ6_numberOfTrailingZeros_0f7a4_77 (G_nam fun z2174 hz2174 => ?_)
            have bz2174 : gB z2174 (-2147483648) 2147483647 := gB_any z2174
            refine G_iadd dr_cJ6_numberOfTrailingZeros_0f7a4_78 (G_nam fun z2175 hz2175 => ?_)
            have bz2175 : gB z2175 (-2147483648) 2147483647 := gB_any z2175
            have hm : (p2109 ^^^ (-1)) &&& (p2109 - 1) = z2113 := by rw [hz2113, hz2111, hz2112]
            have e0 : nz_s (z2113, 1) 65536 16 = (z2163, 17) := (if_pos (Int32.not_le.mp hc2116)).trans (by rw [hz2163]; exact Prod.ext rfl (show (1 : Int32) + 16 = 17 by decide))
            have e1 : nz_s (z2163, 17) 256 8 = (z2163, 17) := if_neg (Int32.not_lt.mpr hc2164)
            have e2 : nz_s (z2163, 17) 16 4 = (z2163, 17) := if_neg (Int32.not_lt.mpr hc2166)
            have e3 : nz_s (z2163, 17) 4 2 = (z2173, 19) := (if_pos (Int32.not_le.mp hc2168)).trans (by rw [hz2173]; exact Prod.ext rfl (show (17 : Int32) + 2 = 19 by decide))
            have eq : nz_q z2113 = (z2173, 19) := by unfold nz_q; rw [e0, e1, e2, e3]
            have hE : z2175 = nz_f ((p2109 ^^^ (-1)) &&& (p2109 - 1)) := by rw [hm, nz_f, if_pos hc2114, eq, hz2175, hz2174]; rfl
            exact G_iretA dr_cJ6_numberOfTrailingZeros_0f7a4_79 rfl (Nat.le_of_ble_eq_true rfl) (Nat.le_of_ble_eq_true rfl) ⟨z2175, rfl, rfl, (Nat.le_of_ble_eq_true rfl), (Nat.le_of_ble_eq_true rfl), hE⟩
        · have r2176 : 16 < z2163.toInt := gj_nle hc2166 (show Int32.toInt 16 = 16 by decide)
          have bz2163'' : gB z2163 17 256 := ⟨by omega, by omega⟩
          refine G_iinc (L' := [(1, .int 21), (0, .int z2163)]) (21) 1 dr_cJ6_numberOfTrailingZeros_0f7a4_55 rfl (by decide) (Nat.le_of_ble_eq_true rfl) rfl ?_
          refine G_iload_n 1 dr_cJ6_numberOfTrailingZeros_0f7a4_58 rfl ?_
          refine G_iconst 4 dr_cJ6_numberOfTrailingZeros_0f7a4_59 (by decide +kernel) ?_
          refine G_iushr dr_cJ6_numberOfTrailingZeros_0f7a4_60 (G_nam fun z2177 hz2177 => ?_)
          have bz2177 : gB z2177 (-2147483648) 2147483647 := gB_any z2177
          refine G_istore_n (L' := [(0, .int z2177), (1, .int 21)]) dr_cJ6_numberOfTrailingZeros_0f7a4_61 (Nat.le_of_ble_eq_true rfl) rfl ?_
          refine G_iload_n 0 dr_cJ6_numberOfTrailingZeros_0f7a4_62 rfl ?_
          refine G_iconst 4 dr_cJ6_numberOfTrailingZeros_0f7a4_63 (by decide +kernel) ?_
          refine G_icmp_le 74 dr_cJ6_numberOfTrailingZeros_0f7a4_64 (by decide +kernel) (fun hc2178 => ?_) (fun hc2178 => ?_)
          · have r2179 : z2177.toInt ≤ 4 := gj_le hc2178 (show Int32.toInt 4 = 4 by decide)
            have bz2177' : gB z2177 (-2147483648) 4 := ⟨by omega, by omega⟩
            refine G_iload_n 1 dr_cJ6_numberOfTrailingZeros_0f7a4_74 rfl ?_
            refine G_iload_n 0 dr_cJ6_numberOfTrailingZeros_0f7a4_75 rfl ?_
            refine G_iconst 1 dr_cJ6_numberOfTrailingZeros_0f7a4_76 (by decide +kernel) ?_
            refine G_iushr dr_cJ6_numberOfTrailingZeros_0f7a4_77 (G_nam fun z2180 hz2180 => ?_)
            have bz2180 : gB z2180 (-2147483648) 2147483647 := gB_any z2180
            refine G_iadd dr_cJ6_numberOfTrailingZeros_0f7a4_78 (G_nam fun z2181 hz2181 => ?_)
            have bz2181 : gB z2181 (-2147483648) 2147483647 := gB_any z2181
            have hm : (p2109 ^^^ (-1)) &&& (p2109 - 1) = z2113 := by rw [hz2113, hz2111, hz2112]
            have e0 : nz_s (z2113, 1) 65536 16 = (z2163, 17) := (if_pos (Int32.not_le.mp hc2116)).trans (by rw [hz2163]; exact Prod.ext rfl (show (1 : Int32) + 16 = 17 by decide))
            have e1 : nz_s (z2163, 17) 256 8 = (z2163, 17) := if_neg (Int32.not_lt.mpr hc2164)
            have e2 : nz_s (z2163, 17) 16 4 = (z2177, 21) := (if_pos (Int32.not_le.mp hc2166)).trans (by rw [hz2177]; exact Prod.ext rfl (show (17 : Int32) + 4 = 21 by decide))
            have e3 : nz_s (z2177, 21) 4 2 = (z2177, 21) := if_neg (Int32.not_lt.mpr hc2178)
            have eq : nz_q z2113 = (z2177, 21) := by unfold nz_q; rw [e0, e1, e2, e3]
            have hE : z2181 = nz_f ((p2109 ^^^ (-1)) &&& (p2109 - 1)) := by rw [hm, nz_f, if_pos hc2114, eq, hz2181, hz2180]; rfl
            exact G_iretA dr_cJ6_numberOfTrailingZeros_0f7a4_79 rfl (Nat.le_of_ble_eq_true rfl) (Nat.le_of_ble_eq_true rfl) ⟨z2181, rfl, rfl, (Nat.le_of_ble_eq_true rfl), (Nat.le_of_ble_eq_true rfl), hE⟩
          · have r2182 : 4 < z2177.toInt := gj_nle hc2178 (show Int32.toInt 4 = 4 by decide)
            have bz2177' : gB z2177 5 2147483647 := ⟨by omega, by omega⟩
            refine G_iinc (L' := [(1, .int 23), (0, .int z2177)]) (23) 1 dr_cJ6_numberOfTrailingZeros_0f7a4_67 rfl (by decide) (Nat.le_of_ble_eq_true rfl) rfl ?_
            refine G_iload_n 1 dr_cJ6_numberOfTrailingZeros_0f7a4_70 rfl ?_
            refine G_iconst 2 dr_cJ6_numberOfTrailingZeros_0f7a4_71 (by decide +kernel) ?_
            refine G_iushr dr_cJ6_numberOfTrailingZeros_0f7a4_72 (G_nam fun z2183 hz2183 => ?_)
            have bz2183 : gB z2183 (-2147483648) 2147483647 := gB_any z2183
            refine G_istore_n (L' := [(0, .int z2183), (1, .int 23)]) dr_cJ6_numberOfTrailingZeros_0f7a4_73 (Nat.le_of_ble_eq_true rfl) rfl ?_
            refine G_iload_n 1 dr_cJ6_numberOfTrailingZeros_0f7a4_74 rfl ?_
            refine G_iload_n 0 dr_cJ6_numberOfTrailingZeros_0f7a4_75 rfl ?_
            refine G_iconst 1 dr_cJ6_numberOfTrailingZeros_0f7a4_76 (by decide +kernel) ?_
            refine G_iushr dr_cJ6_numberOfTrailingZeros_0f7a4_77 (G_nam fun z2184 hz2184 => ?_)
            have bz2184 : gB z2184 (-2147483648) 2147483647 := gB_any z2184
            refine G_iadd dr_cJ6_numberOfTrailingZeros_0f7a4_78 (G_nam fun z2185 hz2185 => ?_)
            have bz2185 : gB z2185 (-2147483648) 2147483647 := gB_any z2185
            have hm : (p2109 ^^^ (-1)) &&& (p2109 - 1) = z2113 := by rw [hz2113, hz2111, hz2112]
            have e0 : nz_s (z2113, 1) 65536 16 = (z2163, 17) := (if_pos (Int32.not_le.mp hc2116)).trans (by rw [hz2163]; exact Prod.ext rfl (show (1 : Int32) + 16 = 17 by decide))
            have e1 : nz_s (z2163, 17) 256 8 = (z2163, 17) := if_neg (Int32.not_lt.mpr hc2164)
            have e2 : nz_s (z2163, 17) 16 4 = (z2177, 21) := (if_pos (Int32.not_le.mp hc2166)).trans (by rw [hz2177]; exact Prod.ext rfl (show (17 : Int32) + 4 = 21 by decide))
            have e3 : nz_s (z2177, 21) 4 2 = (z2183, 23) := (if_pos (Int32.not_le.mp hc2178)).trans (by rw [hz2183]; exact Prod.ext rfl (show (21 : Int32) + 2 = 23 by decide))
            have eq : nz_q z2113 = (z2183, 23) := by unfold nz_q; rw [e0, e1, e2, e3]
            have hE : z2185 = nz_f ((p2109 ^^^ (-1)) &&& (p2109 - 1)) := by rw [hm, nz_f, if_pos hc2114, eq, hz2185, hz2184]; rfl
            exact G_iretA dr_cJ6_numberOfTrailingZeros_0f7a4_79 rfl (Nat.le_of_ble_eq_true rfl) (Nat.le_of_ble_eq_true rfl) ⟨z2185, rfl, rfl, (Nat.le_of_ble_eq_true rfl), (Nat.le_of_ble_eq_true rfl), hE⟩
      · have r2186 : 256 < z2163.toInt := gj_nle hc2164 (show Int32.toInt 256 = 256 by decide)
        have bz2163' : gB z2163 257 2147483647 := ⟨by omega, by omega⟩
        refine G_iinc (L' := [(1, .int 25), (0, .int z2163)]) (25) 1 dr_cJ6_numberOfTrailingZeros_0f7a4_41 rfl (by decide) (Nat.le_of_ble_eq_true rfl) rfl ?_
        refine G_iload_n 1 dr_cJ6_numberOfTrailingZeros_0f7a4_44 rfl ?_
        refine G_bipush 8 dr_cJ6_numberOfTrailingZeros_0f7a4_45 (by decide +kernel) ?_
        refine G_iushr dr_cJ6_numberOfTrailingZeros_0f7a4_47 (G_nam fun z2187 hz2187 => ?_)
        have bz2187 : gB z2187 (-2147483648) 2147483647 := gB_any z2187
        refine G_istore_n (L' := [(0, .int z2187), (1, .int 25)]) dr_cJ6_numberOfTrailingZeros_0f7a4_48 (Nat.le_of_ble_eq_true rfl) rfl ?_
        refine G_iload_n 0 dr_cJ6_numberOfTrailingZeros_0f7a4_49 rfl ?_
        refine G_bipush 16 dr_cJ6_numberOfTrailingZeros_0f7a4_50 (by decide +kernel) ?_
        refine G_icmp_le 62 dr_cJ6_numberOfTrailingZeros_0f7a4_52 (by decide +kernel) (fun hc2188 => ?_) (fun hc2188 => ?_)
        · have r2189 : z2187.toInt ≤ 16 := gj_le hc2188 (show Int32.toInt 16 = 16 by decide)
          have bz2187' : gB z2187 (-2147483648) 16 := ⟨by omega, by omega⟩
          refine G_iload_n 0 dr_cJ6_numberOfTrailingZeros_0f7a4_62 rfl ?_
          refine G_iconst 4 dr_cJ6_numberOfTrailingZeros_0f7a4_63 (by decide +kernel) ?_
          refine G_icmp_le 74 dr_cJ6_numberOfTrailingZeros_0f7a4_64 (by decide +kernel) (fun hc2190 => ?_) (fun hc2190 => ?_)
          · have r2191 : z2187.toInt ≤ 4 := gj_le hc2190 (show Int32.toInt 4 = 4 by decide)
            have bz2187'' : gB z2187 (-2147483648) 4 := ⟨by omega, by omega⟩
            refine G_iload_n 1 dr_cJ6_numberOfTrailingZeros_0f7a4_74 rfl ?_
            refine G_iload_n 0 dr_cJ6_numberOfTrailingZeros_0f7a4_75 rfl ?_
            refine G_iconst 1 dr_cJ6_numberOfTrailingZeros_0f7a4_76 (by decide +kernel) ?_
            refine G_iushr dr_cJ6_numberOfTrailingZeros_0f7a4_77 (G_nam fun z2192 hz2192 => ?_)
            have bz2192 : gB z2192 (-2147483648) 2147483647 := gB_any z2192
            refine G_iadd dr_cJ6_numberOfTrailingZeros_0f7a4_78 (G_nam fun z2193 hz2193 => ?_)
            have bz2193 : gB z2193 (-2147483648) 2147483647 := gB_any z2193
            have hm : (p2109 ^^^ (-1)) &&& (p2109 - 1) = z2113 := by rw [hz2113, hz2111, hz2112]
            have e0 : nz_s (z2113, 1) 65536 16 = (z2163, 17) := (if_pos (Int32.not_le.mp hc2116)).trans (by rw [hz2163]; exact Prod.ext rfl (show (1 : Int32) + 16 = 17 by decide))
            have e1 : nz_s (z2163, 17) 256 8 = (z2187, 25) := (if_pos (Int32.not_le.mp hc2164)).trans (by rw [hz2187]; exact Prod.ext rfl (show (17 : Int32) + 8 = 25 by decide))
            have e2 : nz_s (z2187, 25) 16 4 = (z2187, 25) := if_neg (Int32.not_lt.mpr hc2188)
            have e3 : nz_s (z2187, 25) 4 2 = (z2187, 25) := if_neg (Int32.not_lt.mpr hc2190)
            have eq : nz_q z2113 = (z2187, 25) := by unfold nz_q; rw [e0, e1, e2, e3]
            have hE : z2193 = nz_f ((p2109 ^^^ (-1)) &&& (p2109 - 1)) := by rw [hm, nz_f, if_pos hc2114, eq, hz2193, hz2192]; rfl
            exact G_iretA dr_cJ6_numberOfTrailingZeros_0f7a4_79 rfl (Nat.le_of_ble_eq_true rfl) (Nat.le_of_ble_eq_true rfl) ⟨z2193, rfl, rfl, (Nat.le_of_ble_eq_true rfl), (Nat.le_of_ble_eq_true rfl), hE⟩
          · have r2194 : 4 < z2187.toInt := gj_nle hc2190 (show Int32.toInt 4 = 4 by decide)
            have bz2187'' : gB z2187 5 16 := ⟨by omega, by omega⟩
            refine G_iinc (L' := [(1, .int 27), (0, .int z2187)]) (27) 1 dr_cJ6_numberOfTrailingZeros_0f7a4_67 rfl (by decide) (Nat.le_of_ble_eq_true rfl) rfl ?_
            refine G_iload_n 1 dr_cJ6_numberOfTrailingZeros_0f7a4_70 rfl ?_
            refine G_iconst 2 dr_cJ6_numberOfTrailingZeros_0f7a4_71 (by decide +kernel) ?_
            refine G_iushr dr_cJ6_numberOfTrailingZeros_0f7a4_72 (G_nam fun z2195 hz2195 => ?_)
            have bz2195 : gB z2195 (-2147483648) 2147483647 := gB_any z2195
            refine G_istore_n (L' := [(0, .int z2195), (1, .int 27)]) dr_cJ6_numberOfTrailingZeros_0f7a4_73 (Nat.le_of_ble_eq_true rfl) rfl ?_
            refine G_iload_n 1 dr_cJ6_numberOfTrailingZeros_0f7a4_74 rfl ?_
            refine G_iload_n 0 dr_cJ6_numberOfTrailingZeros_0f7a4_75 rfl ?_
            refine G_iconst 1 dr_cJ6_numberOfTrailingZeros_0f7a4_76 (by decide +kernel) ?_
            refine G_iushr dr_cJ6_numberOfTrailingZeros_0f7a4_77 (G_nam fun z2196 hz2196 => ?_)
            have bz2196 : gB z2196 (-2147483648) 2147483647 := gB_any z2196
            refine G_iadd dr_cJ6_numberOfTrailingZeros_0f7a4_78 (G_nam fun z2197 hz2197 => ?_)
            have bz2197 : gB z2197 (-2147483648) 2147483647 := gB_any z2197
            have hm : (p2109 ^^^ (-1)) &&& (p2109 - 1) = z2113 := by rw [hz2113, hz2111, hz2112]
            have e0 : nz_s (z2113, 1) 65536 16 = (z2163, 17) := (if_pos (Int32.not_le.mp hc2116)).trans (by rw [hz2163]; exact Prod.ext rfl (show (1 : Int32) + 16 = 17 by decide))
            have e1 : nz_s (z2163, 17) 256 8 = (z2187, 25) := (if_pos (Int32.not_le.mp hc2164)).trans (by rw [hz2187]; exact Prod.ext rfl (show (17 : Int32) + 8 = 25 by decide))
            have e2 : nz_s (z2187, 25) 16 4 = (z2187, 25) := if_neg (Int32.not_lt.mpr hc2188)
            have e3 : nz_s (z2187, 25) 4 2 = (z2195, 27) := (if_pos (Int32.not_le.mp hc2190)).trans (by rw [hz2195]; exact Prod.ext rfl (show (25 : Int32) + 2 = 27 by decide))
            have eq : nz_q z2113 = (z2195, 27) := by unfold nz_q; rw [e0, e1, e2, e3]
            have hE : z2197 = nz_f ((p2109 ^^^ (-1)) &&& (p2109 - 1)) := by rw [hm, nz_f, if_pos hc2114, eq, hz2197, hz2196]; rfl
            exact G_iretA dr_cJ6_numberOfTrailingZeros_0f7a4_79 rfl (Nat.le_of_ble_eq_true rfl) (Nat.le_of_ble_eq_true rfl) ⟨z2197, rfl, rfl, (Nat.le_of_ble_eq_true rfl), (Nat.le_of_ble_eq_true rfl), hE⟩
        · have r2198 : 16 < z2187.toInt := gj_nle hc2188 (show Int32.toInt 16 = 16 by decide)
          have bz2187' : gB z2187 17 2147483647 := ⟨by omega, by omega⟩
          refine G_iinc (L' := [(1, .int 29), (0, .int z2187)]) (29) 1 dr_cJ6_numberOfTrailingZeros_0f7a4_55 rfl (by decide) (Nat.le_of_ble_eq_true rfl) rfl ?_
          refine G_iload_n 1 dr_cJ6_numberOfTrailingZeros_0f7a4_58 rfl ?_
          refine G_iconst 4 dr_cJ6_numberOfTrailingZeros_0f7a4_59 (by decide +kernel) ?_
          refine G_iushr dr_cJ6_numberOfTrailingZeros_0f7a4_60 (G_nam fun z2199 hz2199 => ?_)
          have bz2199 : gB z2199 (-2147483648) 2147483647 := gB_any z2199
          refine G_istore_n (L' := [(0, .int z2199), (1, .int 29)]) dr_cJ6_numberOfTrailingZeros_0f7a4_61 (Nat.le_of_ble_eq_true rfl) rfl ?_
          refine G_iload_n 0 dr_cJ6_numberOfTrailingZeros_0f7a4_62 rfl ?_
          refine G_iconst 4 dr_cJ6_numberOfTrailingZeros_0f7a4_63 (by decide +kernel) ?_
          refine G_icmp_le 74 dr_cJ6_numberOfTrailingZeros_0f7a4_64 (by decide +kernel) (fun hc2200 => ?_) (fun hc2200 => ?_)
          · have r2201 : z2199.toInt ≤ 4 := gj_le hc2200 (show Int32.toInt 4 = 4 by decide)
            have bz2199' : gB z2199 (-2147483648) 4 := ⟨by omega, by omega⟩
            refine G_iload_n 1 dr_cJ6_numberOfTrailingZeros_0f7a4_74 rfl ?_
            refine G_iload_n 0 dr_cJ6_numberOfTrailingZeros_0f7a4_75 rfl ?_
            refine G_iconst 1 dr_cJ6_numberOfTrailingZeros_0f7a4_76 (by decide +kernel) ?_
            refine G_iushr dr_cJ6_numberOfTrailingZeros_0f7a4_77 (G_nam fun z2202 hz2202 => ?_)
            have bz2202 : gB z2202 (-2147483648) 2147483647 := gB_any z2202
            refine G_iadd dr_cJ6_numberOfTrailingZeros_0f7a4_78 (G_nam fun z2203 hz2203 => ?_)
            have bz2203 : gB z2203 (-2147483648) 2147483647 := gB_any z2203
            have hm : (p2109 ^^^ (-1)) &&& (p2109 - 1) = z2113 := by rw [hz2113, hz2111, hz2112]
            have e0 : nz_s (z2113, 1) 65536 16 = (z2163, 17) := (if_pos (Int32.not_le.mp hc2116)).trans (by rw [hz2163]; exact Prod.ext rfl (show (1 : Int32) + 16 = 17 by decide))
            have e1 : nz_s (z2163, 17) 256 8 = (z2187, 25) := (if_pos (Int32.not_le.mp hc2164)).trans (by rw [hz2187]; exact Prod.ext rfl (show (17 : Int32) + 8 = 25 by decide))
            have e2 : nz_s (z2187, 25) 16 4 = (z2199, 29) := (if_pos (Int32.not_le.mp hc2188)).trans (by rw [hz2199]; exact Prod.ext rfl (show (25 : Int32) + 4 = 29 by decide))
            have e3 : nz_s (z2199, 29) 4 2 = (z2199, 29) := if_neg (Int32.not_lt.mpr hc2200)
            have eq : nz_q z2113 = (z2199, 29) := by unfold nz_q; rw [e0, e1, e2, e3]
            have hE : z2203 = nz_f ((p2109 ^^^ (-1)) &&& (p2109 - 1)) := by rw [hm, nz_f, if_pos hc2114, eq, hz2203, hz2202]; rfl
            exact G_iretA dr_cJ6_numberOfTrailingZeros_0f7a4_79 rfl (Nat.le_of_ble_eq_true rfl) (Nat.le_of_ble_eq_true rfl) ⟨z2203, rfl, rfl, (Nat.le_of_ble_eq_true rfl), (Nat.le_of_ble_eq_true rfl), hE⟩
          · have r2204 : 4 < z2199.toInt := gj_nle hc2200 (show Int32.toInt 4 = 4 by decide)
            have bz2199' : gB z2199 5 2147483647 := ⟨by omega, by omega⟩
            refine G_iinc (L' := [(1, .int 31), (0, .int z2199)]) (31) 1 dr_cJ6_numberOfTrailingZeros_0f7a4_67 rfl (by decide) (Nat.le_of_ble_eq_true rfl) rfl ?_
            refine G_iload_n 1 dr_cJ6_numberOfTrailingZeros_0f7a4_70 rfl ?_
            refine G_iconst 2 dr_cJ6_numberOfTrailingZeros_0f7a4_71 (by decide +kernel) ?_
            refine G_iushr dr_cJ6_numberOfTrailingZeros_0f7a4_72 (G_nam fun z2205 hz2205 => ?_)
            have bz2205 : gB z2205 (-2147483648) 2147483647 := gB_any z2205
            refine G_istore_n (L' := [(0, .int z2205), (1, .int 31)]) dr_cJ6_numberOfTrailingZeros_0f7a4_73 (Nat.le_of_ble_eq_true rfl) rfl ?_
            refine G_iload_n 1 dr_cJ6_numberOfTrailingZeros_0f7a4_74 rfl ?_
            refine G_iload_n 0 dr_cJ6_numberOfTrailingZeros_0f7a4_75 rfl ?_
            refine G_iconst 1 dr_cJ6_numberOfTrailingZeros_0f7a4_76 (by decide +kernel) ?_
            refine G_iushr dr_cJ6_numberOfTrailingZeros_0f7a4_77 (G_nam fun z2206 hz2206 => ?_)
            have bz2206 : gB z2206 (-2147483648) 2147483647 := gB_any z2206
            refine G_iadd dr_cJ6_numberOfTrailingZeros_0f7a4_78 (G_nam fun z2207 hz2207 => ?_)
            have bz2207 : gB z2207 (-2147483648) 2147483647 := gB_any z2207
            have hm : (p2109 ^^^ (-1)) &&& (p2109 - 1) = z2113 := by rw [hz2113, hz2111, hz2112]
            have e0 : nz_s (z2113, 1) 65536 16 = (z2163, 17) := (if_pos (Int32.not_le.mp hc2116)).trans (by rw [hz2163]; exact Prod.ext rfl (show (1 : Int32) + 16 = 17 by decide))
            have e1 : nz_s (z2163, 17) 256 8 = (z2187, 25) := (if_pos (Int32.not_le.mp hc2164)).trans (by rw [hz2187]; exact Prod.ext rfl (show (17 : Int32) + 8 = 25 by decide))
            have e2 : nz_s (z2187, 25) 16 4 = (z2199, 29) := (if_pos (Int32.not_le.mp hc2188)).trans (by rw [hz2199]; exact Prod.ext rfl (show (25 : Int32) + 4 = 29 by decide))
            have e3 : nz_s (z2199, 29) 4 2 = (z2205, 31) := (if_pos (Int32.not_le.mp hc2200)).trans (by rw [hz2205]; exact Prod.ext rfl (show (29 : Int32) + 2 = 31 by decide))
            have eq : nz_q z2113 = (z2205, 31) := by unfold nz_q; rw [e0, e1, e2, e3]
            have hE : z2207 = nz_f ((p2109 ^^^ (-1)) &&& (p2109 - 1)) := by rw [hm, nz_f, if_pos hc2114, eq, hz2207, hz2206]; rfl
            exact G_iretA dr_cJ6_numberOfTrailingZeros_0f7a4_79 rfl (Nat.le_of_ble_eq_true rfl) (Nat.le_of_ble_eq_true rfl) ⟨z2207, rfl, rfl, (Nat.le_of_ble_eq_true rfl), (Nat.le_of_ble_eq_true rfl), hE⟩
  · have r2208 : z2113.toInt ≤ 0 := gj_nltL hc2114 (show Int32.toInt 0 = 0 by decide)
    have bz2113' : gB z2113 (-2147483648) 0 := ⟨by omega, by omega⟩
    refine G_iload_n 0 dr_cJ6_numberOfTrailingZeros_0f7a4_12 rfl ?_
    refine G_bipush 32 dr_cJ6_numberOfTrailingZeros_0f7a4_13 (by decide +kernel) ?_
    refine G_iand dr_cJ6_numberOfTrailingZeros_0f7a4_15 (G_nam fun z2209 hz2209 => ?_)
    have bz2209 : gB z2209 0 32 := gB_and hz2209 (gBl (show Int32.toInt 32 = 32 by decide)) (by decide)
    have hm : (p2109 ^^^ (-1)) &&& (p2109 - 1) = z2113 := by rw [hz2113, hz2111, hz2112]
    have hE : z2209 = nz_f ((p2109 ^^^ (-1)) &&& (p2109 - 1)) := by rw [hm, nz_f, if_neg hc2114, hz2209]
    exact G_iretA dr_cJ6_numberOfTrailingZeros_0f7a4_16 rfl (Nat.le_of_ble_eq_true rfl) (Nat.le_of_ble_eq_true rfl) ⟨z2209, rfl, rfl, (Nat.le_of_ble_eq_true rfl), (Nat.le_of_ble_eq_true rfl), hE⟩
theorem nz_ok2 {i r : Int32} (h : ¬ i = 0) (hr : r = nz_f ((i ^^^ (-1)) &&& (i - 1))) : 0 ≤ r.toInt ∧ r.toInt ≤ 31 ∧ i.toBitVec.getLsbD r.toInt.toNat = true ∧ ∀ k, k < r.toInt.toNat → i.toBitVec.getLsbD k = false := by
  have hx : i.toBitVec ≠ 0#32 := fun e => h (Int32.toBitVec_inj.mp e)
  obtain ⟨j, h1, h2, h3⟩ := nz_least hx
  have hm : (i ^^^ (-1)) &&& (i - 1) = Int32.ofNat (2 ^ j - 1) := by
    apply Int32.toBitVec_inj.mp
    apply BitVec.eq_of_getLsbD_eq
    intro k hk
    have e1 : ((i ^^^ (-1)) &&& (i - 1)).toBitVec = ~~~i.toBitVec &&& (i.toBitVec - 1#32) := by
      rw [Int32.toBitVec_and, Int32.toBitVec_xor, Int32.toBitVec_sub]
      congr 1
      show i.toBitVec ^^^ BitVec.allOnes 32 = _
      rw [BitVec.xor_allOnes]
    rw [e1, nz_mask h2 h3 k hk]
    show _ = (BitVec.ofNat 32 (2 ^ j - 1)).getLsbD k
    rw [BitVec.getLsbD_ofNat, Nat.testBit_two_pow_sub_one]
    simp [hk]
  have ht := nz_tab ⟨j, h1⟩
  have hj : r.toInt = j := by rw [hr, hm]; exact ht
  have hj2 : r.toInt.toNat = j := by omega
  refine ⟨by omega, by omega, ?_, ?_⟩
  · rw [hj2]
    exact h2
  · rw [hj2]
    exact h3
theorem lb_Qlt {x : Int64} {m : Int} {o : Int32} (h : lb_Q x m) (h0 : 0 ≤ o.toInt) (hb : x.toBitVec.getLsbD o.toInt.toNat = true) : o.toInt < m := by
  have q := h _ (BitVec.lt_of_getLsbD hb) hb
  omega
theorem nz_64_32 {u : Int64} {i : Nat} (hi : i < 32) : u.toInt32.toBitVec.getLsbD i = u.toBitVec.getLsbD i := by
  show (u.toBitVec.signExtend 32).getLsbD i = _
  rw [BitVec.getLsbD_signExtend, if_pos (by omega)]
  simp [hi]
theorem nzl_lo {u : Int64} {x o : Int32} (hx : x = u.toInt32) (h : ¬ x = 0) (ho : o = nz_f ((x ^^^ (-1)) &&& (x - 1))) : 0 ≤ o.toInt ∧ o.toInt ≤ 63 ∧ u.toBitVec.getLsbD o.toInt.toNat = true ∧ ∀ i, i < o.toInt.toNat → u.toBitVec.getLsbD i = false := by
  obtain ⟨a, b, c, d⟩ := nz_ok2 h ho
  refine ⟨a, by omega, ?_, fun i hi => ?_⟩
  · rw [← nz_64_32 (by omega), ← hx]
    exact c
  · rw [← nz_64_32 (by omega), ← hx]
    exact d i hi
theorem nzl_hi {u v : Int64} {x y o z : Int32} (hx : x = u.toInt32) (h : x = 0) (hv : v = (u.toUInt64 >>> ((32 : Int32).toInt64.toUInt64 &&& Int64.toUInt64 63)).toInt64) (hy : y = v.toInt32) (ho : o = nz_f ((y ^^^ (-1)) &&& (y - 1))) (hz : z = 32 + o) (hu : ¬ u = 0) : 0 ≤ z.toInt ∧ z.toInt ≤ 63 ∧ u.toBitVec.getLsbD z.toInt.toNat = true ∧ ∀ i, i < z.toInt.toNat → u.toBitVec.getLsbD i = false := by
  have hc : ((32 : Int32).toInt64.toUInt64 &&& Int64.toUInt64 63) = 32 := by decide
  have hvb : v.toBitVec = u.toBitVec >>> (32 : Nat) := by rw [hv, hc]; rfl
  have hb : ∀ i, v.toBitVec.getLsbD i = u.toBitVec.getLsbD (32 + i) := fun i => by rw [hvb, BitVec.getLsbD_ushiftRight]
  have hy0 : ¬ y = 0 := fun h0 => hu (by
    apply Int64.toBitVec_inj.mp
    apply BitVec.eq_of_getLsbD_eq
    intro i hi
    have hz0 : (0 : Int64).toBitVec.getLsbD i = false := by show (0#64).getLsbD i = false; exact BitVec.getLsbD_zero
    rw [hz0]
    by_cases h32 : i < 32
    · rw [← nz_64_32 h32, ← hx, h]; show (0#32).getLsbD i = false; exact BitVec.getLsbD_zero
    · have e := hb (i - 32)
      rw [show 32 + (i - 32) = i by omega] at e
      rw [← e, ← nz_64_32 (by omega), ← hy, h0]; show (0#32).getLsbD _ = false; exact BitVec.getLsbD_zero)
  obtain ⟨a, b, c, d⟩ := nz_ok2 hy0 ho
  have q : Int32.toInt 32 = 32 := by decide
  have e : z.toInt = 32 + o.toInt := by rw [hz, Int32.toInt_add, q]; exact Int.bmod_eq_of_le (by omega) (by omega)
  refine ⟨by omega, by omega, ?_, fun i hi => ?_⟩
  · have c1 : v.toBitVec.getLsbD o.toInt.toNat = true := by rw [← nz_64_32 (by omega), ← hy]; exact c
    rw [hb] at c1
    rw [e, show (32 + o.toInt).toNat = 32 + o.toInt.toNat by omega]
    exact c1
  · by_cases h32 : i < 32
    · rw [← nz_64_32 h32, ← hx, h]; show (0#32).getLsbD i = false; exact BitVec.getLsbD_zero
    · have e2 := hb (i - 32)
      rw [show 32 + (i - 32) = i by omega] at e2
      rw [← e2, ← nz_64_32 (by omega), ← hy]
      exact d _ (by omega)
def nzp_long (P : List Nat) (F : Nat → va_E) (u : Int64) : Option Value → va_W → Nat → Nat → Prop := fun r w dc ds => ∃ o : Int32, r = some (.int o) ∧ w = va_pl P F ∧ dc ≤ 0 ∧ ds ≤ 0 ∧ (¬ u = 0 → 0 ≤ o.toInt ∧ o.toInt ≤ 63 ∧ u.toBitVec.getLsbD o.toInt.toNat = true ∧ ∀ i, i < o.toInt.toNat → u.toBitVec.getLsbD i = false)
set_option maxRecDepth 100000 in
set_option maxHeartbeats 4000000 in
theorem nzc_Long_numberOfTrailingZeros (l : Launch) (hl0 : l.stackTraces = false) (D : va_G) (I : FieldType → ClassId) (P2100 : List Nat) (F2101 : Nat → va_E) (pl2102 : Int64)  : CtA (gV D I) l yJ13_numberOfTrailingZeros_95d88 cJ13_numberOfTrailingZeros_95d88 3 (some FieldType.int) 1 21 0 0 [.long pl2102] (va_pl P2100 F2101) (nzp_long P2100 F2101 pl2102) gNA := by
  refine CtA_ofF hl0 (by decide +kernel) (Nat.le_of_ble_eq_true rfl) ?_
  refine G_lload_n 0 dr_cJ13_numberOfTrailingZeros_95d88_0 rfl ?_
  refine G_l2i dr_cJ13_numberOfTrailingZeros_95d88_1 (G_nam fun z2104 hz2104 => ?_)
  have bz2104 : gB z2104 (-2147483648) 2147483647 := gB_any z2104
  refine G_istore_n (L' := [(2, .int z2104), (0, .long pl2102)]) dr_cJ13_numberOfTrailingZeros_95d88_2 (Nat.le_of_ble_eq_true rfl) rfl ?_
  refine G_iload_n 0 dr_cJ13_numberOfTrailingZeros_95d88_3 rfl ?_
  refine G_if_ne 21 dr_cJ13_numberOfTrailingZeros_95d88_4 (by decide +kernel) (fun hc2105 => ?_) (fun hc2105 => ?_)
  · have r2106 : z2104.toInt ≠ 0 := gj_neq hc2105 (show Int32.toInt 0 = 0 by decide)
    refine G_iload_n 0 dr_cJ13_numberOfTrailingZeros_95d88_21 rfl ?_
    refine Gw_callS (As := [.int z2104]) (gV_ok D I) (nzc_Integer_numberOfTrailingZeros l hl0 D I P2100 F2101 z2104 ) dr_cJ13_numberOfTrailingZeros_95d88_22 ⟨wr_11_4, wr_1_35, wr_11_6, by decide, rfl, (Nat.le_of_ble_eq_true rfl), (Nat.le_of_ble_eq_true rfl)⟩ wr_11_5 (show 0 + 0 ≤ 0 by first | omega | decide) (show 0 + 0 ≤ 0 by first | omega | decide) (Nat.le_of_ble_eq_true rfl) (fun r2214 w2215 dc2211 ds2212 hp2213 => ?_) (fun _ _ _ _ _ z => z.elim)
    obtain ⟨o2216, rfl, rfl, hdc, hds, hO⟩ := hp2213
    have bo2216 := gB_any o2216
    change G _ _ _ _ _ _ _ (.int o2216 :: _) _ _ _
    refine G_widen (cs' := 0) (sl' := 0) (by omega) (by omega) ?_
    exact G_iretA dr_cJ13_numberOfTrailingZeros_95d88_25 rfl (Nat.le_of_ble_eq_true rfl) (Nat.le_of_ble_eq_true rfl) ⟨o2216, rfl, rfl, (Nat.le_of_ble_eq_true rfl), (Nat.le_of_ble_eq_true rfl), fun _ => nzl_lo hz2104 hc2105 hO⟩
  · have r2217 : z2104.toInt = 0 := gj_eq hc2105 (show Int32.toInt 0 = 0 by decide)
    have bz2104' : gB z2104 0 0 := ⟨by omega, by omega⟩
    refine G_bipush 32 dr_cJ13_numberOfTrailingZeros_95d88_7 (by decide +kernel) ?_
    refine G_lload_n 1 dr_cJ13_numberOfTrailingZeros_95d88_9 rfl ?_
    refine G_bipush 32 dr_cJ13_numberOfTrailingZeros_95d88_10 (by decide +kernel) ?_
    refine G_lushr dr_cJ13_numberOfTrailingZeros_95d88_12 (G_namL fun u2218 hu2218 => ?_)
    refine G_l2i dr_cJ13_numberOfTrailingZeros_95d88_13 (G_nam fun z2219 hz2219 => ?_)
    have bz2219 : gB z2219 (-2147483648) 2147483647 := gB_any z2219
    refine Gw_callS (As := [.int z2219]) (gV_ok D I) (nzc_Integer_numberOfTrailingZeros l hl0 D I P2100 F2101 z2219 ) dr_cJ13_numberOfTrailingZeros_95d88_14 ⟨wr_11_4, wr_1_35, wr_11_6, by decide, rfl, (Nat.le_of_ble_eq_true rfl), (Nat.le_of_ble_eq_true rfl)⟩ wr_11_5 (show 0 + 0 ≤ 0 by first | omega | decide) (show 0 + 0 ≤ 0 by first | omega | decide) (Nat.le_of_ble_eq_true rfl) (fun r2223 w2224 dc2220 ds2221 hp2222 => ?_) (fun _ _ _ _ _ z => z.elim)
    obtain ⟨o2225, rfl, rfl, hdc, hds, hO⟩ := hp2222
    have bo2225 := gB_any o2225
    change G _ _ _ _ _ _ _ (.int o2225 :: _) _ _ _
    refine G_widen (cs' := 0) (sl' := 0) (by omega) (by omega) ?_
    refine G_iadd dr_cJ13_numberOfTrailingZeros_95d88_17 (G_nam fun z2226 hz2226 => ?_)
    have bz2226 : gB z2226 (-2147483648) 2147483647 := gB_any z2226
    refine G_goto 25 dr_cJ13_numberOfTrailingZeros_95d88_18 (by decide +kernel) ?_
    exact G_iretA dr_cJ13_numberOfTrailingZeros_95d88_25 rfl (Nat.le_of_ble_eq_true rfl) (Nat.le_of_ble_eq_true rfl) ⟨z2226, rfl, rfl, (Nat.le_of_ble_eq_true rfl), (Nat.le_of_ble_eq_true rfl), fun hu => nzl_hi hz2104 hc2105 hu2218 hz2219 hO hz2226 hu⟩
end
section
/-! the rows of a valid program by their places (a block's end stands behind its last row); names -/
/-- an implication that omega doesn't see -/
def gIp (A Q : Prop) : Prop := A → Q
def rwL (γ el : Nat → Nat → Nat) (c i : Nat) : Nat := γ 14 (el (γ 14 c) i)
def rAt (γ el : Nat → Nat → Nat) (c i j : Nat) : Nat := if j < γ 2 (rwL γ el c i) then el (rwL γ el c i) j else γ 15 (el (γ 14 c) i)
def rPl (γ el : Nat → Nat → Nat) (F : Nat → va_E) (c n : Nat) (R : Nat → Nat → va_E → Prop) : Prop := ∀ i, i < n → ∀ j, j ≤ γ 2 (rwL γ el c i) → R i j (F (rAt γ el c i j))
def nmV (op t a b ra rb : Int) (n : Nat) : Prop := (op ≤ 21 ∧ n = t.toNat) ∨ ((op ≠ 20 ∧ op ≠ 21 ∧ op ≠ 30 ∧ ra = 1) ∧ n = a.toNat) ∨ ((0 < op ∧ op < 20 ∧ rb = 1) ∧ n = b.toNat)
/-- n is a name that the row uses or sets -/
def nmS (e : va_E) (n : Nat) : Prop := nmV (fI e 0).toInt (fI e 1).toInt (fI e 2).toInt (fI e 3).toInt (fI e 5).toInt (fI e 6).toInt n
theorem nmS_of {F : Nat → va_E} {x cc : Nat} {op t a b s ra rb : Int32} (h : F x = .inr (cc, [.int op, .int t, .int a, .int b, .int s, .int ra, .int rb])) : nmS (F x) = nmV op.toInt t.toInt a.toInt b.toInt ra.toInt rb.toInt := by
  rw [h]
  rfl
def rNm (N : Nat → Prop) (e : va_E) : Prop := ∀ n, nmS e n → N n
theorem rNm_mono {N N2 : Nat → Prop} {e : va_E} (h : ∀ n, N n → N2 n) (z : rNm N e) : rNm N2 e := fun n q => h n (z n q)
def cB (e : va_E) : Nat → Int32 := match e with
  | .inl (_, _, .inl f) => f
  | _ => fun _ => 0
theorem cB_of {F : Nat → va_E} {a n : Nat} {c : ClassId} {f : Nat → Int32} (h : F a = .inl (c, n, .inl f)) : cB (F a) = f := by rw [h]; rfl
/-- register n stands -/
def rSd (g : Nat → Int32) (n : Nat) : Prop := n < 2000 ∧ (g n).toInt = 1
theorem sd_u {f f2 : Nat → Int32} {k : Int32} (h : f2 = upd f k.toNatClampNeg (vp_nar .boolean 1)) (h0 : 0 ≤ k.toInt) (h1 : k.toInt < 2000) (n : Nat) : rSd f2 n ↔ (rSd f n ∨ n = k.toInt.toNat) := by
  have hk : k.toNatClampNeg = k.toInt.toNat := rfl
  have hv : (vp_nar .boolean 1).toInt = 1 := by decide
  subst h
  unfold rSd upd
  rw [hk]
  by_cases e : n = k.toInt.toNat
  · rw [if_pos e, hv]
    exact ⟨fun _ => Or.inr e, fun _ => ⟨by omega, rfl⟩⟩
  · rw [if_neg e]
    exact ⟨fun z => Or.inl z, fun z => z.resolve_right e⟩
theorem sd_z {f f2 : Nat → Int32} {k : Int32} (h : f2 = upd f k.toNatClampNeg (vp_nar .boolean 0)) (h0 : 0 ≤ k.toInt) (hz : ∀ n : Nat, (n : Int) < k.toInt → ¬ rSd f n) (n : Nat) (hn : (n : Int) < k.toInt + 1) : ¬ rSd f2 n := by
  have hk : k.toNatClampNeg = k.toInt.toNat := rfl
  have hv : (vp_nar .boolean 0).toInt = 0 := by decide
  subst h
  intro z
  unfold rSd upd at z
  rw [hk] at z
  by_cases e : n = k.toInt.toNat
  · rw [if_pos e, hv] at z
    omega
  · rw [if_neg e] at z
    exact hz n (by omega) z
theorem nm_fin {g g2 : Nat → Int32} {op t a b ra rb : Int} {n : Nat} (us ua ub : Bool) (hs : decide (op ≤ 21) = us) (ha : decide (op ≠ 20 ∧ op ≠ 21 ∧ op ≠ 30 ∧ ra = 1) = ua) (hb : decide (0 < op ∧ op < 20 ∧ rb = 1) = ub) (hx : rSd g2 n ↔ (((rSd g n ∨ (us = true ∧ n = t.toNat)) ∨ (ua = true ∧ n = a.toNat)) ∨ (ub = true ∧ n = b.toNat))) : rSd g2 n ↔ (rSd g n ∨ nmV op t a b ra rb n) := by
  subst hs ha hb
  rw [hx]
  unfold nmV
  simp only [decide_eq_true_eq]
  rw [or_assoc, or_assoc]
/-- stands are the names of the places v, and no others than names -/
def rGr (γ el : Nat → Nat → Nat) (F : Nat → va_E) (c n : Nat) (g : Nat → Int32) (v : Nat → Nat → Prop) : Prop := (∀ i, i < n → ∀ j, j ≤ γ 2 (rwL γ el c i) → v i j → rNm (rSd g) (F (rAt γ el c i j))) ∧ ∀ m, rSd g m → ∃ i j, i < n ∧ j ≤ γ 2 (rwL γ el c i) ∧ nmS (F (rAt γ el c i j)) m
def vA (b : Nat) : Nat → Nat → Prop := fun i _ => i < b
def vB (b s : Nat) : Nat → Nat → Prop := fun i j => i < b ∨ (i = b ∧ s ≤ j)
section RGR
variable {γ el : Nat → Nat → Nat} {F : Nat → va_E} {c n b s x : Nat} {g g2 : Nat → Int32} {v v2 : Nat → Nat → Prop}
theorem gq_0 (h : ∀ m : Nat, (m : Int) < 2000 → ¬ rSd g m) : rGr γ el F c n g (vA 0) := ⟨fun i hi j hj z => absurd z (Nat.not_lt_zero _), fun m hm => absurd hm (h m (by have := hm.1; omega))⟩
theorem gq_w (h : rGr γ el F c n g v) (hv : ∀ i j, i < n → j ≤ γ 2 (rwL γ el c i) → v2 i j → v i j) : rGr γ el F c n g v2 := ⟨fun i hi j hj z => h.1 i hi j hj (hv i j hi hj z), h.2⟩
theorem gq_st (h : rGr γ el F c n g v) (hs : ∀ m, rSd g2 m ↔ (rSd g m ∨ nmS (F x) m)) (hx : rAt γ el c b s = x) (hb : b < n) (hj : s ≤ γ 2 (rwL γ el c b)) (hv : ∀ i j, i < n → j ≤ γ 2 (rwL γ el c i) → v2 i j → v i j ∨ (i = b ∧ j = s)) : rGr γ el F c n g2 v2 := by
  refine ⟨fun i hi j hj2 z => ?_, fun m hm => ?_⟩
  · rcases hv i j hi hj2 z with q | ⟨rfl, rfl⟩
    · exact rNm_mono (fun m hm => (hs m).2 (Or.inl hm)) (h.1 i hi j hj2 q)
    · rw [hx]
      exact fun m hm => (hs m).2 (Or.inr hm)
  · rcases (hs m).1 hm with q | q
    · exact h.2 m q
    · exact ⟨b, s, hb, hj, by rw [hx]; exact q⟩
theorem gq_end (h : rGr γ el F c n g (vA b)) (hs : ∀ m, rSd g2 m ↔ (rSd g m ∨ nmS (F x) m)) (hx : rAt γ el c b s = x) (hb : b < n) (hj : γ 2 (rwL γ el c b) = s) : rGr γ el F c n g2 (vB b s) :=
  gq_st h hs hx hb (by omega) (fun i j hi hj2 z => by
    rcases z with q | ⟨q, q2⟩
    · exact Or.inl q
    · subst q
      exact Or.inr ⟨rfl, by omega⟩)
theorem gq_row {s1 : Nat} (h : rGr γ el F c n g (vB b s1)) (hs : ∀ m, rSd g2 m ↔ (rSd g m ∨ nmS (F x) m)) (hx : rAt γ el c b s = x) (hb : b < n) (hj : s ≤ γ 2 (rwL γ el c b)) (h1 : s1 = s + 1) : rGr γ el F c n g2 (vB b s) :=
  gq_st h hs hx hb hj (fun i j hi hj2 z => by
    rcases z with q | ⟨q, q2⟩
    · exact Or.inl (Or.inl q)
    · by_cases e : j = s
      · exact Or.inr ⟨q, e⟩
      · exact Or.inl (Or.inr ⟨q, by omega⟩))
theorem gq_nx {b1 : Nat} (h : rGr γ el F c n g (vB b s)) (h0 : s = 0) (h1 : b1 = b + 1) : rGr γ el F c n g (vA b1) := gq_w h (fun i j _ _ (z : i < b1) => show i < b ∨ (i = b ∧ s ≤ j) by omega)
theorem gq_al (h : rGr γ el F c n g (vA b)) (h1 : n ≤ b) : rGr γ el F c n g (vA n) := gq_w h (fun i j hi _ _ => show i < b by omega)
end RGR
section RPL
variable {D : va_G} {I : FieldType → ClassId} {P P1 : List Nat} {F F1 : Nat → va_E} {γ el γ1 el1 : Nat → Nat → Nat} {f c i j i0 j0 a k x lst dc ds : Nat} {R R' : Nat → Nat → va_E → Prop} {K KF : List Nat}
theorem rBk_at (hT : RS D I P F γ el) (hc : γ 0 c = 9) (hcf : γ 1 c = f) (hi : i < γ 6 f) :
    i < γ 2 (γ 14 c) ∧ γ 0 (el (γ 14 c) i) = 2 ∧ γ 8 (el (γ 14 c) i) = i ∧ γ 0 (rwL γ el c i) = 3 ∧ γ 20 (rwL γ el c i) = el (γ 14 c) i ∧ γ 1 (rwL γ el c i) = f ∧
    γ 0 (γ 15 (el (γ 14 c) i)) = 1 ∧ γ 1 (γ 15 (el (γ 14 c) i)) = f ∧ γ 4 (γ 15 (el (γ 14 c) i)) = el (γ 14 c) i ∧ γ 22 (γ 15 (el (γ 14 c) i)) = 1 ∧
    ∀ j, j < γ 2 (rwL γ el c i) → γ 0 (el (rwL γ el c i) j) = 1 ∧ γ 1 (el (rwL γ el c i) j) = f ∧ γ 4 (el (rwL γ el c i) j) = rwL γ el c i ∧ γ 5 (el (rwL γ el c i) j) = j ∧ γ 22 (el (rwL γ el c i) j) = 0 := by
  obtain ⟨v1, v2, v3, v4, v5⟩ := RS_valid hT hc hcf (by omega)
  obtain ⟨a21, a4, a41, a5, a51⟩ := rc_at hT hc hcf
  have k2 := v4 i hi
  obtain ⟨-, q1, q8⟩ := (show rk_4 D I γ el F (γ 14 c) from RS_o hT a4).2 i (by omega)
  obtain ⟨l, n, p, s, w1, ⟨g1, g2, g3⟩, w3, w4, w5, w6, ⟨w7, w8⟩, -⟩ := show rk_2 γ _ (F _) from RS_o hT k2
  have hl : rwL γ el c i = l := g1
  have e3 : γ 0 l = 3 := w3
  have e4 : γ 1 l = γ 1 (el (γ 14 c) i) := w4
  have e5 : γ 0 n = 1 := w5
  have e6 : γ 1 n = γ 1 (el (γ 14 c) i) := w6
  have h3 := (show rk_3 D I γ el F l from RS_o hT e3).2
  rw [hl, g2]
  refine ⟨by omega, k2, q8, e3, g3, by omega, e5, by omega, w7, w8, fun j hj => ?_⟩
  obtain ⟨r1, r2, r3, r4, r5⟩ := h3 j hj
  exact ⟨r1, by omega, r3, r4, r5⟩
theorem rAt_r (hb : el (γ 14 c) i = x) (hl : γ 14 x = lst) (hj : j < γ 2 lst) : rAt γ el c i j = el lst j := by
  unfold rAt rwL
  rw [hb, hl, if_pos hj]
theorem rAt_e (hb : el (γ 14 c) i = x) (hl : γ 14 x = lst) (hj : γ 2 lst ≤ j) : rAt γ el c i j = γ 15 x := by
  unfold rAt rwL
  rw [hb, hl, if_neg (by omega)]
theorem rAt_k (hT : RS D I P F γ el) (hc : γ 0 c = 9) (hcf : γ 1 c = f) (hi : i < γ 6 f) : γ 0 (rAt γ el c i j) = 1 ∧ γ 1 (rAt γ el c i j) = f := by
  obtain ⟨-, -, -, -, -, -, q7, q8, -, -, q11⟩ := rBk_at hT hc hcf hi
  unfold rAt
  split
  · rename_i h
    exact ⟨(q11 j h).1, (q11 j h).2.1⟩
  · exact ⟨q7, q8⟩
theorem rAt_inj {i' j' : Nat} (hT : RS D I P F γ el) (hc : γ 0 c = 9) (hcf : γ 1 c = f) (hi : i < γ 6 f) (hi' : i' < γ 6 f) (hj : j ≤ γ 2 (rwL γ el c i)) (hj' : j' ≤ γ 2 (rwL γ el c i')) (h : rAt γ el c i j = rAt γ el c i' j') : i = i' ∧ j = j' := by
  obtain ⟨-, -, a3, -, a5, -, -, -, a9, a10, a11⟩ := rBk_at hT hc hcf hi
  obtain ⟨-, -, b3, -, b5, -, -, -, b9, b10, b11⟩ := rBk_at hT hc hcf hi'
  unfold rAt at h
  by_cases q : j < γ 2 (rwL γ el c i)
  · obtain ⟨-, -, c3, c4, c5⟩ := a11 j q
    rw [if_pos q] at h
    by_cases q' : j' < γ 2 (rwL γ el c i')
    · obtain ⟨-, -, d3, d4, d5⟩ := b11 j' q'
      rw [if_pos q'] at h
      rw [h] at c3 c4
      have e : rwL γ el c i = rwL γ el c i' := c3.symm.trans d3
      rw [e, b5] at a5
      rw [← a5, b3] at a3
      exact ⟨a3.symm, c4.symm.trans d4⟩
    · rw [if_neg q'] at h
      rw [h, b10] at c5
      omega
  · rw [if_neg q] at h
    by_cases q' : j' < γ 2 (rwL γ el c i')
    · obtain ⟨-, -, d3, d4, d5⟩ := b11 j' q'
      rw [if_pos q'] at h
      rw [← h, a10] at d5
      omega
    · rw [if_neg q'] at h
      rw [h, b9] at a9
      rw [← a9, b3] at a3
      subst a3
      exact ⟨rfl, by omega⟩
theorem rPl_mono {n : Nat} (h : rPl γ el F c n R) (hR : ∀ i j e, i < n → j ≤ γ 2 (rwL γ el c i) → R i j e → R' i j e) : rPl γ el F c n R' := fun i hi j hj => hR i j _ hi hj (h i hi j hj)
theorem rPl_fr (hT : RS D I P F γ el) (hc : γ 0 c = 9) (hcf : γ 1 c = f) (h : rPl γ el F c (γ 6 f) R) (hF : ∀ a, γ 0 a = 1 → γ 1 a = f → F1 a = F a) : rPl γ el F1 c (γ 6 f) R := fun i hi j hj => by
  obtain ⟨k1, k2⟩ := rAt_k (j := j) hT hc hcf hi
  rw [hF _ k1 k2]
  exact h i hi j hj
theorem rPl_put (hT : RS D I P F γ el) (hc : γ 0 c = 9) (hcf : γ 1 c = f) (h : rPl γ el F c (γ 6 f) R) (n : ∀ b, b ≠ a → F1 b = F b) (ha : rAt γ el c i0 j0 = a) (hi0 : i0 < γ 6 f) (hj0 : j0 ≤ γ 2 (rwL γ el c i0)) (hR : ∀ i j e, (i ≠ i0 ∨ j ≠ j0) → R i j e → R' i j e) (h0 : R' i0 j0 (F1 a)) : rPl γ el F1 c (γ 6 f) R' := fun i hi j hj => by
  by_cases e : i = i0 ∧ j = j0
  · obtain ⟨rfl, rfl⟩ := e
    rw [ha]
    exact h0
  · have e2 : i ≠ i0 ∨ j ≠ j0 := by omega
    rw [n _ (fun q => e (rAt_inj hT hc hcf hi hi0 hj hj0 (q.trans ha.symm)))]
    exact hR i j _ e2 (h i hi j hj)
theorem rPl_st (hT : RS D I P F γ el) (hc : γ 0 c = 9) (hcf : γ 1 c = f) (hk : rSk f K KF D I P F γ el P1 F1 γ1 el1) (h1 : 1 ∉ KF) (hot : ∀ a, γ 0 a = 3 ∨ γ 0 a = 4 → γ1 2 a = γ 2 a ∧ el1 a = el a) (h6 : γ1 6 f = γ 6 f) (h : rPl γ el F c (γ 6 f) R) : rPl γ1 el1 F1 c (γ1 6 f) R := fun i hi j hj => by
  rw [h6] at hi
  obtain ⟨b1, b2, b3, b4, b5, b6, b7, b8, b9, b10, b11⟩ := rBk_at hT hc hcf hi
  obtain ⟨a21, a4, a41, a5, a51⟩ := rc_at hT hc hcf
  have s1 := (rSk_s hk (show rKd γ c 9 from hc) (by decide)).2.1
  obtain ⟨-, s2⟩ := hot _ (Or.inr a4)
  have s3 := rSk_s hk (show rKd γ (el (γ 14 c) i) 2 from b2) (by decide)
  have el_ : rwL γ1 el1 c i = rwL γ el c i := by unfold rwL; rw [s1, s2, s3.2.1]
  obtain ⟨l1, l2⟩ := hot _ (Or.inl b4)
  have ea : rAt γ1 el1 c i j = rAt γ el c i j := by unfold rAt; rw [el_, l1, l2, s1, s2, s3.2.2.1]
  rw [el_, l1] at hj
  rw [ea, rSk_F hk (show rKd γ (rAt γ el c i j) 1 from (rAt_k hT hc hcf hi).1) (by decide) h1]
  exact h i hi j hj
theorem rPl_row (hT : RS D I P F γ el) (hc : γ 0 c = 9) (hcf : γ 1 c = f) (hq : rRq D I P F γ el f c P1 F1 γ1 el1 x dc ds) (h : rPl γ el F c (γ 6 f) R) : rPl γ1 el1 F1 c (γ1 6 f) R := by
  obtain ⟨q1, -, -, -, -, -, -, q8, q9, -⟩ := hq
  exact rPl_st hT hc hcf (rSk_of q1) (by decide) (fun a ha => q9 a (by omega) (by omega)) q8.1 h
theorem rPl_ins (hT : RS D I P F γ el) (hc : γ 0 c = 9) (hcf : γ 1 c = f) (hq : rIq D I P F γ el f lst k x P1 F1 γ1 el1 dc ds) (hl : γ 14 (el (γ 14 c) i0) = lst) (hi0 : i0 < γ 6 f) (hk : k ≤ γ 2 lst) (h : rPl γ el F c (γ 6 f) R) (h1 : ∀ i j e, i ≠ i0 → R i j e → R' i j e) (h2 : ∀ j e, j < k → R i0 j e → R' i0 j e) (h3 : R' i0 k (F x)) (h4 : ∀ j e, k ≤ j → R i0 j e → R' i0 (j + 1) e) : rPl γ1 el1 F1 c (γ1 6 f) R' := by
  obtain ⟨q1, q2, q3, q4, q5, -, -, q8, q9, -⟩ := hq
  have hs := rSk_of q1
  intro i hi j hj
  rw [q8.1] at hi
  obtain ⟨b1, b2, b3, b4, b5, b6, b7, b8, b9, b10, b11⟩ := rBk_at hT hc hcf hi
  obtain ⟨c1, c2, c3, c4, c5, c6, c7, c8, c9, c10, c11⟩ := rBk_at hT hc hcf hi0
  obtain ⟨a21, a4, a41, a5, a51⟩ := rc_at hT hc hcf
  have hl' : rwL γ el c i0 = lst := hl
  rw [hl'] at c4 c5 c6 c11
  have s1 := (rSk_s hs (show rKd γ c 9 from hc) (by decide)).2.1
  obtain ⟨-, s2⟩ := q5 (γ 14 c) (by omega) (fun e => by rw [e] at a4; omega)
  have s3 := rSk_s hs (show rKd γ (el (γ 14 c) i) 2 from b2) (by decide)
  have el_ : rwL γ1 el1 c i = rwL γ el c i := by unfold rwL; rw [s1, s2, s3.2.1]
  have e15 : γ1 15 (el1 (γ1 14 c) i) = γ 15 (el (γ 14 c) i) := by rw [s1, s2, s3.2.2.1]
  have F1r : ∀ j, F1 (rAt γ el c i j) = F (rAt γ el c i j) := fun j => rSk_F hs (show rKd γ _ 1 from (rAt_k hT hc hcf hi).1) (by decide) (by decide)
  rw [el_] at hj
  by_cases ei : i = i0
  · subst ei
    rw [hl', q3] at hj
    have hF := F1r
    unfold rAt at hF ⊢
    rw [el_, hl', q3, q4, e15]
    rw [hl'] at hF
    have hh : ∀ j, j ≤ γ 2 lst → R i j (F (if j < γ 2 lst then el lst j else γ 15 (el (γ 14 c) i))) := fun j hj2 => by
      have z := h i hi j (by rw [hl']; exact hj2)
      unfold rAt at z
      rw [hl'] at z
      exact z
    by_cases t1 : j < k
    · rw [if_pos (by omega), if_pos t1]
      have z := hh j (by omega)
      have z2 := hF j
      rw [if_pos (by omega)] at z z2
      rw [z2]
      exact h2 j _ t1 z
    · by_cases t2 : j = k
      · rw [if_pos (by omega), if_neg t1, if_pos t2, q9, t2]
        exact h3
      · have z := hh (j - 1) (by omega)
        have z2 := hF (j - 1)
        have z3 := h4 (j - 1) _ (by omega) z
        rw [show j - 1 + 1 = j by omega] at z3
        by_cases t3 : j < γ 2 lst + 1
        · rw [if_pos t3, if_neg t1, if_neg t2]
          rw [if_pos (by omega)] at z3 z2
          rw [z2]
          exact z3
        · rw [if_neg t3]
          rw [if_neg (by omega)] at z3 z2
          rw [z2]
          exact z3
  · have hne : rwL γ el c i ≠ lst := fun e => by
      rw [e, c5] at b5
      rw [← b5, c3] at b3
      exact ei b3.symm
    obtain ⟨l1, l2⟩ := q5 _ (by rw [b4]; decide) hne
    have ea : rAt γ1 el1 c i j = rAt γ el c i j := by unfold rAt; rw [el_, l1, l2, e15]
    rw [l1] at hj
    rw [ea, F1r]
    exact h1 i j _ ei (h i hi j hj)
theorem rPl_del (hT : RS D I P F γ el) (hc : γ 0 c = 9) (hcf : γ 1 c = f) (hq : rDq D I P F γ el f lst k F1 γ1 el1) (hl : γ 14 (el (γ 14 c) i0) = lst) (hi0 : i0 < γ 6 f) (hk : k < γ 2 lst) {N : Nat → Prop} (h : rPl γ el F c (γ 6 f) (fun _ _ => rNm N)) : rPl γ1 el1 F1 c (γ1 6 f) (fun _ _ => rNm N) := by
  obtain ⟨q1, q3, q4, q5, -, -, q8, -⟩ := hq
  have hs := rSk_of q1
  intro i hi j hj
  rw [q8.1] at hi
  obtain ⟨b1, b2, b3, b4, b5, b6, b7, b8, b9, b10, b11⟩ := rBk_at hT hc hcf hi
  obtain ⟨c1, c2, c3, c4, c5, c6, c7, c8, c9, c10, c11⟩ := rBk_at hT hc hcf hi0
  obtain ⟨a21, a4, a41, a5, a51⟩ := rc_at hT hc hcf
  have hl' : rwL γ el c i0 = lst := hl
  rw [hl'] at c4 c5 c6 c11
  have s1 := (rSk_s hs (show rKd γ c 9 from hc) (by decide)).2.1
  obtain ⟨-, s2⟩ := q5 (γ 14 c) (by omega) (fun e => by rw [e] at a4; omega)
  have s3 := rSk_s hs (show rKd γ (el (γ 14 c) i) 2 from b2) (by decide)
  have el_ : rwL γ1 el1 c i = rwL γ el c i := by unfold rwL; rw [s1, s2, s3.2.1]
  have e15 : γ1 15 (el1 (γ1 14 c) i) = γ 15 (el (γ 14 c) i) := by rw [s1, s2, s3.2.2.1]
  have F1r : ∀ j, F1 (rAt γ el c i j) = F (rAt γ el c i j) := fun j => rSk_F hs (show rKd γ _ 1 from (rAt_k hT hc hcf hi).1) (by decide) (by decide)
  rw [el_] at hj
  by_cases ei : i = i0
  · subst ei
    rw [hl', q3] at hj
    have hF := F1r
    unfold rAt at hF ⊢
    rw [el_, hl', q3, q4, e15]
    rw [hl'] at hF
    have hh : ∀ j, j ≤ γ 2 lst → rNm N (F (if j < γ 2 lst then el lst j else γ 15 (el (γ 14 c) i))) := fun j hj2 => by
      have z := h i hi j (by rw [hl']; exact hj2)
      unfold rAt at z
      rw [hl'] at z
      exact z
    by_cases t1 : j < k
    · rw [if_pos (by omega), if_pos t1]
      have z := hh j (by omega)
      have z2 := hF j
      rw [if_pos (by omega)] at z z2
      rw [z2]
      exact z
    · have z := hh (j + 1) (by omega)
      have z2 := hF (j + 1)
      by_cases t3 : j < γ 2 lst - 1
      · rw [if_pos t3, if_neg t1]
        rw [if_pos (by omega)] at z z2
        rw [z2]
        exact z
      · rw [if_neg t3]
        rw [if_neg (by omega)] at z z2
        rw [z2]
        exact z
  · have hne : rwL γ el c i ≠ lst := fun e => by
      rw [e, c5] at b5
      rw [← b5, c3] at b3
      exact ei b3.symm
    obtain ⟨l1, l2⟩ := q5 _ (by rw [b4]; decide) hne
    have ea : rAt γ1 el1 c i j = rAt γ el c i j := by unfold rAt; rw [el_, l1, l2, e15]
    rw [l1] at hj
    rw [ea, F1r]
    exact h i hi j hj
end RPL
end
section
/-! colours: what stands is on the pile or still there -/
section RCO
variable {f f2 g h : Nat → Int32} {k z c : Int32} {n : Nat}
theorem nb_0 : vp_nar .boolean 0 = 0 := by decide
theorem nb_1 : vp_nar .boolean 1 = 1 := by decide
theorem nb_z (b : gB z 0 1) : vp_nar .boolean z = z := by
  obtain ⟨b1, b2⟩ := b
  by_cases e : z.toInt = 0
  · have e2 : z = 0 := Int32.toInt_inj.1 (by rw [e]; decide)
    rw [e2]; exact nb_0
  · have e2 : z = 1 := Int32.toInt_inj.1 (by rw [show z.toInt = 1 by omega]; decide)
    rw [e2]; exact nb_1
theorem sd_of (hz : z = g k.toNatClampNeg) (h1 : z.toInt = 1) (h0 : 0 ≤ k.toInt) (h2 : k.toInt < 2000) : rSd g k.toInt.toNat := ⟨by omega, by
  have e : k.toNatClampNeg = k.toInt.toNat := rfl
  rw [e] at hz
  rw [← hz]; exact h1⟩
theorem nx_0 {r : Int} (hh : ∀ m : Nat, (m : Int) < r → ¬ rSd g m) (hz : z = g k.toNatClampNeg) (z0 : z.toInt = 0) (hk : k.toInt = r) (m : Nat) (hm : (m : Int) < r + 1) : ¬ rSd g m := by
  have e : k.toNatClampNeg = k.toInt.toNat := rfl
  by_cases q : (m : Int) < r
  · exact hh m q
  · intro s
    rw [e, show k.toInt.toNat = m by omega] at hz
    have s2 := s.2
    rw [← hz] at s2
    omega
theorem th_u (h1 : f2 = upd f k.toNatClampNeg (vp_nar .boolean z)) (hz : z = g k.toNatClampNeg) (b : gB z 0 1) (h0 : 0 ≤ k.toInt) (hh : ∀ m : Nat, (m : Int) < k.toInt → rSd g m → rSd f m) (m : Nat) (hm : (m : Int) < k.toInt + 1) (s : rSd g m) : rSd f2 m := by
  have e : k.toNatClampNeg = k.toInt.toNat := rfl
  rw [nb_z b] at h1
  subst h1
  unfold rSd upd
  rw [e] at hz ⊢
  by_cases q : m = k.toInt.toNat
  · rw [if_pos q, hz, ← q]
    exact s
  · rw [if_neg q]
    exact hh m (by omega) s
def rcn (g : Nat → Int32) : Nat → Nat
  | 0 => 0
  | n + 1 => rcn g n + if (g n).toInt = 1 then 1 else 0
theorem rcn_le : ∀ n, rcn g n ≤ n
  | 0 => Nat.le_refl _
  | n + 1 => by
    have := rcn_le n
    show rcn g n + _ ≤ n + 1
    split <;> omega
theorem rcn_eq : ∀ n, (∀ i, i < n → f i = g i) → rcn f n = rcn g n
  | 0, _ => rfl
  | n + 1, hh => by
    show rcn f n + _ = rcn g n + _
    rw [rcn_eq n (fun i hi => hh i (by omega)), hh n (by omega)]
theorem rcn_d {j : Nat} (h1 : f2 = upd f j 0) (s : (f j).toInt = 1) : ∀ n, j < n → rcn f2 n + 1 = rcn f n
  | 0, hj => by omega
  | n + 1, hj => by
    show rcn f2 n + _ + 1 = rcn f n + _
    by_cases q : j = n
    · subst q
      rw [rcn_eq j (fun i hi => show f2 i = f i by rw [h1]; unfold upd; rw [if_neg (by omega)])]
      rw [if_pos s, show f2 j = 0 from by rw [h1]; unfold upd; rw [if_pos rfl], if_neg (by decide)]
    · have ih := rcn_d h1 s n (by omega)
      rw [show f2 n = f n from by rw [h1]; unfold upd; rw [if_neg (fun e => q e.symm)]]
      omega
theorem rcn_pos {m : Nat} (s : rSd g m) : 0 < rcn g 2000 := by
  have e := rcn_d (f := g) (f2 := upd g m 0) rfl s.2 2000 s.1
  omega
theorem th_d (h1 : f2 = upd f k.toNatClampNeg (vp_nar .boolean 0)) (h0 : 0 ≤ k.toInt) (s : rSd f k.toInt.toNat) : rcn f2 2000 + 1 = rcn f 2000 := by
  rw [nb_0] at h1
  exact rcn_d h1 s.2 2000 s.1
theorem pi_u {p p2 : Nat → Int32} {i : Int32} (h1 : f2 = upd f k.toNatClampNeg (vp_nar .boolean 0)) (h2 : p2 = upd p i.toNatClampNeg k) (hk : 0 ≤ k.toInt) (hi : 0 ≤ i.toInt) (hh : ∀ m : Nat, rSd g m → rSd f m ∨ ∃ j : Nat, (j : Int) < i.toInt ∧ (p j).toInt = m) (m : Nat) (s : rSd g m) : rSd f2 m ∨ ∃ j : Nat, (j : Int) < i.toInt + 1 ∧ (p2 j).toInt = m := by
  have ek : k.toNatClampNeg = k.toInt.toNat := rfl
  have ei : i.toNatClampNeg = i.toInt.toNat := rfl
  rw [nb_0] at h1
  by_cases q : m = k.toInt.toNat
  · refine Or.inr ⟨i.toInt.toNat, by omega, ?_⟩
    rw [h2, ei]; unfold upd; rw [if_pos rfl]; omega
  · rcases hh m s with z | ⟨j, z1, z2⟩
    · refine Or.inl ⟨z.1, ?_⟩
      rw [h1, ek]; unfold upd; rw [if_neg q]; exact z.2
    · refine Or.inr ⟨j, by omega, ?_⟩
      rw [h2, ei]; unfold upd; rw [if_neg (by omega)]; exact z2
theorem co_u {p : Nat → Int32} {i : Int32} {n1 : Int} (hz : z = p i.toNatClampNeg) (h1 : f2 = upd f z.toNatClampNeg c) (hc : 0 ≤ c.toInt) (hi : 0 ≤ i.toInt) (hn : n1 = i.toInt + 1) (hh : ∀ m : Nat, rSd g m → (∃ j : Nat, (j : Int) < n1 ∧ (p j).toInt = m) ∨ 0 ≤ (f m).toInt) (m : Nat) (s : rSd g m) : (∃ j : Nat, (j : Int) < i.toInt ∧ (p j).toInt = m) ∨ 0 ≤ (f2 m).toInt := by
  have ez : z.toNatClampNeg = z.toInt.toNat := rfl
  have ei : i.toNatClampNeg = i.toInt.toNat := rfl
  rw [ei] at hz
  by_cases q : m = z.toInt.toNat
  · refine Or.inr ?_
    rw [h1, ez]; unfold upd; rw [if_pos q]; exact hc
  · rcases hh m s with ⟨j, z1, z2⟩ | z2
    · by_cases e : j = i.toInt.toNat
      · rw [e, ← hz] at z2
        omega
      · exact Or.inl ⟨j, by omega, z2⟩
    · refine Or.inr ?_
      rw [h1, ez]; unfold upd; rw [if_neg q]; exact z2
end RCO
theorem sl_u {f f2 : Nat → Int32} {k c : Int32} (h1 : f2 = upd f k.toNatClampNeg c) (h0 : 0 ≤ k.toInt) (hc : 0 ≤ c.toInt) (hk : c.toInt ≤ k.toInt) (hh : ∀ q : Nat, (q : Int) < k.toInt → 0 ≤ (f q).toInt ∧ (f q).toInt ≤ q) (q : Nat) (hq : (q : Int) < k.toInt + 1) : 0 ≤ (f2 q).toInt ∧ (f2 q).toInt ≤ q := by
  have e : k.toNatClampNeg = k.toInt.toNat := rfl
  rw [h1, e]
  unfold upd
  by_cases t : q = k.toInt.toNat
  · rw [if_pos t]
    exact ⟨hc, by omega⟩
  · rw [if_neg t]
    exact hh q (by omega)
end
section
theorem nz_x {x z : Int64} (hz : z = x ^^^ (-1)) (q : lb_Q x 32) : ¬ z = 0 := fun e => by
  have h : (x ^^^ (-1)).toBitVec.getLsbD 40 = false := by rw [← hz, e]; rfl
  rw [Int64.toBitVec_xor, BitVec.getLsbD_xor, show (-1 : Int64).toBitVec.getLsbD 40 = true by decide] at h
  have h2 : x.toBitVec.getLsbD 40 = true := by
    cases k : x.toBitVec.getLsbD 40
    · rw [k] at h
      exact absurd h (by decide)
    · rfl
  have := q 40 (by decide) h2
  omega
theorem gB_nb {z : Int32} (b : gB z 0 1) : gB (vp_nar .boolean z) 0 1 := by rw [nb_z b]; exact b
theorem gB_t1 {z : Int32} (b : gB z 0 1) (h : z.toInt ≠ 0) : gB z 1 1 := by obtain ⟨b1, b2⟩ := b; exact ⟨by omega, b2⟩
theorem gB_t0 {z : Int32} (h : z.toInt = 0) : gB z 0 0 := ⟨by omega, by omega⟩
theorem mz_up {z g C : Int} {n : Nat} (e : z = g + 1) (b : g ≤ C - 1) (h : (C - g).toNat < n + 1) : (C - z).toNat < n := by omega
theorem mz_dn {z g C : Int} {n : Nat} (e : z = g + -1) (b : C + 1 ≤ g) (h : (g - C).toNat < n + 1) : (z - C).toNat < n := by omega
theorem rk10_e {γ : Nat → Nat → Nat} {e : va_E} {C : Prop} (h : rk_10 γ e) (k : ∀ (r28 r35 : Nat) (v9 v10 v11 v12 v13 v14 v23 v24 v25 v26 v27 v30 v32 v33 v34 : Int32), e = .inr (22, [.ref (γ 9 0), .ref (γ 9 1), .ref (γ 9 2), .ref (γ 9 3), .ref (γ 9 4), .ref (γ 9 5), .ref (γ 9 6), .ref (γ 9 7), .ref (γ 9 8), .int v9, .int v10, .int v11, .int v12, .int v13, .int v14, .ref (γ 9 15), .ref (γ 9 16), .ref (γ 9 17), .ref (γ 9 18), .ref (γ 9 19), .ref (γ 9 20), .ref (γ 9 21), .ref (γ 9 22), .int v23, .int v24, .int v25, .int v26, .int v27, .ref r28, .ref (γ 9 29), .int v30, .ref (γ 9 31), .int v32, .int v33, .int v34, .ref r35]) → rM1 v9 v10 v11 v14 v25 v26 v27 v32 v34 → rKd γ r28 98 → rKd γ r35 96 → rKd γ (γ 9 0) 12 → rKd γ (γ 9 1) 13 → rKd γ (γ 9 2) 35 → rKd γ (γ 9 3) 14 → rKd γ (γ 9 4) 16 → rKd γ (γ 9 5) 17 → rKd γ (γ 9 6) 9 → rKd γ (γ 9 7) 9 → rKd γ (γ 9 8) 9 → rKd γ (γ 9 15) 18 → rKd γ (γ 9 16) 19 → rKd γ (γ 9 17) 20 → rKd γ (γ 9 18) 15 → rKd γ (γ 9 19) 21 → rKd γ (γ 9 20) 22 → rKd γ (γ 9 21) 23 → rKd γ (γ 9 22) 97 → rKd γ (γ 9 29) 28 → rKd γ (γ 9 31) 99 → rF1 γ (γ 9 6) 0 → rF1 γ (γ 9 7) 1 → rF1 γ (γ 9 8) 2 → rM2 γ v9 v10 v34 r35 → C) : C := by
  obtain ⟨r28, r35, v9, v10, v11, v12, v13, v14, v23, v24, v25, v26, v27, v30, v32, v33, v34, h0, h1, h2, h3, h4, h5, h6, h7, h8, h9, h10, h11, h12, h13, h14, h15, h16, h17, h18, h19, h20, h21, h22, h23, h24, h25, h26⟩ := h
  exact k r28 r35 v9 v10 v11 v12 v13 v14 v23 v24 v25 v26 v27 v30 v32 v33 v34 h0 h1 h2 h3 h4 h5 h6 h7 h8 h9 h10 h11 h12 h13 h14 h15 h16 h17 h18 h19 h20 h21 h22 h23 h24 h25 h26
/-- the model's fields 9, 32 and its result are as before -/
def mO (e : va_E) : (Nat × Int32) × Int32 × Int32 × Int32 × Int32 × Int32 := ((fR e 28, fI e 34), fI e 23, fI e 24, fI e 25, fI e 26, fI e 27)
def mKq (e e1 : va_E) : Prop := (fI e1 9).toInt = (fI e 9).toInt ∧ ((fI e1 32).toInt, fR e1 35, mO e1) = ((fI e 32).toInt, fR e 35, mO e)
theorem mKq_rf {e : va_E} : mKq e e := ⟨rfl, rfl⟩
theorem mKq_tr {e e1 e2 : va_E} (h : mKq e e1) (g : mKq e1 e2) : mKq e e2 := ⟨g.1.trans h.1, g.2.trans h.2⟩
theorem mKq_eq {e e1 : va_E} (h : e1 = e) : mKq e e1 := by rw [h]; exact mKq_rf
def mKp (e e1 : va_E) : Prop := (fI e1 9).toInt = (fI e 9).toInt ∧ ((fI e1 32).toInt, fR e1 35, mO e1, fI e1 30) = ((fI e 32).toInt, fR e 35, mO e, fI e 30)
theorem mKp_rf {e : va_E} : mKp e e := ⟨rfl, rfl⟩
theorem mKp_tr {e e1 e2 : va_E} (h : mKp e e1) (g : mKp e1 e2) : mKp e e2 := ⟨g.1.trans h.1, g.2.trans h.2⟩
theorem mKp_eq {e e1 : va_E} (h : e1 = e) : mKp e e1 := by rw [h]; exact mKp_rf
theorem mKp_q {e e1 : va_E} (h : mKp e e1) : mKq e e1 := ⟨h.1, Prod.ext (congrArg (fun z => z.1) h.2) (Prod.ext (congrArg (fun z => z.2.1) h.2) (congrArg (fun z => z.2.2.1) h.2))⟩
theorem mKp_30 {e e1 : va_E} (h : mKp e e1) : fI e1 30 = fI e 30 := congrArg (fun z => z.2.2.2) h.2
end
section
/- tr_RModel_set2: a.0.[] -/
def tr_RModel_set2 (a1 : Int32) (a0_v : Nat → Int64) (o1 : Nat → Int64) : Prop := ∀ R : (Nat → Int64) → Prop,
  (∀ (x1 : Int32) (x2 : Int64) (x3 : Int64) (x4 : Int64) (x5 : Nat → Int64), x1.toInt = a1.toInt / 64 → x2 = a0_v x1.toNatClampNeg → x3 = (1 : Int64) <<< (a1.toInt64 &&& 63) → x4 = x2 ||| x3 → x5 = vp_updL a0_v x1.toNatClampNeg x4 → R x5) →
  R o1
abbrev ky_222405_SpillForgeModel_set : gKey := (cX17_set, 2, "SpillForgeModel", none, [], "set", fun _ _ => True)
def pp_222405_SpillForgeModel_set (D : va_G) (I : FieldType → ClassId) (P222399 : List Nat) (F222400 : Nat → va_E) (q222401 : Nat) (p222402 : Int32) (f222403 : Nat → Int64) : Option Value → va_W → Nat → Nat → Prop := fun r w dc ds => ∃ (F222418 : Nat → va_E) (f222416 : Nat → Int64), r = none ∧ w = va_pl P222399 F222418 ∧ rFr [q222401] P222399 F222400 F222418 ∧ F222418 q222401 = .inl (I .long, 32, .inr (.inl f222416)) ∧ dc ≤ 0 ∧ ds ≤ 0 ∧ lb_W f222416 (32) (32) (2000) ∧ (∀ k : Nat, rbt f222416 k = (rbt f222403 k || decide ((k : Int) = p222402.toInt))) ∧ tr_RModel_set2 p222402 f222403 f222416
set_option maxRecDepth 100000 in
set_option maxHeartbeats 4000000 in
theorem cp_222405_SpillForgeModel_set (l : Launch) (hl0 : l.stackTraces = false) (D : va_G) (I : FieldType → ClassId) (P222399 : List Nat) (F222400 : Nat → va_E) (q222401 : Nat) (p222402 : Int32) (f222403 : Nat → Int64) (hmq222401 : q222401 ∈ P222399) (heq222401 : F222400 q222401 = .inl (I .long, 32, .inr (.inl f222403))) (bp222402 : gB p222402 0 1999) (x222404 : lb_W f222403 (32) (32) (2000)) : CtA (gV D I) l yX17_set cX17_set 2 none 0 0 0 0 [.ref q222401, .int p222402] (va_pl P222399 F222400) (pp_222405_SpillForgeModel_set D I P222399 F222400 q222401 p222402 f222403) gNA := by
  refine CtA_of hl0 (by decide) (Nat.le_of_ble_eq_true rfl) ?_
  refine G_aload_n 0 dr_cX17_set_0 rfl ?_
  refine G_iload_n 1 dr_cX17_set_1 rfl ?_
  refine G_bipush 6 dr_cX17_set_2 (by decide +kernel) ?_
  refine G_ishr dr_cX17_set_4 (G_nam fun z222406 hz222406 => ?_)
  have ez222406 : z222406.toInt = p222402.toInt / 64 := gI_shr (k := 6) hz222406 (by decide)
  have bz222406 : gB z222406 0 31 := ⟨by omega, by omega⟩
  refine G_dup2_11 dr_cX17_set_5 rfl rfl ?_
  refine Gp_lald 2 hmq222401 heq222401 dr_cX17_set_6 rfl (gB_in bz222406 (by decide) (by decide)) (G_namL fun u222407 hu222407 => ?_)
  have qu222407 : lb_Q u222407 (2000 - 64 * z222406.toInt) := lb_Wld hu222407 x222404 (by omega) (by omega) (lb_Mod0 (by omega) (by omega))
  refine G_lconst 1 dr_cX17_set_7 rfl ?_
  refine G_iload_n 1 dr_cX17_set_8 rfl ?_
  refine G_lshl dr_cX17_set_9 (G_namL fun u222408 hu222408 => ?_)
  have qu222408 : lb_Q u222408 (p222402.toInt % 64 + 1) := lb_Qshl hu222408 (by omega)
  refine G_lor dr_cX17_set_10 (G_namL fun u222409 hu222409 => ?_)
  have qu222409 : lb_Q u222409 (2000 - 64 * z222406.toInt) := lb_Qor hu222409 qu222407 (lb_Qw qu222408 (by omega))
  refine Gp_last 2 hmq222401 heq222401 dr_cX17_set_11 rfl (gB_in bz222406 (by decide) (by decide)) (fun F222410 e222411 n222412 => ?_)
  obtain ⟨f222413, hf222413⟩ : ∃ z, z = vp_updL f222403 z222406.toNatClampNeg u222409 := ⟨_, rfl⟩
  rw [← hf222413] at e222411
  have he222414 : F222410 q222401 = .inl (I .long, 32, .inr (.inl f222413)) := e222411
  have hfr222415 : rFr [q222401] P222399 F222400 F222410 := rFr_put (rFr_rf (W := []) (P := P222399) (F := F222400)) n222412
  have wf222413 : lb_W f222413 (32) (32) (2000) := lb_Wst hf222413 x222404 (by omega) (lb_Mod0 (by omega) (by omega)) qu222409
  exact G_vretA dr_cX17_set_12 rfl (Nat.le_of_ble_eq_true rfl) (Nat.le_of_ble_eq_true rfl) ⟨F222410, f222413, rfl, rfl, hfr222415, he222414, (Nat.le_of_ble_eq_true rfl), (Nat.le_of_ble_eq_true rfl), wf222413, (rbt_set (by assumption) (by assumption) (by assumption) (by assumption) hf222413 (by omega)), (fun R c1 => c1 z222406 u222407 u222408 u222409 f222413 ez222406 hu222407 hu222408 hu222409 hf222413)⟩
/- tr_RModel_clear2: a.0.[] -/
def tr_RModel_clear2 (a1 : Int32) (a0_v : Nat → Int64) (o1 : Nat → Int64) : Prop := ∀ R : (Nat → Int64) → Prop,
  (∀ (x1 : Int32) (x2 : Int64) (x3 : Int64) (x4 : Int64) (x5 : Int64) (x6 : Nat → Int64), x1.toInt = a1.toInt / 64 → x2 = a0_v x1.toNatClampNeg → x3 = (1 : Int64) <<< (a1.toInt64 &&& 63) → x4 = x3 ^^^ (-1 : Int64) → x5 = x2 &&& x4 → x6 = vp_updL a0_v x1.toNatClampNeg x5 → R x6) →
  R o1
abbrev ky_222425_SpillForgeModel_clear : gKey := (cX17_clear, 2, "SpillForgeModel", none, [], "clear", fun _ _ => True)
def pp_222425_SpillForgeModel_clear (D : va_G) (I : FieldType → ClassId) (P222419 : List Nat) (F222420 : Nat → va_E) (q222421 : Nat) (p222422 : Int32) (f222423 : Nat → Int64) : Option Value → va_W → Nat → Nat → Prop := fun r w dc ds => ∃ (F222439 : Nat → va_E) (f222437 : Nat → Int64), r = none ∧ w = va_pl P222419 F222439 ∧ rFr [q222421] P222419 F222420 F222439 ∧ F222439 q222421 = .inl (I .long, 32, .inr (.inl f222437)) ∧ dc ≤ 0 ∧ ds ≤ 0 ∧ lb_W f222437 (32) (32) (2000) ∧ (∀ k : Nat, rbt f222437 k = (rbt f222423 k && ! decide ((k : Int) = p222422.toInt))) ∧ tr_RModel_clear2 p222422 f222423 f222437
set_option maxRecDepth 100000 in
set_option maxHeartbeats 4000000 in
theorem cp_222425_SpillForgeModel_clear (l : Launch) (hl0 : l.stackTraces = false) (D : va_G) (I : FieldType → ClassId) (P222419 : List Nat) (F222420 : Nat → va_E) (q222421 : Nat) (p222422 : Int32) (f222423 : Nat → Int64) (hmq222421 : q222421 ∈ P222419) (heq222421 : F222420 q222421 = .inl (I .long, 32, .inr (.inl f222423))) (bp222422 : gB p222422 0 1999) (x222424 : lb_W f222423 (32) (32) (2000)) : CtA (gV D I) l yX17_clear cX17_clear 2 none 0 0 0 0 [.ref q222421, .int p222422] (va_pl P222419 F222420) (pp_222425_SpillForgeModel_clear D I P222419 F222420 q222421 p222422 f222423) gNA := by
  refine CtA_of hl0 (by decide) (Nat.le_of_ble_eq_true rfl) ?_
  refine G_aload_n 0 dr_cX17_clear_0 rfl ?_
  refine G_iload_n 1 dr_cX17_clear_1 rfl ?_
  refine G_bipush 6 dr_cX17_clear_2 (by decide +kernel) ?_
  refine G_ishr dr_cX17_clear_4 (G_nam fun z222426 hz222426 => ?_)
  have ez222426 : z222426.toInt = p222422.toInt / 64 := gI_shr (k := 6) hz222426 (by decide)
  have bz222426 : gB z222426 0 31 := ⟨by omega, by omega⟩
  refine G_dup2_11 dr_cX17_clear_5 rfl rfl ?_
  refine Gp_lald 2 hmq222421 heq222421 dr_cX17_clear_6 rfl (gB_in bz222426 (by decide) (by decide)) (G_namL fun u222427 hu222427 => ?_)
  have qu222427 : lb_Q u222427 (2000 - 64 * z222426.toInt) := lb_Wld hu222427 x222424 (by omega) (by omega) (lb_Mod0 (by omega) (by omega))
  refine G_lconst 1 dr_cX17_clear_7 rfl ?_
  refine G_iload_n 1 dr_cX17_clear_8 rfl ?_
  refine G_lshl dr_cX17_clear_9 (G_namL fun u222428 hu222428 => ?_)
  have qu222428 : lb_Q u222428 (p222422.toInt % 64 + 1) := lb_Qshl hu222428 (by omega)
  refine G_ldc2 (-1) dr_cX17_clear_10 wr_10_188 ?_
  refine G_lxor dr_cX17_clear_13 (G_namL fun u222429 hu222429 => ?_)
  refine G_land dr_cX17_clear_14 (G_namL fun u222430 hu222430 => ?_)
  have qu222430 : lb_Q u222430 (2000 - 64 * z222426.toInt) := lb_QandL hu222430 qu222427
  refine Gp_last 2 hmq222421 heq222421 dr_cX17_clear_15 rfl (gB_in bz222426 (by decide) (by decide)) (fun F222431 e222432 n222433 => ?_)
  obtain ⟨f222434, hf222434⟩ : ∃ z, z = vp_updL f222423 z222426.toNatClampNeg u222430 := ⟨_, rfl⟩
  rw [← hf222434] at e222432
  have he222435 : F222431 q222421 = .inl (I .long, 32, .inr (.inl f222434)) := e222432
  have hfr222436 : rFr [q222421] P222419 F222420 F222431 := rFr_put (rFr_rf (W := []) (P := P222419) (F := F222420)) n222433
  have wf222434 : lb_W f222434 (32) (32) (2000) := lb_Wst hf222434 x222424 (by omega) (lb_Mod0 (by omega) (by omega)) qu222430
  exact G_vretA dr_cX17_clear_16 rfl (Nat.le_of_ble_eq_true rfl) (Nat.le_of_ble_eq_true rfl) ⟨F222431, f222434, rfl, rfl, hfr222436, he222435, (Nat.le_of_ble_eq_true rfl), (Nat.le_of_ble_eq_true rfl), wf222434, (rbt_clr (by assumption) (by assumption) (by assumption) (by assumption) (by assumption) hf222434 (by omega)), (fun R c1 => c1 z222426 u222427 u222428 u222429 u222430 f222434 ez222426 hu222427 hu222428 hu222429 hu222430 hf222434)⟩
/- tr_RRow_usesA2: result -/
def tr_RRow_usesA2 (a0_op : Int32) (a0_regA : Int32) (o1 : Int32) : Prop := ∀ R : (Int32) → Prop,
  (a0_op.toInt = 20 → R (0 : Int32)) →
  (a0_op.toInt ≠ 20 → a0_op.toInt = 21 → R (0 : Int32)) →
  (a0_op.toInt ≠ 20 → a0_op.toInt ≠ 21 → a0_op.toInt = 30 → R (0 : Int32)) →
  (a0_op.toInt ≠ 20 → a0_op.toInt ≠ 21 → a0_op.toInt ≠ 30 → a0_regA.toInt = 0 → R (0 : Int32)) →
  (a0_op.toInt ≠ 20 → a0_op.toInt ≠ 21 → a0_op.toInt ≠ 30 → a0_regA.toInt ≠ 0 → R (1 : Int32)) →
  R o1
abbrev ky_222450_Row_usesA : gKey := (cX15_usesA, 1, "SpillForgeModel$Row", (some FieldType.boolean), [], "usesA", fun _ _ => True)
def pp_222450_Row_usesA (D : va_G) (I : FieldType → ClassId) (P222440 : List Nat) (F222441 : Nat → va_E) (q222442 : Nat) (p222443 : Int32) (p222444 : Int32) (p222445 : Int32) (p222446 : Int32) (p222447 : Int32) (p222448 : Int32) (p222449 : Int32) : Option Value → va_W → Nat → Nat → Prop := fun r w dc ds => ∃ (o222463 : Int32), r = some (.int o222463) ∧ w = va_pl P222440 F222441 ∧ dc ≤ 0 ∧ ds ≤ 0 ∧ gB o222463 0 1 ∧ ((o222463.toInt = 1 ∧ p222443.toInt ≠ 20 ∧ p222443.toInt ≠ 21 ∧ p222443.toInt ≠ 30 ∧ p222448.toInt = 1) ∨ (o222463.toInt = 0 ∧ (p222443.toInt = 20 ∨ p222443.toInt = 21 ∨ p222443.toInt = 30 ∨ p222448.toInt = 0))) ∧ tr_RRow_usesA2 p222443 p222448 o222463
set_option maxRecDepth 100000 in
set_option maxHeartbeats 4000000 in
theorem cp_222450_Row_usesA (l : Launch) (hl0 : l.stackTraces = false) (D : va_G) (I : FieldType → ClassId) (P222440 : List Nat) (F222441 : Nat → va_E) (q222442 : Nat) (p222443 : Int32) (p222444 : Int32) (p222445 : Int32) (p222446 : Int32) (p222447 : Int32) (p222448 : Int32) (p222449 : Int32) (hmq222442 : q222442 ∈ P222440) (heq222442 : F222441 q222442 = .inr (20, [.int p222443, .int p222444, .int p222445, .int p222446, .int p222447, .int p222448, .int p222449])) (bp222443 : gB p222443 0 32) (bp222444 : gB p222444 0 1999) (bp222447 : gB p222447 0 1999) (bp222448 : gB p222448 0 1) (bp222449 : gB p222449 0 1) : CtA (gV D I) l yX15_usesA cX15_usesA 1 (some FieldType.boolean) 0 0 0 0 [.ref q222442] (va_pl P222440 F222441) (pp_222450_Row_usesA D I P222440 F222441 q222442 p222443 p222444 p222445 p222446 p222447 p222448 p222449) gNA := by
  refine CtA_of hl0 (by decide) (Nat.le_of_ble_eq_true rfl) ?_
  have bp222445 := gB_any p222445
  have bp222446 := gB_any p222446
  refine G_aload_n 0 dr_cX15_usesA_0 rfl ?_
  refine Gp_get 0 hmq222442 heq222442 dr_cX15_usesA_1 (gk_X15 D I) (Nat.le_of_ble_eq_true rfl) wr_9_175 rfl ?_
  refine G_bipush 20 dr_cX15_usesA_4 (by decide +kernel) ?_
  refine G_icmp_eq 38 dr_cX15_usesA_6 (by decide +kernel) (fun hc222451 => ?_) (fun hc222451 => ?_)
  · have r222452 : p222443.toInt = 20 := gj_eq hc222451 (show Int32.toInt 20 = 20 by decide)
    have bp222443' : gB p222443 20 20 := ⟨by omega, by omega⟩
    refine G_iconst 0 dr_cX15_usesA_38 (by decide +kernel) ?_
    exact G_zretA FieldType.boolean dr_cX15_usesA_39 rfl rfl (Nat.le_of_ble_eq_true rfl) (Nat.le_of_ble_eq_true rfl) ⟨0, rfl, rfl, (Nat.le_of_ble_eq_true rfl), (Nat.le_of_ble_eq_true rfl), (gB_w (gBl (show Int32.toInt 0 = 0 by decide)) (by decide) (by decide)), (by have qa0 : Int32.toInt 0 = 0 := (by decide); omega), (fun R c1 c2 c3 c4 c5 => c1 r222452)⟩
  · have r222453 : p222443.toInt ≠ 20 := gj_neq hc222451 (show Int32.toInt 20 = 20 by decide)
    refine G_aload_n 0 dr_cX15_usesA_9 rfl ?_
    refine Gp_get 0 hmq222442 heq222442 dr_cX15_usesA_10 (gk_X15 D I) (Nat.le_of_ble_eq_true rfl) wr_9_175 rfl ?_
    refine G_bipush 21 dr_cX15_usesA_13 (by decide +kernel) ?_
    refine G_icmp_eq 38 dr_cX15_usesA_15 (by decide +kernel) (fun hc222454 => ?_) (fun hc222454 => ?_)
    · have r222455 : p222443.toInt = 21 := gj_eq hc222454 (show Int32.toInt 21 = 21 by decide)
      have bp222443' : gB p222443 21 21 := ⟨by omega, by omega⟩
      refine G_iconst 0 dr_cX15_usesA_38 (by decide +kernel) ?_
      exact G_zretA FieldType.boolean dr_cX15_usesA_39 rfl rfl (Nat.le_of_ble_eq_true rfl) (Nat.le_of_ble_eq_true rfl) ⟨0, rfl, rfl, (Nat.le_of_ble_eq_true rfl), (Nat.le_of_ble_eq_true rfl), (gB_w (gBl (show Int32.toInt 0 = 0 by decide)) (by decide) (by decide)), (by have qa0 : Int32.toInt 0 = 0 := (by decide); omega), (fun R c1 c2 c3 c4 c5 => c2 r222453 r222455)⟩
    · have r222456 : p222443.toInt ≠ 21 := gj_neq hc222454 (show Int32.toInt 21 = 21 by decide)
      refine G_aload_n 0 dr_cX15_usesA_18 rfl ?_
      refine Gp_get 0 hmq222442 heq222442 dr_cX15_usesA_19 (gk_X15 D I) (Nat.le_of_ble_eq_true rfl) wr_9_175 rfl ?_
      refine G_bipush 30 dr_cX15_usesA_22 (by decide +kernel) ?_
      refine G_icmp_eq 38 dr_cX15_usesA_24 (by decide +kernel) (fun hc222457 => ?_) (fun hc222457 => ?_)
      · have r222458 : p222443.toInt = 30 := gj_eq hc222457 (show Int32.toInt 30 = 30 by decide)
        have bp222443' : gB p222443 30 30 := ⟨by omega, by omega⟩
        refine G_iconst 0 dr_cX15_usesA_38 (by decide +kernel) ?_
        exact G_zretA FieldType.boolean dr_cX15_usesA_39 rfl rfl (Nat.le_of_ble_eq_true rfl) (Nat.le_of_ble_eq_true rfl) ⟨0, rfl, rfl, (Nat.le_of_ble_eq_true rfl), (Nat.le_of_ble_eq_true rfl), (gB_w (gBl (show Int32.toInt 0 = 0 by decide)) (by decide) (by decide)), (by have qa0 : Int32.toInt 0 = 0 := (by decide); omega), (fun R c1 c2 c3 c4 c5 => c3 r222453 r222456 r222458)⟩
      · have r222459 : p222443.toInt ≠ 30 := gj_neq hc222457 (show Int32.toInt 30 = 30 by decide)
        refine G_aload_n 0 dr_cX15_usesA_27 rfl ?_
        refine Gp_get 5 hmq222442 heq222442 dr_cX15_usesA_28 (gk_X15 D I) (Nat.le_of_ble_eq_true rfl) wr_9_195 rfl ?_
        refine G_if_eq 38 dr_cX15_usesA_31 (by decide +kernel) (fun hc222460 => ?_) (fun hc222460 => ?_)
        · have r222461 : p222448.toInt = 0 := gj_eq hc222460 (show Int32.toInt 0 = 0 by decide)
          have bp222448' : gB p222448 0 0 := ⟨by omega, by omega⟩
          refine G_iconst 0 dr_cX15_usesA_38 (by decide +kernel) ?_
          exact G_zretA FieldType.boolean dr_cX15_usesA_39 rfl rfl (Nat.le_of_ble_eq_true rfl) (Nat.le_of_ble_eq_true rfl) ⟨0, rfl, rfl, (Nat.le_of_ble_eq_true rfl), (Nat.le_of_ble_eq_true rfl), (gB_w (gBl (show Int32.toInt 0 = 0 by decide)) (by decide) (by decide)), (by have qa0 : Int32.toInt 0 = 0 := (by decide); omega), (fun R c1 c2 c3 c4 c5 => c4 r222453 r222456 r222459 r222461)⟩
        · have r222462 : p222448.toInt ≠ 0 := gj_neq hc222460 (show Int32.toInt 0 = 0 by decide)
          have bp222448' : gB p222448 1 1 := ⟨by omega, by omega⟩
          refine G_iconst 1 dr_cX15_usesA_34 (by decide +kernel) ?_
          refine G_goto 39 dr_cX15_usesA_35 (by decide +kernel) ?_
          exact G_zretA FieldType.boolean dr_cX15_usesA_39 rfl rfl (Nat.le_of_ble_eq_true rfl) (Nat.le_of_ble_eq_true rfl) ⟨1, rfl, rfl, (Nat.le_of_ble_eq_true rfl), (Nat.le_of_ble_eq_true rfl), (gB_w (gBl (show Int32.toInt 1 = 1 by decide)) (by decide) (by decide)), (by have qa0 : Int32.toInt 1 = 1 := (by decide); omega), (fun R c1 c2 c3 c4 c5 => c5 r222453 r222456 r222459 r222462)⟩
/- tr_RRow_usesB2: result -/
def tr_RRow_usesB2 (a0_op : Int32) (a0_regB : Int32) (o1 : Int32) : Prop := ∀ R : (Int32) → Prop,
  (a0_op.toInt ≤ 0 → R (0 : Int32)) →
  (0 < a0_op.toInt → 20 ≤ a0_op.toInt → R (0 : Int32)) →
  (0 < a0_op.toInt → a0_op.toInt < 20 → a0_regB.toInt = 0 → R (0 : Int32)) →
  (0 < a0_op.toInt → a0_op.toInt < 20 → a0_regB.toInt ≠ 0 → R (1 : Int32)) →
  R o1
abbrev ky_222474_Row_usesB : gKey := (cX15_usesB, 1, "SpillForgeModel$Row", (some FieldType.boolean), [], "usesB", fun _ _ => True)
def pp_222474_Row_usesB (D : va_G) (I : FieldType → ClassId) (P222464 : List Nat) (F222465 : Nat → va_E) (q222466 : Nat) (p222467 : Int32) (p222468 : Int32) (p222469 : Int32) (p222470 : Int32) (p222471 : Int32) (p222472 : Int32) (p222473 : Int32) : Option Value → va_W → Nat → Nat → Prop := fun r w dc ds => ∃ (o222484 : Int32), r = some (.int o222484) ∧ w = va_pl P222464 F222465 ∧ dc ≤ 0 ∧ ds ≤ 0 ∧ gB o222484 0 1 ∧ ((o222484.toInt = 1 ∧ 0 < p222467.toInt ∧ p222467.toInt < 20 ∧ p222473.toInt = 1) ∨ (o222484.toInt = 0 ∧ (p222467.toInt ≤ 0 ∨ 20 ≤ p222467.toInt ∨ p222473.toInt = 0))) ∧ tr_RRow_usesB2 p222467 p222473 o222484
set_option maxRecDepth 100000 in
set_option maxHeartbeats 4000000 in
theorem cp_222474_Row_usesB (l : Launch) (hl0 : l.stackTraces = false) (D : va_G) (I : FieldType → ClassId) (P222464 : List Nat) (F222465 : Nat → va_E) (q222466 : Nat) (p222467 : Int32) (p222468 : Int32) (p222469 : Int32) (p222470 : Int32) (p222471 : Int32) (p222472 : Int32) (p222473 : Int32) (hmq222466 : q222466 ∈ P222464) (heq222466 : F222465 q222466 = .inr (20, [.int p222467, .int p222468, .int p222469, .int p222470, .int p222471, .int p222472, .int p222473])) (bp222467 : gB p222467 0 32) (bp222468 : gB p222468 0 1999) (bp222471 : gB p222471 0 1999) (bp222472 : gB p222472 0 1) (bp222473 : gB p222473 0 1) : CtA (gV D I) l yX15_usesB cX15_usesB 1 (some FieldType.boolean) 0 0 0 0 [.ref q222466] (va_pl P222464 F222465) (pp_222474_Row_usesB D I P222464 F222465 q222466 p222467 p222468 p222469 p222470 p222471 p222472 p222473) gNA := by
  refine CtA_of hl0 (by decide) (Nat.le_of_ble_eq_true rfl) ?_
  have bp222469 := gB_any p222469
  have bp222470 := gB_any p222470
  refine G_aload_n 0 dr_cX15_usesB_0 rfl ?_
  refine Gp_get 0 hmq222466 heq222466 dr_cX15_usesB_1 (gk_X15 D I) (Nat.le_of_ble_eq_true rfl) wr_9_175 rfl ?_
  refine G_if_le 27 dr_cX15_usesB_4 (by decide +kernel) (fun hc222475 => ?_) (fun hc222475 => ?_)
  · have r222476 : p222467.toInt ≤ 0 := gj_le hc222475 (show Int32.toInt 0 = 0 by decide)
    have bp222467' : gB p222467 0 0 := ⟨by omega, by omega⟩
    refine G_iconst 0 dr_cX15_usesB_27 (by decide +kernel) ?_
    exact G_zretA FieldType.boolean dr_cX15_usesB_28 rfl rfl (Nat.le_of_ble_eq_true rfl) (Nat.le_of_ble_eq_true rfl) ⟨0, rfl, rfl, (Nat.le_of_ble_eq_true rfl), (Nat.le_of_ble_eq_true rfl), (gB_w (gBl (show Int32.toInt 0 = 0 by decide)) (by decide) (by decide)), (by have qa0 : Int32.toInt 0 = 0 := (by decide); omega), (fun R c1 c2 c3 c4 => c1 r222476)⟩
  · have r222477 : 0 < p222467.toInt := gj_nle hc222475 (show Int32.toInt 0 = 0 by decide)
    have bp222467' : gB p222467 1 32 := ⟨by omega, by omega⟩
    refine G_aload_n 0 dr_cX15_usesB_7 rfl ?_
    refine Gp_get 0 hmq222466 heq222466 dr_cX15_usesB_8 (gk_X15 D I) (Nat.le_of_ble_eq_true rfl) wr_9_175 rfl ?_
    refine G_bipush 20 dr_cX15_usesB_11 (by decide +kernel) ?_
    refine G_icmp_ge 27 dr_cX15_usesB_13 (by decide +kernel) (fun hc222478 => ?_) (fun hc222478 => ?_)
    · have r222479 : 20 ≤ p222467.toInt := gj_leL hc222478 (show Int32.toInt 20 = 20 by decide)
      have bp222467'' : gB p222467 20 32 := ⟨by omega, by omega⟩
      refine G_iconst 0 dr_cX15_usesB_27 (by decide +kernel) ?_
      exact G_zretA FieldType.boolean dr_cX15_usesB_28 rfl rfl (Nat.le_of_ble_eq_true rfl) (Nat.le_of_ble_eq_true rfl) ⟨0, rfl, rfl, (Nat.le_of_ble_eq_true rfl), (Nat.le_of_ble_eq_true rfl), (gB_w (gBl (show Int32.toInt 0 = 0 by decide)) (by decide) (by decide)), (by have qa0 : Int32.toInt 0 = 0 := (by decide); omega), (fun R c1 c2 c3 c4 => c2 r222477 r222479)⟩
    · have r222480 : p222467.toInt < 20 := gj_nleL hc222478 (show Int32.toInt 20 = 20 by decide)
      have bp222467'' : gB p222467 1 19 := ⟨by omega, by omega⟩
      refine G_aload_n 0 dr_cX15_usesB_16 rfl ?_
      refine Gp_get 6 hmq222466 heq222466 dr_cX15_usesB_17 (gk_X15 D I) (Nat.le_of_ble_eq_true rfl) wr_9_199 rfl ?_
      refine G_if_eq 27 dr_cX15_usesB_20 (by decide +kernel) (fun hc222481 => ?_) (fun hc222481 => ?_)
      · have r222482 : p222473.toInt = 0 := gj_eq hc222481 (show Int32.toInt 0 = 0 by decide)
        have bp222473' : gB p222473 0 0 := ⟨by omega, by omega⟩
        refine G_iconst 0 dr_cX15_usesB_27 (by decide +kernel) ?_
        exact G_zretA FieldType.boolean dr_cX15_usesB_28 rfl rfl (Nat.le_of_ble_eq_true rfl) (Nat.le_of_ble_eq_true rfl) ⟨0, rfl, rfl, (Nat.le_of_ble_eq_true rfl), (Nat.le_of_ble_eq_true rfl), (gB_w (gBl (show Int32.toInt 0 = 0 by decide)) (by decide) (by decide)), (by have qa0 : Int32.toInt 0 = 0 := (by decide); omega), (fun R c1 c2 c3 c4 => c3 r222477 r222480 r222482)⟩
      · have r222483 : p222473.toInt ≠ 0 := gj_neq hc222481 (show Int32.toInt 0 = 0 by decide)
        have bp222473' : gB p222473 1 1 := ⟨by omega, by omega⟩
        refine G_iconst 1 dr_cX15_usesB_23 (by decide +kernel) ?_
        refine G_goto 28 dr_cX15_usesB_24 (by decide +kernel) ?_
        exact G_zretA FieldType.boolean dr_cX15_usesB_28 rfl rfl (Nat.le_of_ble_eq_true rfl) (Nat.le_of_ble_eq_true rfl) ⟨1, rfl, rfl, (Nat.le_of_ble_eq_true rfl), (Nat.le_of_ble_eq_true rfl), (gB_w (gBl (show Int32.toInt 1 = 1 by decide)) (by decide) (by decide)), (by have qa0 : Int32.toInt 1 = 1 := (by decide); omega), (fun R c1 c2 c3 c4 => c4 r222477 r222480 r222483)⟩
/- tr_RRow_sets2: result -/
def tr_RRow_sets2 (a0_op : Int32) (o1 : Int32) : Prop := ∀ R : (Int32) → Prop,
  (21 < a0_op.toInt → R (0 : Int32)) →
  (a0_op.toInt ≤ 21 → R (1 : Int32)) →
  R o1
abbrev ky_222495_Row_sets : gKey := (cX15_sets, 1, "SpillForgeModel$Row", (some FieldType.boolean), [], "sets", fun _ _ => True)
def pp_222495_Row_sets (D : va_G) (I : FieldType → ClassId) (P222485 : List Nat) (F222486 : Nat → va_E) (q222487 : Nat) (p222488 : Int32) (p222489 : Int32) (p222490 : Int32) (p222491 : Int32) (p222492 : Int32) (p222493 : Int32) (p222494 : Int32) : Option Value → va_W → Nat → Nat → Prop := fun r w dc ds => ∃ (o222499 : Int32), r = some (.int o222499) ∧ w = va_pl P222485 F222486 ∧ dc ≤ 0 ∧ ds ≤ 0 ∧ gB o222499 0 1 ∧ ((o222499.toInt = 1 ∧ p222488.toInt ≤ 21) ∨ (o222499.toInt = 0 ∧ 21 < p222488.toInt)) ∧ tr_RRow_sets2 p222488 o222499
set_option maxRecDepth 100000 in
set_option maxHeartbeats 4000000 in
theorem cp_222495_Row_sets (l : Launch) (hl0 : l.stackTraces = false) (D : va_G) (I : FieldType → ClassId) (P222485 : List Nat) (F222486 : Nat → va_E) (q222487 : Nat) (p222488 : Int32) (p222489 : Int32) (p222490 : Int32) (p222491 : Int32) (p222492 : Int32) (p222493 : Int32) (p222494 : Int32) (hmq222487 : q222487 ∈ P222485) (heq222487 : F222486 q222487 = .inr (20, [.int p222488, .int p222489, .int p222490, .int p222491, .int p222492, .int p222493, .int p222494])) (bp222488 : gB p222488 0 32) (bp222489 : gB p222489 0 1999) (bp222492 : gB p222492 0 1999) (bp222493 : gB p222493 0 1) (bp222494 : gB p222494 0 1) : CtA (gV D I) l yX15_sets cX15_sets 1 (some FieldType.boolean) 0 0 0 0 [.ref q222487] (va_pl P222485 F222486) (pp_222495_Row_sets D I P222485 F222486 q222487 p222488 p222489 p222490 p222491 p222492 p222493 p222494) gNA := by
  refine CtA_of hl0 (by decide) (Nat.le_of_ble_eq_true rfl) ?_
  have bp222490 := gB_any p222490
  have bp222491 := gB_any p222491
  refine G_aload_n 0 dr_cX15_sets_0 rfl ?_
  refine Gp_get 0 hmq222487 heq222487 dr_cX15_sets_1 (gk_X15 D I) (Nat.le_of_ble_eq_true rfl) wr_9_175 rfl ?_
  refine G_bipush 21 dr_cX15_sets_4 (by decide +kernel) ?_
  refine G_icmp_gt 13 dr_cX15_sets_6 (by decide +kernel) (fun hc222496 => ?_) (fun hc222496 => ?_)
  · have r222497 : 21 < p222488.toInt := gj_ltL hc222496 (show Int32.toInt 21 = 21 by decide)
    have bp222488' : gB p222488 22 32 := ⟨by omega, by omega⟩
    refine G_iconst 0 dr_cX15_sets_13 (by decide +kernel) ?_
    exact G_zretA FieldType.boolean dr_cX15_sets_14 rfl rfl (Nat.le_of_ble_eq_true rfl) (Nat.le_of_ble_eq_true rfl) ⟨0, rfl, rfl, (Nat.le_of_ble_eq_true rfl), (Nat.le_of_ble_eq_true rfl), (gB_w (gBl (show Int32.toInt 0 = 0 by decide)) (by decide) (by decide)), (by have qa0 : Int32.toInt 0 = 0 := (by decide); omega), (fun R c1 c2 => c1 r222497)⟩
  · have r222498 : p222488.toInt ≤ 21 := gj_nltL hc222496 (show Int32.toInt 21 = 21 by decide)
    have bp222488' : gB p222488 0 21 := ⟨by omega, by omega⟩
    refine G_iconst 1 dr_cX15_sets_9 (by decide +kernel) ?_
    refine G_goto 14 dr_cX15_sets_10 (by decide +kernel) ?_
    exact G_zretA FieldType.boolean dr_cX15_sets_14 rfl rfl (Nat.le_of_ble_eq_true rfl) (Nat.le_of_ble_eq_true rfl) ⟨1, rfl, rfl, (Nat.le_of_ble_eq_true rfl), (Nat.le_of_ble_eq_true rfl), (gB_w (gBl (show Int32.toInt 1 = 1 by decide)) (by decide) (by decide)), (by have qa0 : Int32.toInt 1 = 1 := (by decide); omega), (fun R c1 c2 => c2 r222498)⟩
/- tr_RModel_setOf2: result -/
def tr_RModel_setOf2 (a1 : Int32) (a0_op : Int32) (a0_t : Int32) (a0_slot : Int32) (o1 : Int32) : Prop := ∀ R : (Int32) → Prop,
  (∀ (x1 : Int32), a1.toInt = 0 → gB x1 0 1 → tr_RRow_sets2 a0_op x1 → x1.toInt = 0 → R (-1 : Int32)) →
  (∀ (x1 : Int32), a1.toInt = 0 → gB x1 0 1 → tr_RRow_sets2 a0_op x1 → x1.toInt ≠ 0 → R a0_t) →
  (a1.toInt ≠ 0 → a0_op.toInt ≠ 23 → R (-1 : Int32)) →
  (a1.toInt ≠ 0 → a0_op.toInt = 23 → R a0_slot) →
  R o1
abbrev ky_222511_SpillForgeModel_setOf : gKey := (cX17_setOf, 2, "SpillForgeModel", (some FieldType.int), [], "setOf", fun _ _ => True)
def pp_222511_SpillForgeModel_setOf (D : va_G) (I : FieldType → ClassId) (P222500 : List Nat) (F222501 : Nat → va_E) (q222502 : Nat) (p222503 : Int32) (p222504 : Int32) (p222505 : Int32) (p222506 : Int32) (p222507 : Int32) (p222508 : Int32) (p222509 : Int32) (p222510 : Int32) : Option Value → va_W → Nat → Nat → Prop := fun r w dc ds => ∃ (o222529 : Int32), r = some (.int o222529) ∧ w = va_pl P222500 F222501 ∧ dc ≤ 0 ∧ ds ≤ 0 ∧ gB o222529 (-1) 1999 ∧ ((p222503.toInt = 0 ∧ p222504.toInt ≤ 21 ∧ o222529.toInt = p222505.toInt) ∨ (p222503.toInt = 0 ∧ 21 < p222504.toInt ∧ o222529.toInt = -1) ∨ (p222503.toInt = 1 ∧ p222504.toInt = 23 ∧ o222529.toInt = p222508.toInt) ∨ (p222503.toInt = 1 ∧ p222504.toInt ≠ 23 ∧ o222529.toInt = -1)) ∧ tr_RModel_setOf2 p222503 p222504 p222505 p222508 o222529
set_option maxRecDepth 100000 in
set_option maxHeartbeats 4000000 in
theorem cp_222511_SpillForgeModel_setOf (l : Launch) (hl0 : l.stackTraces = false) (D : va_G) (I : FieldType → ClassId) (P222500 : List Nat) (F222501 : Nat → va_E) (q222502 : Nat) (p222503 : Int32) (p222504 : Int32) (p222505 : Int32) (p222506 : Int32) (p222507 : Int32) (p222508 : Int32) (p222509 : Int32) (p222510 : Int32) (hmq222502 : q222502 ∈ P222500) (heq222502 : F222501 q222502 = .inr (20, [.int p222504, .int p222505, .int p222506, .int p222507, .int p222508, .int p222509, .int p222510])) (bp222503 : gB p222503 0 1) (bp222504 : gB p222504 0 32) (bp222505 : gB p222505 0 1999) (bp222508 : gB p222508 0 1999) (bp222509 : gB p222509 0 1) (bp222510 : gB p222510 0 1) : CtA (gV D I) l yX17_setOf cX17_setOf 2 (some FieldType.int) 1 20 0 0 [.ref q222502, .int p222503] (va_pl P222500 F222501) (pp_222511_SpillForgeModel_setOf D I P222500 F222501 q222502 p222503 p222504 p222505 p222506 p222507 p222508 p222509 p222510) gNA := by
  refine CtA_of hl0 (by decide) (Nat.le_of_ble_eq_true rfl) ?_
  have bp222506 := gB_any p222506
  have bp222507 := gB_any p222507
  refine G_iload_n 1 dr_cX17_setOf_0 rfl ?_
  refine G_if_eq 24 dr_cX17_setOf_1 (by decide +kernel) (fun hc222512 => ?_) (fun hc222512 => ?_)
  · have r222513 : p222503.toInt = 0 := gj_eq hc222512 (show Int32.toInt 0 = 0 by decide)
    have bp222503' : gB p222503 0 0 := ⟨by omega, by omega⟩
    refine G_aload_n 0 dr_cX17_setOf_24 rfl ?_
    refine Gw_callV (As := []) (gV_ok D I) (cp_222495_Row_sets l hl0 D I P222500 F222501 q222502 p222504 p222505 p222506 p222507 p222508 p222509 p222510 hmq222502 heq222502 bp222504 bp222505 bp222508 bp222509 bp222510) dr_cX17_setOf_25 ⟨wr_10_181, wr_1_39, wr_10_184, by decide, rfl, (Nat.le_of_ble_eq_true rfl), (Nat.le_of_ble_eq_true rfl)⟩ wr_10_182 wr_10_183 hmq222502 heq222502 rfl (show 0 + 0 ≤ 0 by first | omega | decide) (show 0 + 0 ≤ 0 by first | omega | decide) (Nat.le_of_ble_eq_true rfl) (fun r222517 w222518 dc222514 ds222515 hp222516 => ?_) (fun _ _ _ _ _ z => z.elim)
    obtain ⟨o222519, rfl, rfl, hdc, hds, bo222519, x222520, ht222521⟩ := hp222516
    change G _ _ _ _ _ _ _ (.int o222519 :: _) _ _ _
    refine G_widen (cs' := 0) (sl' := 0) (by omega) (by omega) ?_
    refine G_if_eq 38 dr_cX17_setOf_28 (by decide +kernel) (fun hc222522 => ?_) (fun hc222522 => ?_)
    · have r222523 : o222519.toInt = 0 := gj_eq hc222522 (show Int32.toInt 0 = 0 by decide)
      have bo222519' : gB o222519 0 0 := ⟨by omega, by omega⟩
      refine G_iconst (-1) dr_cX17_setOf_38 (by decide +kernel) ?_
      exact G_iretA dr_cX17_setOf_39 rfl (Nat.le_of_ble_eq_true rfl) (Nat.le_of_ble_eq_true rfl) ⟨(-1), rfl, rfl, (Nat.le_of_ble_eq_true rfl), (Nat.le_of_ble_eq_true rfl), (gB_w (gBl (show Int32.toInt (-1) = (-1) by decide)) (by decide) (by decide)), (by have qa0 : Int32.toInt (-1) = (-1) := (by decide); omega), (fun R c1 c2 c3 c4 => c1 o222519 r222513 bo222519 ht222521 r222523)⟩
    · have r222524 : o222519.toInt ≠ 0 := gj_neq hc222522 (show Int32.toInt 0 = 0 by decide)
      have bo222519' : gB o222519 1 1 := ⟨by omega, by omega⟩
      refine G_aload_n 0 dr_cX17_setOf_31 rfl ?_
      refine Gp_get 1 hmq222502 heq222502 dr_cX17_setOf_32 (gk_X15 D I) (Nat.le_of_ble_eq_true rfl) wr_9_182 rfl ?_
      refine G_goto 39 dr_cX17_setOf_35 (by decide +kernel) ?_
      exact G_iretA dr_cX17_setOf_39 rfl (Nat.le_of_ble_eq_true rfl) (Nat.le_of_ble_eq_true rfl) ⟨p222505, rfl, rfl, (Nat.le_of_ble_eq_true rfl), (Nat.le_of_ble_eq_true rfl), (gB_w bp222505 (by decide) (by decide)), (by omega), (fun R c1 c2 c3 c4 => c2 o222519 r222513 bo222519 ht222521 r222524)⟩
  · have r222525 : p222503.toInt ≠ 0 := gj_neq hc222512 (show Int32.toInt 0 = 0 by decide)
    have bp222503' : gB p222503 1 1 := ⟨by omega, by omega⟩
    refine G_aload_n 0 dr_cX17_setOf_4 rfl ?_
    refine Gp_get 0 hmq222502 heq222502 dr_cX17_setOf_5 (gk_X15 D I) (Nat.le_of_ble_eq_true rfl) wr_9_177 rfl ?_
    refine G_bipush 23 dr_cX17_setOf_8 (by decide +kernel) ?_
    refine G_icmp_ne 20 dr_cX17_setOf_10 (by decide +kernel) (fun hc222526 => ?_) (fun hc222526 => ?_)
    · have r222527 : p222504.toInt ≠ 23 := gj_neq hc222526 (show Int32.toInt 23 = 23 by decide)
      refine G_iconst (-1) dr_cX17_setOf_20 (by decide +kernel) ?_
      refine G_goto 39 dr_cX17_setOf_21 (by decide +kernel) ?_
      exact G_iretA dr_cX17_setOf_39 rfl (Nat.le_of_ble_eq_true rfl) (Nat.le_of_ble_eq_true rfl) ⟨(-1), rfl, rfl, (Nat.le_of_ble_eq_true rfl), (Nat.le_of_ble_eq_true rfl), (gB_w (gBl (show Int32.toInt (-1) = (-1) by decide)) (by decide) (by decide)), (by have qa0 : Int32.toInt (-1) = (-1) := (by decide); omega), (fun R c1 c2 c3 c4 => c3 r222525 r222527)⟩
    · have r222528 : p222504.toInt = 23 := gj_eq hc222526 (show Int32.toInt 23 = 23 by decide)
      have bp222504' : gB p222504 23 23 := ⟨by omega, by omega⟩
      refine G_aload_n 0 dr_cX17_setOf_13 rfl ?_
      refine Gp_get 4 hmq222502 heq222502 dr_cX17_setOf_14 (gk_X15 D I) (Nat.le_of_ble_eq_true rfl) wr_9_193 rfl ?_
      refine G_goto 39 dr_cX17_setOf_17 (by decide +kernel) ?_
      exact G_iretA dr_cX17_setOf_39 rfl (Nat.le_of_ble_eq_true rfl) (Nat.le_of_ble_eq_true rfl) ⟨p222508, rfl, rfl, (Nat.le_of_ble_eq_true rfl), (Nat.le_of_ble_eq_true rfl), (gB_w bp222508 (by decide) (by decide)), (by omega), (fun R c1 c2 c3 c4 => c4 r222525 r222528)⟩
/- tr_RModel_back2: F -/
def tr_RModel_back2 (D : va_G) (I : FieldType → ClassId) (γ el : Nat → Nat → Nat) (P : List Nat) (F : Nat → va_E) (q0 : Nat) (q1 : Nat) (a2 : Int32) (o1 : Nat → va_E) : Prop := ∀ R : (Nat → va_E) → Prop,
  (∀ (x1 : Int32) (x2 : Int32) (x3 : Int32) (x4 : Int32) (x5 : Int32) (x6 : Int32) (x7 : Int32) (x8 : Int32), fI (F q1) 0 = x1 → fI (F q1) 1 = x2 → fI (F q1) 4 = x3 → gB x4 (-1) 1999 → tr_RModel_setOf2 a2 x1 x2 x3 x4 → x4.toInt < 0 → a2.toInt = 0 → fI (F q1) 5 = x5 → gB x6 0 1 → tr_RRow_usesA2 x1 x5 x6 → x6.toInt = 0 → fI (F q1) 6 = x7 → gB x8 0 1 → tr_RRow_usesB2 x1 x7 x8 → x8.toInt = 0 → R F) →
  (∀ (x1 : Int32) (x2 : Int32) (x3 : Int32) (x4 : Int32) (x5 : Int32) (x6 : Int32) (x7 : Int32) (x8 : Int32) (x9 : Int32) (x10 : Nat → Int64) (x11 : Nat → Int64) (x12 : Nat → va_E), fI (F q1) 0 = x1 → fI (F q1) 1 = x2 → fI (F q1) 4 = x3 → gB x4 (-1) 1999 → tr_RModel_setOf2 a2 x1 x2 x3 x4 → x4.toInt < 0 → a2.toInt = 0 → fI (F q1) 5 = x5 → gB x6 0 1 → tr_RRow_usesA2 x1 x5 x6 → x6.toInt = 0 → fI (F q1) 6 = x7 → gB x8 0 1 → tr_RRow_usesB2 x1 x7 x8 → x8.toInt ≠ 0 → fR (F q0) 2 = (γ 9 2) → fI (F q1) 3 = x9 → F (γ 9 2) = .inl (I .long, 32, .inr (.inl x10)) → tr_RModel_set2 x9 x10 x11 → rFr [(γ 9 2)] P F x12 → x12 (γ 9 2) = .inl (I .long, 32, .inr (.inl x11)) → RS D I P x12 γ el → R x12) →
  (∀ (x1 : Int32) (x2 : Int32) (x3 : Int32) (x4 : Int32) (x5 : Int32) (x6 : Int32) (x7 : Int32) (x8 : Nat → Int64) (x9 : Nat → Int64) (x10 : Nat → va_E) (x11 : Int32) (x12 : Int32), fI (F q1) 0 = x1 → fI (F q1) 1 = x2 → fI (F q1) 4 = x3 → gB x4 (-1) 1999 → tr_RModel_setOf2 a2 x1 x2 x3 x4 → x4.toInt < 0 → a2.toInt = 0 → fI (F q1) 5 = x5 → gB x6 0 1 → tr_RRow_usesA2 x1 x5 x6 → x6.toInt ≠ 0 → fR (F q0) 2 = (γ 9 2) → fI (F q1) 2 = x7 → F (γ 9 2) = .inl (I .long, 32, .inr (.inl x8)) → tr_RModel_set2 x7 x8 x9 → rFr [(γ 9 2)] P F x10 → x10 (γ 9 2) = .inl (I .long, 32, .inr (.inl x9)) → RS D I P x10 γ el → fI (x10 q1) 0 = x1 → fI (x10 q1) 6 = x11 → gB x12 0 1 → tr_RRow_usesB2 x1 x11 x12 → x12.toInt = 0 → R x10) →
  (∀ (x1 : Int32) (x2 : Int32) (x3 : Int32) (x4 : Int32) (x5 : Int32) (x6 : Int32) (x7 : Int32) (x8 : Nat → Int64) (x9 : Nat → Int64) (x10 : Nat → va_E) (x11 : Int32) (x12 : Int32) (x13 : Int32) (x14 : Nat → Int64) (x15 : Nat → va_E), fI (F q1) 0 = x1 → fI (F q1) 1 = x2 → fI (F q1) 4 = x3 → gB x4 (-1) 1999 → tr_RModel_setOf2 a2 x1 x2 x3 x4 → x4.toInt < 0 → a2.toInt = 0 → fI (F q1) 5 = x5 → gB x6 0 1 → tr_RRow_usesA2 x1 x5 x6 → x6.toInt ≠ 0 → fR (F q0) 2 = (γ 9 2) → fI (F q1) 2 = x7 → F (γ 9 2) = .inl (I .long, 32, .inr (.inl x8)) → tr_RModel_set2 x7 x8 x9 → rFr [(γ 9 2)] P F x10 → x10 (γ 9 2) = .inl (I .long, 32, .inr (.inl x9)) → RS D I P x10 γ el → fI (x10 q1) 0 = x1 → fI (x10 q1) 6 = x11 → gB x12 0 1 → tr_RRow_usesB2 x1 x11 x12 → x12.toInt ≠ 0 → fR (x10 q0) 2 = (γ 9 2) → fI (x10 q1) 3 = x13 → x10 (γ 9 2) = .inl (I .long, 32, .inr (.inl x9)) → tr_RModel_set2 x13 x9 x14 → rFr [(γ 9 2)] P x10 x15 → x15 (γ 9 2) = .inl (I .long, 32, .inr (.inl x14)) → RS D I P x15 γ el → R x15) →
  (∀ (x1 : Int32) (x2 : Int32) (x3 : Int32) (x4 : Int32), fI (F q1) 0 = x1 → fI (F q1) 1 = x2 → fI (F q1) 4 = x3 → gB x4 (-1) 1999 → tr_RModel_setOf2 a2 x1 x2 x3 x4 → x4.toInt < 0 → a2.toInt ≠ 0 → x1.toInt ≠ 21 → R F) →
  (∀ (x1 : Int32) (x2 : Int32) (x3 : Int32) (x4 : Int32) (x5 : Nat → Int64) (x6 : Nat → Int64) (x7 : Nat → va_E), fI (F q1) 0 = x1 → fI (F q1) 1 = x2 → fI (F q1) 4 = x3 → gB x4 (-1) 1999 → tr_RModel_setOf2 a2 x1 x2 x3 x4 → x4.toInt < 0 → a2.toInt ≠ 0 → x1.toInt = 21 → fR (F q0) 2 = (γ 9 2) → F (γ 9 2) = .inl (I .long, 32, .inr (.inl x5)) → tr_RModel_set2 x3 x5 x6 → rFr [(γ 9 2)] P F x7 → x7 (γ 9 2) = .inl (I .long, 32, .inr (.inl x6)) → RS D I P x7 γ el → R x7) →
  (∀ (x1 : Int32) (x2 : Int32) (x3 : Int32) (x4 : Int32) (x5 : Nat → Int64) (x6 : Nat → Int64) (x7 : Nat → va_E) (x8 : Int32) (x9 : Int32) (x10 : Int32) (x11 : Int32), fI (F q1) 0 = x1 → fI (F q1) 1 = x2 → fI (F q1) 4 = x3 → gB x4 (-1) 1999 → tr_RModel_setOf2 a2 x1 x2 x3 x4 → 0 ≤ x4.toInt → fR (F q0) 2 = (γ 9 2) → F (γ 9 2) = .inl (I .long, 32, .inr (.inl x5)) → tr_RModel_clear2 x4 x5 x6 → rFr [(γ 9 2)] P F x7 → x7 (γ 9 2) = .inl (I .long, 32, .inr (.inl x6)) → RS D I P x7 γ el → a2.toInt = 0 → fI (x7 q1) 0 = x1 → fI (x7 q1) 5 = x8 → gB x9 0 1 → tr_RRow_usesA2 x1 x8 x9 → x9.toInt = 0 → fI (x7 q1) 6 = x10 → gB x11 0 1 → tr_RRow_usesB2 x1 x10 x11 → x11.toInt = 0 → R x7) →
  (∀ (x1 : Int32) (x2 : Int32) (x3 : Int32) (x4 : Int32) (x5 : Nat → Int64) (x6 : Nat → Int64) (x7 : Nat → va_E) (x8 : Int32) (x9 : Int32) (x10 : Int32) (x11 : Int32) (x12 : Int32) (x13 : Nat → Int64) (x14 : Nat → va_E), fI (F q1) 0 = x1 → fI (F q1) 1 = x2 → fI (F q1) 4 = x3 → gB x4 (-1) 1999 → tr_RModel_setOf2 a2 x1 x2 x3 x4 → 0 ≤ x4.toInt → fR (F q0) 2 = (γ 9 2) → F (γ 9 2) = .inl (I .long, 32, .inr (.inl x5)) → tr_RModel_clear2 x4 x5 x6 → rFr [(γ 9 2)] P F x7 → x7 (γ 9 2) = .inl (I .long, 32, .inr (.inl x6)) → RS D I P x7 γ el → a2.toInt = 0 → fI (x7 q1) 0 = x1 → fI (x7 q1) 5 = x8 → gB x9 0 1 → tr_RRow_usesA2 x1 x8 x9 → x9.toInt = 0 → fI (x7 q1) 6 = x10 → gB x11 0 1 → tr_RRow_usesB2 x1 x10 x11 → x11.toInt ≠ 0 → fR (x7 q0) 2 = (γ 9 2) → fI (x7 q1) 3 = x12 → x7 (γ 9 2) = .inl (I .long, 32, .inr (.inl x6)) → tr_RModel_set2 x12 x6 x13 → rFr [(γ 9 2)] P x7 x14 → x14 (γ 9 2) = .inl (I .long, 32, .inr (.inl x13)) → RS D I P x14 γ el → R x14) →
  (∀ (x1 : Int32) (x2 : Int32) (x3 : Int32) (x4 : Int32) (x5 : Nat → Int64) (x6 : Nat → Int64) (x7 : Nat → va_E) (x8 : Int32) (x9 : Int32) (x10 : Int32) (x11 : Nat → Int64) (x12 : Nat → va_E) (x13 : Int32) (x14 : Int32), fI (F q1) 0 = x1 → fI (F q1) 1 = x2 → fI (F q1) 4 = x3 → gB x4 (-1) 1999 → tr_RModel_setOf2 a2 x1 x2 x3 x4 → 0 ≤ x4.toInt → fR (F q0) 2 = (γ 9 2) → F (γ 9 2) = .inl (I .long, 32, .inr (.inl x5)) → tr_RModel_clear2 x4 x5 x6 → rFr [(γ 9 2)] P F x7 → x7 (γ 9 2) = .inl (I .long, 32, .inr (.inl x6)) → RS D I P x7 γ el → a2.toInt = 0 → fI (x7 q1) 0 = x1 → fI (x7 q1) 5 = x8 → gB x9 0 1 → tr_RRow_usesA2 x1 x8 x9 → x9.toInt ≠ 0 → fR (x7 q0) 2 = (γ 9 2) → fI (x7 q1) 2 = x10 → x7 (γ 9 2) = .inl (I .long, 32, .inr (.inl x6)) → tr_RModel_set2 x10 x6 x11 → rFr [(γ 9 2)] P x7 x12 → x12 (γ 9 2) = .inl (I .long, 32, .inr (.inl x11)) → RS D I P x12 γ el → fI (x12 q1) 0 = x1 → fI (x12 q1) 6 = x13 → gB x14 0 1 → tr_RRow_usesB2 x1 x13 x14 → x14.toInt = 0 → R x12) →
  (∀ (x1 : Int32) (x2 : Int32) (x3 : Int32) (x4 : Int32) (x5 : Nat → Int64) (x6 : Nat → Int64) (x7 : Nat → va_E) (x8 : Int32) (x9 : Int32) (x10 : Int32) (x11 : Nat → Int64) (x12 : Nat → va_E) (x13 : Int32) (x14 : Int32) (x15 : Int32) (x16 : Nat → Int64) (x17 : Nat → va_E), fI (F q1) 0 = x1 → fI (F q1) 1 = x2 → fI (F q1) 4 = x3 → gB x4 (-1) 1999 → tr_RModel_setOf2 a2 x1 x2 x3 x4 → 0 ≤ x4.toInt → fR (F q0) 2 = (γ 9 2) → F (γ 9 2) = .inl (I .long, 32, .inr (.inl x5)) → tr_RModel_clear2 x4 x5 x6 → rFr [(γ 9 2)] P F x7 → x7 (γ 9 2) = .inl (I .long, 32, .inr (.inl x6)) → RS D I P x7 γ el → a2.toInt = 0 → fI (x7 q1) 0 = x1 → fI (x7 q1) 5 = x8 → gB x9 0 1 → tr_RRow_usesA2 x1 x8 x9 → x9.toInt ≠ 0 → fR (x7 q0) 2 = (γ 9 2) → fI (x7 q1) 2 = x10 → x7 (γ 9 2) = .inl (I .long, 32, .inr (.inl x6)) → tr_RModel_set2 x10 x6 x11 → rFr [(γ 9 2)] P x7 x12 → x12 (γ 9 2) = .inl (I .long, 32, .inr (.inl x11)) → RS D I P x12 γ el → fI (x12 q1) 0 = x1 → fI (x12 q1) 6 = x13 → gB x14 0 1 → tr_RRow_usesB2 x1 x13 x14 → x14.toInt ≠ 0 → fR (x12 q0) 2 = (γ 9 2) → fI (x12 q1) 3 = x15 → x12 (γ 9 2) = .inl (I .long, 32, .inr (.inl x11)) → tr_RModel_set2 x15 x11 x16 → rFr [(γ 9 2)] P x12 x17 → x17 (γ 9 2) = .inl (I .long, 32, .inr (.inl x16)) → RS D I P x17 γ el → R x17) →
  (∀ (x1 : Int32) (x2 : Int32) (x3 : Int32) (x4 : Int32) (x5 : Nat → Int64) (x6 : Nat → Int64) (x7 : Nat → va_E), fI (F q1) 0 = x1 → fI (F q1) 1 = x2 → fI (F q1) 4 = x3 → gB x4 (-1) 1999 → tr_RModel_setOf2 a2 x1 x2 x3 x4 → 0 ≤ x4.toInt → fR (F q0) 2 = (γ 9 2) → F (γ 9 2) = .inl (I .long, 32, .inr (.inl x5)) → tr_RModel_clear2 x4 x5 x6 → rFr [(γ 9 2)] P F x7 → x7 (γ 9 2) = .inl (I .long, 32, .inr (.inl x6)) → RS D I P x7 γ el → a2.toInt ≠ 0 → fI (x7 q1) 0 = x1 → x1.toInt ≠ 21 → R x7) →
  (∀ (x1 : Int32) (x2 : Int32) (x3 : Int32) (x4 : Int32) (x5 : Nat → Int64) (x6 : Nat → Int64) (x7 : Nat → va_E) (x8 : Nat → Int64) (x9 : Nat → va_E), fI (F q1) 0 = x1 → fI (F q1) 1 = x2 → fI (F q1) 4 = x3 → gB x4 (-1) 1999 → tr_RModel_setOf2 a2 x1 x2 x3 x4 → 0 ≤ x4.toInt → fR (F q0) 2 = (γ 9 2) → F (γ 9 2) = .inl (I .long, 32, .inr (.inl x5)) → tr_RModel_clear2 x4 x5 x6 → rFr [(γ 9 2)] P F x7 → x7 (γ 9 2) = .inl (I .long, 32, .inr (.inl x6)) → RS D I P x7 γ el → a2.toInt ≠ 0 → fI (x7 q1) 0 = x1 → x1.toInt = 21 → fR (x7 q0) 2 = (γ 9 2) → fI (x7 q1) 4 = x3 → x7 (γ 9 2) = .inl (I .long, 32, .inr (.inl x6)) → tr_RModel_set2 x3 x6 x8 → rFr [(γ 9 2)] P x7 x9 → x9 (γ 9 2) = .inl (I .long, 32, .inr (.inl x8)) → RS D I P x9 γ el → R x9) →
  R o1
abbrev ky_222535_SpillForgeModel_back : gKey := (cX17_back, 4, "SpillForgeModel", none, [], "back", fun _ _ => True)
def pt_222535_SpillForgeModel_back (D : va_G) (I : FieldType → ClassId) (γ el : Nat → Nat → Nat) (P222530 : List Nat) (F222531 : Nat → va_E) (q222532 : Nat) (q222533 : Nat) (p222534 : Int32) : Option Value → va_W → Nat → Nat → Prop := fun r w dc ds => ∃ (F222898 : Nat → va_E), r = none ∧ w = va_pl P222530 F222898 ∧ RS D I P222530 F222898 γ el ∧ rStr γ [] F222531 F222898 ∧ dc ≤ 0 ∧ ds ≤ 0 ∧ (∀ k : Nat, rbt (cL (F222898 (γ 9 2))) k = bkS (F222531 q222533) (decide (p222534.toInt = 1)) (rbt (cL (F222531 (γ 9 2)))) k) ∧ rLv γ F222531 F222898 ∧ (F222898 q222532 = F222531 q222532) ∧ tr_RModel_back2 D I γ el P222530 F222531 q222532 q222533 p222534 F222898
set_option maxRecDepth 100000 in
set_option maxHeartbeats 4000000 in
theorem ct_222535_SpillForgeModel_back (l : Launch) (hl0 : l.stackTraces = false) (D : va_G) (I : FieldType → ClassId) (γ el : Nat → Nat → Nat) (P222530 : List Nat) (F222531 : Nat → va_E) (q222532 : Nat) (q222533 : Nat) (p222534 : Int32) (hT : RS D I P222530 F222531 γ el) (htq222532 : rKd γ q222532 10) (htq222533 : rKd γ q222533 1) (bp222534 : gB p222534 0 1) : CtA (gV D I) l yX17_back cX17_back 4 none 2 41 0 0 [.ref q222532, .ref q222533, .int p222534] (va_pl P222530 F222531) (pt_222535_SpillForgeModel_back D I γ el P222530 F222531 q222532 q222533 p222534) gNA := by
  refine CtA_of hl0 (by decide) (Nat.le_of_ble_eq_true rfl) ?_
  have hm222536 : q222532 ∈ P222530 := RS_m hT htq222532 (by decide)
  obtain ⟨q222538, q222539, p222540, p222541, p222542, p222543, p222544, p222545, p222546, p222547, p222548, p222549, p222550, p222551, p222552, p222553, p222554, he222537, hB222581, ht222555, ht222556, ht222557, ht222558, ht222559, ht222560, ht222561, ht222562, ht222563, ht222564, ht222565, ht222566, ht222567, ht222568, ht222569, ht222570, ht222571, ht222572, ht222573, ht222574, ht222575, ht222576, ht222577, ht222578, hB222582⟩ := show rk_10 γ (F222531 q222532) from RS_o hT htq222532
  have hm222583 : (γ 9 2) ∈ P222530 := RS_m hT ht222559 (by decide)
  obtain ⟨f222585, he222584, wf222585⟩ := show rk_35 I (F222531 (γ 9 2)) from RS_o hT ht222559
  have hm222586 : q222533 ∈ P222530 := RS_m hT htq222533 (by decide)
  obtain ⟨p222588, p222589, p222590, p222591, p222592, p222593, p222594, he222587, bp222588, bp222589, bp222592, bp222593, bp222594, r222595, r222596, r222597, r222598, r222599⟩ := show rk_1 γ q222533 (F222531 q222533) from RS_o hT htq222533
  have bp222590 := gB_any p222590
  have bp222591 := gB_any p222591
  refine G_aload_n 1 dr_cX17_back_0 rfl ?_
  refine G_iload_n 2 dr_cX17_back_1 rfl ?_
  have fq222600 : fI (F222531 q222533) 0 = p222588 := by rw [he222587]; rfl
  have fq222601 : fI (F222531 q222533) 1 = p222589 := by rw [he222587]; rfl
  have fq222602 : fI (F222531 q222533) 4 = p222592 := by rw [he222587]; rfl
  refine Gw_callS (As := [.ref q222533, .int p222534]) (gV_ok D I) (cp_222511_SpillForgeModel_setOf l hl0 D I P222530 F222531 q222533 p222534 p222588 p222589 p222590 p222591 p222592 p222593 p222594 hm222586 he222587 bp222534 bp222588 bp222589 bp222592 bp222593 bp222594) dr_cX17_back_2 ⟨wr_10_178, wr_1_14, wr_10_180, by decide, rfl, (Nat.le_of_ble_eq_true rfl), (Nat.le_of_ble_eq_true rfl)⟩ wr_10_179 (show 0 + 0 ≤ 0 by first | omega | decide) (show 0 + 0 ≤ 0 by first | omega | decide) (Nat.le_of_ble_eq_true rfl) (fun r222606 w222607 dc222603 ds222604 hp222605 => ?_) (fun _ _ _ _ _ z => z.elim)
  obtain ⟨o222608, rfl, rfl, hdc, hds, bo222608, x222609, ht222610⟩ := hp222605
  change G _ _ _ _ _ _ _ (.int o222608 :: _) _ _ _
  refine G_widen (cs' := 0) (sl' := 0) (by omega) (by omega) ?_
  refine G_istore_n (L' := [(3, .int o222608), (0, .ref q222532), (1, .ref q222533), (2, .int p222534)]) dr_cX17_back_5 (Nat.le_of_ble_eq_true rfl) rfl ?_
  refine G_iload_n 0 dr_cX17_back_6 rfl ?_
  refine G_if_lt 18 dr_cX17_back_7 (by decide +kernel) (fun hc222611 => ?_) (fun hc222611 => ?_)
  · have r222612 : o222608.toInt < 0 := gj_lt hc222611 (show Int32.toInt 0 = 0 by decide)
    have bo222608' : gB o222608 (-1) (-1) := ⟨by omega, by omega⟩
    refine G_iload_n 3 dr_cX17_back_18 rfl ?_
    refine G_if_eq 43 dr_cX17_back_19 (by decide +kernel) (fun hc222613 => ?_) (fun hc222613 => ?_)
    · have r222614 : p222534.toInt = 0 := gj_eq hc222613 (show Int32.toInt 0 = 0 by decide)
      have bp222534' : gB p222534 0 0 := ⟨by omega, by omega⟩
      refine G_aload_n 2 dr_cX17_back_43 rfl ?_
      have fq222615 : fI (F222531 q222533) 5 = p222593 := by rw [he222587]; rfl
      refine Gw_callV (As := []) (gV_ok D I) (cp_222450_Row_usesA l hl0 D I P222530 F222531 q222533 p222588 p222589 p222590 p222591 p222592 p222593 p222594 hm222586 he222587 bp222588 bp222589 bp222592 bp222593 bp222594) dr_cX17_back_44 ⟨wr_10_192, wr_1_39, wr_10_195, by decide, rfl, (Nat.le_of_ble_eq_true rfl), (Nat.le_of_ble_eq_true rfl)⟩ wr_10_193 wr_10_194 hm222586 he222587 rfl (show 0 + 0 ≤ 0 by first | omega | decide) (show 0 + 0 ≤ 0 by first | omega | decide) (Nat.le_of_ble_eq_true rfl) (fun r222619 w222620 dc222616 ds222617 hp222618 => ?_) (fun _ _ _ _ _ z => z.elim)
      obtain ⟨o222621, rfl, rfl, hdc, hds, bo222621, x222622, ht222623⟩ := hp222618
      change G _ _ _ _ _ _ _ (.int o222621 :: _) _ _ _
      refine G_widen (cs' := 0) (sl' := 0) (by omega) (by omega) ?_
      refine G_if_eq 61 dr_cX17_back_47 (by decide +kernel) (fun hc222624 => ?_) (fun hc222624 => ?_)
      · have r222625 : o222621.toInt = 0 := gj_eq hc222624 (show Int32.toInt 0 = 0 by decide)
        have bo222621' : gB o222621 0 0 := ⟨by omega, by omega⟩
        refine G_aload_n 2 dr_cX17_back_61 rfl ?_
        have fq222626 : fI (F222531 q222533) 6 = p222594 := by rw [he222587]; rfl
        refine Gw_callV (As := []) (gV_ok D I) (cp_222474_Row_usesB l hl0 D I P222530 F222531 q222533 p222588 p222589 p222590 p222591 p222592 p222593 p222594 hm222586 he222587 bp222588 bp222589 bp222592 bp222593 bp222594) dr_cX17_back_62 ⟨wr_10_196, wr_1_39, wr_10_199, by decide, rfl, (Nat.le_of_ble_eq_true rfl), (Nat.le_of_ble_eq_true rfl)⟩ wr_10_197 wr_10_198 hm222586 he222587 rfl (show 0 + 0 ≤ 0 by first | omega | decide) (show 0 + 0 ≤ 0 by first | omega | decide) (Nat.le_of_ble_eq_true rfl) (fun r222630 w222631 dc222627 ds222628 hp222629 => ?_) (fun _ _ _ _ _ z => z.elim)
        obtain ⟨o222632, rfl, rfl, hdc, hds, bo222632, x222633, ht222634⟩ := hp222629
        change G _ _ _ _ _ _ _ (.int o222632 :: _) _ _ _
        refine G_widen (cs' := 0) (sl' := 0) (by omega) (by omega) ?_
        refine G_if_eq 79 dr_cX17_back_65 (by decide +kernel) (fun hc222635 => ?_) (fun hc222635 => ?_)
        · have r222636 : o222632.toInt = 0 := gj_eq hc222635 (show Int32.toInt 0 = 0 by decide)
          have bo222632' : gB o222632 0 0 := ⟨by omega, by omega⟩
          exact G_vretA dr_cX17_back_79 rfl (Nat.le_of_ble_eq_true rfl) (Nat.le_of_ble_eq_true rfl) ⟨F222531, rfl, rfl, hT, (rStr_rf (γ := γ) (W := []) (F := F222531)), (Nat.le_of_ble_eq_true rfl), (Nat.le_of_ble_eq_true rfl), (fun k => by rw [cL_of he222584, bkS_of he222587, (decide_eq_false (show ¬ (p222534.toInt = 1) by omega))]; exact bk_n false false false (decide_eq_false (show ¬ (p222588.toInt ≤ 21) by omega)) (decide_eq_false (show ¬ (p222588.toInt ≠ 20 ∧ p222588.toInt ≠ 21 ∧ p222588.toInt ≠ 30 ∧ p222593.toInt = 1) by omega)) (decide_eq_false (show ¬ (0 < p222588.toInt ∧ p222588.toInt < 20 ∧ p222594.toInt = 1) by omega)) (by simp)), (rLv_rf (γ := γ) (F := F222531)), rfl, (fun R c1 c2 c3 c4 c5 c6 c7 c8 c9 c10 c11 c12 => c1 p222588 p222589 p222592 o222608 p222593 o222621 p222594 o222632 fq222600 fq222601 fq222602 bo222608 ht222610 r222612 r222614 fq222615 bo222621 ht222623 r222625 fq222626 bo222632 ht222634 r222636)⟩
        · have r222637 : o222632.toInt ≠ 0 := gj_neq hc222635 (show Int32.toInt 0 = 0 by decide)
          have bo222632' : gB o222632 1 1 := ⟨by omega, by omega⟩
          refine G_aload_n 1 dr_cX17_back_68 rfl ?_
          have fq222638 : fR (F222531 q222532) 2 = (γ 9 2) := by rw [he222537]; rfl
          refine Gp_get 2 hm222536 he222537 dr_cX17_back_69 (gk_X17 D I) (Nat.le_of_ble_eq_true rfl) wr_7_76 rfl ?_
          refine G_aload_n 2 dr_cX17_back_72 rfl ?_
          have fq222639 : fI (F222531 q222533) 3 = p222591 := by rw [he222587]; rfl
          refine Gp_get 3 hm222586 he222587 dr_cX17_back_73 (gk_X15 D I) (Nat.le_of_ble_eq_true rfl) wr_9_190 rfl ?_
          refine Gw_callS (As := [.ref (γ 9 2), .int p222591]) (gV_ok D I) (cp_222405_SpillForgeModel_set l hl0 D I P222530 F222531 (γ 9 2) p222591 f222585 hm222583 he222584 ⟨by omega, by omega⟩ wf222585) dr_cX17_back_76 ⟨wr_10_189, wr_1_14, wr_10_191, by decide, rfl, (Nat.le_of_ble_eq_true rfl), (Nat.le_of_ble_eq_true rfl)⟩ wr_10_190 (show 0 + 0 ≤ 0 by first | omega | decide) (show 0 + 0 ≤ 0 by first | omega | decide) (Nat.le_of_ble_eq_true rfl) (fun r222643 w222644 dc222640 ds222641 hp222642 => ?_) (fun _ _ _ _ _ z => z.elim)
          obtain ⟨F222649, f222645, rfl, rfl, hfr222651, he222652, hdc, hds, x222646, x222647, ht222648⟩ := hp222642
          have he222653 : F222649 q222532 = .inr (22, [.ref (γ 9 0), .ref (γ 9 1), .ref (γ 9 2), .ref (γ 9 3), .ref (γ 9 4), .ref (γ 9 5), .ref (γ 9 6), .ref (γ 9 7), .ref (γ 9 8), .int p222540, .int p222541, .int p222542, .int p222543, .int p222544, .int p222545, .ref (γ 9 15), .ref (γ 9 16), .ref (γ 9 17), .ref (γ 9 18), .ref (γ 9 19), .ref (γ 9 20), .ref (γ 9 21), .ref (γ 9 22), .int p222546, .int p222547, .int p222548, .int p222549, .int p222550, .ref q222538, .ref (γ 9 29), .int p222551, .ref (γ 9 31), .int p222552, .int p222553, .int p222554, .ref q222539]) := (hfr222651 q222532 hm222536 (nm_c (rn_oa he222537 he222584) nm_n)).trans he222537
          have he222654 : F222649 q222533 = .inr (20, [.int p222588, .int p222589, .int p222590, .int p222591, .int p222592, .int p222593, .int p222594]) := (hfr222651 q222533 hm222586 (nm_c (rn_oa he222587 he222584) nm_n)).trans he222587
          have hfr222655 : rFr [(γ 9 2)] P222530 F222531 F222649 := rFr_call (rSub_rf (P := P222530)) (rFr_rf (W := []) (P := P222530) (F := F222531)) hfr222651 (fun b hb hn => ⟨nm_n, (nm_c (fun e => hn (e ▸ List.mem_cons_self)) nm_n)⟩)
          change G _ _ _ _ _ _ _ _ _ _ _
          refine G_widen (cs' := 0) (sl' := 0) (by omega) (by omega) ?_
          have hT222656 : RS D I P222530 F222649 γ el := RS_fr hT hfr222655 ht222559 (by decide) ⟨f222645, he222652, x222646⟩
          have hs222657 : rStr γ [] F222531 F222649 := rStr_fr hT (rStr_rf (γ := γ) (W := []) (F := F222531)) hfr222655 ht222559 (by decide)
          have lv222658 : rLv γ F222531 F222649 := rLv_fr hT ht222557 (rLv_rf (γ := γ) (F := F222531)) hfr222655 ht222559 (by decide)
          have kp222659 : F222649 q222532 = F222531 q222532 := hfr222655 q222532 (RS_m hT htq222532 (by decide)) (nm_c (rn_ty htq222532 ht222559 (by decide)) nm_n)
          exact G_vretA dr_cX17_back_79 rfl (Nat.le_of_ble_eq_true rfl) (Nat.le_of_ble_eq_true rfl) ⟨F222649, rfl, rfl, hT222656, hs222657, (Nat.le_of_ble_eq_true rfl), (Nat.le_of_ble_eq_true rfl), (fun k => by rw [cL_of he222652, cL_of he222584, bkS_of he222587, (decide_eq_false (show ¬ (p222534.toInt = 1) by omega))]; exact bk_n false false true (decide_eq_false (show ¬ (p222588.toInt ≤ 21) by omega)) (decide_eq_false (show ¬ (p222588.toInt ≠ 20 ∧ p222588.toInt ≠ 21 ∧ p222588.toInt ≠ 30 ∧ p222593.toInt = 1) by omega)) (decide_eq_true (show (0 < p222588.toInt ∧ p222588.toInt < 20 ∧ p222594.toInt = 1) by omega)) (by rw [x222647 k]; simp)), lv222658, kp222659, (fun R c1 c2 c3 c4 c5 c6 c7 c8 c9 c10 c11 c12 => c2 p222588 p222589 p222592 o222608 p222593 o222621 p222594 o222632 p222591 f222585 f222645 F222649 fq222600 fq222601 fq222602 bo222608 ht222610 r222612 r222614 fq222615 bo222621 ht222623 r222625 fq222626 bo222632 ht222634 r222637 fq222638 fq222639 he222584 ht222648 hfr222655 he222652 hT222656)⟩
      · have r222660 : o222621.toInt ≠ 0 := gj_neq hc222624 (show Int32.toInt 0 = 0 by decide)
        have bo222621' : gB o222621 1 1 := ⟨by omega, by omega⟩
        refine G_aload_n 1 dr_cX17_back_50 rfl ?_
        have fq222661 : fR (F222531 q222532) 2 = (γ 9 2) := by rw [he222537]; rfl
        refine Gp_get 2 hm222536 he222537 dr_cX17_back_51 (gk_X17 D I) (Nat.le_of_ble_eq_true rfl) wr_7_76 rfl ?_
        refine G_aload_n 2 dr_cX17_back_54 rfl ?_
        have fq222662 : fI (F222531 q222533) 2 = p222590 := by rw [he222587]; rfl
        refine Gp_get 2 hm222586 he222587 dr_cX17_back_55 (gk_X15 D I) (Nat.le_of_ble_eq_true rfl) wr_9_186 rfl ?_
        refine Gw_callS (As := [.ref (γ 9 2), .int p222590]) (gV_ok D I) (cp_222405_SpillForgeModel_set l hl0 D I P222530 F222531 (γ 9 2) p222590 f222585 hm222583 he222584 ⟨by omega, by omega⟩ wf222585) dr_cX17_back_58 ⟨wr_10_189, wr_1_14, wr_10_191, by decide, rfl, (Nat.le_of_ble_eq_true rfl), (Nat.le_of_ble_eq_true rfl)⟩ wr_10_190 (show 0 + 0 ≤ 0 by first | omega | decide) (show 0 + 0 ≤ 0 by first | omega | decide) (Nat.le_of_ble_eq_true rfl) (fun r222666 w222667 dc222663 ds222664 hp222665 => ?_) (fun _ _ _ _ _ z => z.elim)
        obtain ⟨F222672, f222668, rfl, rfl, hfr222674, he222675, hdc, hds, x222669, x222670, ht222671⟩ := hp222665
        have he222676 : F222672 q222532 = .inr (22, [.ref (γ 9 0), .ref (γ 9 1), .ref (γ 9 2), .ref (γ 9 3), .ref (γ 9 4), .ref (γ 9 5), .ref (γ 9 6), .ref (γ 9 7), .ref (γ 9 8), .int p222540, .int p222541, .int p222542, .int p222543, .int p222544, .int p222545, .ref (γ 9 15), .ref (γ 9 16), .ref (γ 9 17), .ref (γ 9 18), .ref (γ 9 19), .ref (γ 9 20), .ref (γ 9 21), .ref (γ 9 22), .int p222546, .int p222547, .int p222548, .int p222549, .int p222550, .ref q222538, .ref (γ 9 29), .int p222551, .ref (γ 9 31), .int p222552, .int p222553, .int p222554, .ref q222539]) := (hfr222674 q222532 hm222536 (nm_c (rn_oa he222537 he222584) nm_n)).trans he222537
        have he222677 : F222672 q222533 = .inr (20, [.int p222588, .int p222589, .int p222590, .int p222591, .int p222592, .int p222593, .int p222594]) := (hfr222674 q222533 hm222586 (nm_c (rn_oa he222587 he222584) nm_n)).trans he222587
        have hfr222678 : rFr [(γ 9 2)] P222530 F222531 F222672 := rFr_call (rSub_rf (P := P222530)) (rFr_rf (W := []) (P := P222530) (F := F222531)) hfr222674 (fun b hb hn => ⟨nm_n, (nm_c (fun e => hn (e ▸ List.mem_cons_self)) nm_n)⟩)
        change G _ _ _ _ _ _ _ _ _ _ _
        refine G_widen (cs' := 0) (sl' := 0) (by omega) (by omega) ?_
        have hT222679 : RS D I P222530 F222672 γ el := RS_fr hT hfr222678 ht222559 (by decide) ⟨f222668, he222675, x222669⟩
        have hs222680 : rStr γ [] F222531 F222672 := rStr_fr hT (rStr_rf (γ := γ) (W := []) (F := F222531)) hfr222678 ht222559 (by decide)
        have lv222681 : rLv γ F222531 F222672 := rLv_fr hT ht222557 (rLv_rf (γ := γ) (F := F222531)) hfr222678 ht222559 (by decide)
        have kp222682 : F222672 q222532 = F222531 q222532 := hfr222678 q222532 (RS_m hT htq222532 (by decide)) (nm_c (rn_ty htq222532 ht222559 (by decide)) nm_n)
        refine G_aload_n 2 dr_cX17_back_61 rfl ?_
        have fq222683 : fI (F222672 q222533) 0 = p222588 := by rw [he222677]; rfl
        have fq222684 : fI (F222672 q222533) 6 = p222594 := by rw [he222677]; rfl
        refine Gw_callV (As := []) (gV_ok D I) (cp_222474_Row_usesB l hl0 D I P222530 F222672 q222533 p222588 p222589 p222590 p222591 p222592 p222593 p222594 hm222586 he222677 bp222588 bp222589 bp222592 bp222593 bp222594) dr_cX17_back_62 ⟨wr_10_196, wr_1_39, wr_10_199, by decide, rfl, (Nat.le_of_ble_eq_true rfl), (Nat.le_of_ble_eq_true rfl)⟩ wr_10_197 wr_10_198 hm222586 he222677 rfl (show 0 + 0 ≤ 0 by first | omega | decide) (show 0 + 0 ≤ 0 by first | omega | decide) (Nat.le_of_ble_eq_true rfl) (fun r222688 w222689 dc222685 ds222686 hp222687 => ?_) (fun _ _ _ _ _ z => z.elim)
        obtain ⟨o222690, rfl, rfl, hdc, hds, bo222690, x222691, ht222692⟩ := hp222687
        change G _ _ _ _ _ _ _ (.int o222690 :: _) _ _ _
        refine G_widen (cs' := 0) (sl' := 0) (by omega) (by omega) ?_
        refine G_if_eq 79 dr_cX17_back_65 (by decide +kernel) (fun hc222693 => ?_) (fun hc222693 => ?_)
        · have r222694 : o222690.toInt = 0 := gj_eq hc222693 (show Int32.toInt 0 = 0 by decide)
          have bo222690' : gB o222690 0 0 := ⟨by omega, by omega⟩
          exact G_vretA dr_cX17_back_79 rfl (Nat.le_of_ble_eq_true rfl) (Nat.le_of_ble_eq_true rfl) ⟨F222672, rfl, rfl, hT222679, hs222680, (Nat.le_of_ble_eq_true rfl), (Nat.le_of_ble_eq_true rfl), (fun k => by rw [cL_of he222675, cL_of he222584, bkS_of he222587, (decide_eq_false (show ¬ (p222534.toInt = 1) by omega))]; exact bk_n false true false (decide_eq_false (show ¬ (p222588.toInt ≤ 21) by omega)) (decide_eq_true (show (p222588.toInt ≠ 20 ∧ p222588.toInt ≠ 21 ∧ p222588.toInt ≠ 30 ∧ p222593.toInt = 1) by omega)) (decide_eq_false (show ¬ (0 < p222588.toInt ∧ p222588.toInt < 20 ∧ p222594.toInt = 1) by omega)) (by rw [x222670 k]; simp)), lv222681, kp222682, (fun R c1 c2 c3 c4 c5 c6 c7 c8 c9 c10 c11 c12 => c3 p222588 p222589 p222592 o222608 p222593 o222621 p222590 f222585 f222668 F222672 p222594 o222690 fq222600 fq222601 fq222602 bo222608 ht222610 r222612 r222614 fq222615 bo222621 ht222623 r222660 fq222661 fq222662 he222584 ht222671 hfr222678 he222675 hT222679 fq222683 fq222684 bo222690 ht222692 r222694)⟩
        · have r222695 : o222690.toInt ≠ 0 := gj_neq hc222693 (show Int32.toInt 0 = 0 by decide)
          have bo222690' : gB o222690 1 1 := ⟨by omega, by omega⟩
          refine G_aload_n 1 dr_cX17_back_68 rfl ?_
          have fq222696 : fR (F222672 q222532) 2 = (γ 9 2) := by rw [he222676]; rfl
          refine Gp_get 2 hm222536 he222676 dr_cX17_back_69 (gk_X17 D I) (Nat.le_of_ble_eq_true rfl) wr_7_76 rfl ?_
          refine G_aload_n 2 dr_cX17_back_72 rfl ?_
          have fq222697 : fI (F222672 q222533) 3 = p222591 := by rw [he222677]; rfl
          refine Gp_get 3 hm222586 he222677 dr_cX17_back_73 (gk_X15 D I) (Nat.le_of_ble_eq_true rfl) wr_9_190 rfl ?_
          refine Gw_callS (As := [.ref (γ 9 2), .int p222591]) (gV_ok D I) (cp_222405_SpillForgeModel_set l hl0 D I P222530 F222672 (γ 9 2) p222591 f222668 hm222583 he222675 ⟨by omega, by omega⟩ x222669) dr_cX17_back_76 ⟨wr_10_189, wr_1_14, wr_10_191, by decide, rfl, (Nat.le_of_ble_eq_true rfl), (Nat.le_of_ble_eq_true rfl)⟩ wr_10_190 (show 0 + 0 ≤ 0 by first | omega | decide) (show 0 + 0 ≤ 0 by first | omega | decide) (Nat.le_of_ble_eq_true rfl) (fun r222701 w222702 dc222698 ds222699 hp222700 => ?_) (fun _ _ _ _ _ z => z.elim)
          obtain ⟨F222707, f222703, rfl, rfl, hfr222709, he222710, hdc, hds, x222704, x222705, ht222706⟩ := hp222700
          have he222711 : F222707 q222532 = .inr (22, [.ref (γ 9 0), .ref (γ 9 1), .ref (γ 9 2), .ref (γ 9 3), .ref (γ 9 4), .ref (γ 9 5), .ref (γ 9 6), .ref (γ 9 7), .ref (γ 9 8), .int p222540, .int p222541, .int p222542, .int p222543, .int p222544, .int p222545, .ref (γ 9 15), .ref (γ 9 16), .ref (γ 9 17), .ref (γ 9 18), .ref (γ 9 19), .ref (γ 9 20), .ref (γ 9 21), .ref (γ 9 22), .int p222546, .int p222547, .int p222548, .int p222549, .int p222550, .ref q222538, .ref (γ 9 29), .int p222551, .ref (γ 9 31), .int p222552, .int p222553, .int p222554, .ref q222539]) := (hfr222709 q222532 hm222536 (nm_c (rn_oa he222676 he222675) nm_n)).trans he222676
          have he222712 : F222707 q222533 = .inr (20, [.int p222588, .int p222589, .int p222590, .int p222591, .int p222592, .int p222593, .int p222594]) := (hfr222709 q222533 hm222586 (nm_c (rn_oa he222677 he222675) nm_n)).trans he222677
          have hfr222713 : rFr [(γ 9 2)] P222530 F222672 F222707 := rFr_call (rSub_rf (P := P222530)) (rFr_rf (W := []) (P := P222530) (F := F222672)) hfr222709 (fun b hb hn => ⟨nm_n, (nm_c (fun e => hn (e ▸ List.mem_cons_self)) nm_n)⟩)
          change G _ _ _ _ _ _ _ _ _ _ _
          refine G_widen (cs' := 0) (sl' := 0) (by omega) (by omega) ?_
          have hT222714 : RS D I P222530 F222707 γ el := RS_fr hT222679 hfr222713 ht222559 (by decide) ⟨f222703, he222710, x222704⟩
          have hs222715 : rStr γ [] F222531 F222707 := rStr_fr hT222679 hs222680 hfr222713 ht222559 (by decide)
          have lv222716 : rLv γ F222531 F222707 := rLv_fr hT222679 ht222557 lv222681 hfr222713 ht222559 (by decide)
          have kp222717 : F222707 q222532 = F222531 q222532 := (hfr222713 q222532 (RS_m hT222679 htq222532 (by decide)) (nm_c (rn_ty htq222532 ht222559 (by decide)) nm_n)).trans kp222682
          exact G_vretA dr_cX17_back_79 rfl (Nat.le_of_ble_eq_true rfl) (Nat.le_of_ble_eq_true rfl) ⟨F222707, rfl, rfl, hT222714, hs222715, (Nat.le_of_ble_eq_true rfl), (Nat.le_of_ble_eq_true rfl), (fun k => by rw [cL_of he222710, cL_of he222584, bkS_of he222587, (decide_eq_false (show ¬ (p222534.toInt = 1) by omega))]; exact bk_n false true true (decide_eq_false (show ¬ (p222588.toInt ≤ 21) by omega)) (decide_eq_true (show (p222588.toInt ≠ 20 ∧ p222588.toInt ≠ 21 ∧ p222588.toInt ≠ 30 ∧ p222593.toInt = 1) by omega)) (decide_eq_true (show (0 < p222588.toInt ∧ p222588.toInt < 20 ∧ p222594.toInt = 1) by omega)) (by rw [x222705 k, x222670 k]; simp)), lv222716, kp222717, (fun R c1 c2 c3 c4 c5 c6 c7 c8 c9 c10 c11 c12 => c4 p222588 p222589 p222592 o222608 p222593 o222621 p222590 f222585 f222668 F222672 p222594 o222690 p222591 f222703 F222707 fq222600 fq222601 fq222602 bo222608 ht222610 r222612 r222614 fq222615 bo222621 ht222623 r222660 fq222661 fq222662 he222584 ht222671 hfr222678 he222675 hT222679 fq222683 fq222684 bo222690 ht222692 r222695 fq222696 fq222697 he222675 ht222706 hfr222713 he222710 hT222714)⟩
    · have r222718 : p222534.toInt ≠ 0 := gj_neq hc222613 (show Int32.toInt 0 = 0 by decide)
      have bp222534' : gB p222534 1 1 := ⟨by omega, by omega⟩
      refine G_aload_n 2 dr_cX17_back_22 rfl ?_
      refine Gp_get 0 hm222586 he222587 dr_cX17_back_23 (gk_X15 D I) (Nat.le_of_ble_eq_true rfl) wr_9_177 rfl ?_
      refine G_bipush 21 dr_cX17_back_26 (by decide +kernel) ?_
      refine G_icmp_ne 42 dr_cX17_back_28 (by decide +kernel) (fun hc222719 => ?_) (fun hc222719 => ?_)
      · have r222720 : p222588.toInt ≠ 21 := gj_neq hc222719 (show Int32.toInt 21 = 21 by decide)
        exact G_vretA dr_cX17_back_42 rfl (Nat.le_of_ble_eq_true rfl) (Nat.le_of_ble_eq_true rfl) ⟨F222531, rfl, rfl, hT, (rStr_rf (γ := γ) (W := []) (F := F222531)), (Nat.le_of_ble_eq_true rfl), (Nat.le_of_ble_eq_true rfl), (fun k => by rw [cL_of he222584, bkS_of he222587, (decide_eq_true (show (p222534.toInt = 1) by omega))]; exact bk_s false false (decide_eq_false (show ¬ (p222588.toInt = 23) by omega)) (decide_eq_false (show ¬ (p222588.toInt = 21) by omega)) (by simp)), (rLv_rf (γ := γ) (F := F222531)), rfl, (fun R c1 c2 c3 c4 c5 c6 c7 c8 c9 c10 c11 c12 => c5 p222588 p222589 p222592 o222608 fq222600 fq222601 fq222602 bo222608 ht222610 r222612 r222718 r222720)⟩
      · have r222721 : p222588.toInt = 21 := gj_eq hc222719 (show Int32.toInt 21 = 21 by decide)
        have bp222588' : gB p222588 21 21 := ⟨by omega, by omega⟩
        refine G_aload_n 1 dr_cX17_back_31 rfl ?_
        have fq222722 : fR (F222531 q222532) 2 = (γ 9 2) := by rw [he222537]; rfl
        refine Gp_get 2 hm222536 he222537 dr_cX17_back_32 (gk_X17 D I) (Nat.le_of_ble_eq_true rfl) wr_7_76 rfl ?_
        refine G_aload_n 2 dr_cX17_back_35 rfl ?_
        refine Gp_get 4 hm222586 he222587 dr_cX17_back_36 (gk_X15 D I) (Nat.le_of_ble_eq_true rfl) wr_9_193 rfl ?_
        refine Gw_callS (As := [.ref (γ 9 2), .int p222592]) (gV_ok D I) (cp_222405_SpillForgeModel_set l hl0 D I P222530 F222531 (γ 9 2) p222592 f222585 hm222583 he222584 bp222592 wf222585) dr_cX17_back_39 ⟨wr_10_189, wr_1_14, wr_10_191, by decide, rfl, (Nat.le_of_ble_eq_true rfl), (Nat.le_of_ble_eq_true rfl)⟩ wr_10_190 (show 0 + 0 ≤ 0 by first | omega | decide) (show 0 + 0 ≤ 0 by first | omega | decide) (Nat.le_of_ble_eq_true rfl) (fun r222726 w222727 dc222723 ds222724 hp222725 => ?_) (fun _ _ _ _ _ z => z.elim)
        obtain ⟨F222732, f222728, rfl, rfl, hfr222734, he222735, hdc, hds, x222729, x222730, ht222731⟩ := hp222725
        have he222736 : F222732 q222532 = .inr (22, [.ref (γ 9 0), .ref (γ 9 1), .ref (γ 9 2), .ref (γ 9 3), .ref (γ 9 4), .ref (γ 9 5), .ref (γ 9 6), .ref (γ 9 7), .ref (γ 9 8), .int p222540, .int p222541, .int p222542, .int p222543, .int p222544, .int p222545, .ref (γ 9 15), .ref (γ 9 16), .ref (γ 9 17), .ref (γ 9 18), .ref (γ 9 19), .ref (γ 9 20), .ref (γ 9 21), .ref (γ 9 22), .int p222546, .int p222547, .int p222548, .int p222549, .int p222550, .ref q222538, .ref (γ 9 29), .int p222551, .ref (γ 9 31), .int p222552, .int p222553, .int p222554, .ref q222539]) := (hfr222734 q222532 hm222536 (nm_c (rn_oa he222537 he222584) nm_n)).trans he222537
        have he222737 : F222732 q222533 = .inr (20, [.int p222588, .int p222589, .int p222590, .int p222591, .int p222592, .int p222593, .int p222594]) := (hfr222734 q222533 hm222586 (nm_c (rn_oa he222587 he222584) nm_n)).trans he222587
        have hfr222738 : rFr [(γ 9 2)] P222530 F222531 F222732 := rFr_call (rSub_rf (P := P222530)) (rFr_rf (W := []) (P := P222530) (F := F222531)) hfr222734 (fun b hb hn => ⟨nm_n, (nm_c (fun e => hn (e ▸ List.mem_cons_self)) nm_n)⟩)
        change G _ _ _ _ _ _ _ _ _ _ _
        refine G_widen (cs' := 0) (sl' := 0) (by omega) (by omega) ?_
        have hT222739 : RS D I P222530 F222732 γ el := RS_fr hT hfr222738 ht222559 (by decide) ⟨f222728, he222735, x222729⟩
        have hs222740 : rStr γ [] F222531 F222732 := rStr_fr hT (rStr_rf (γ := γ) (W := []) (F := F222531)) hfr222738 ht222559 (by decide)
        have lv222741 : rLv γ F222531 F222732 := rLv_fr hT ht222557 (rLv_rf (γ := γ) (F := F222531)) hfr222738 ht222559 (by decide)
        have kp222742 : F222732 q222532 = F222531 q222532 := hfr222738 q222532 (RS_m hT htq222532 (by decide)) (nm_c (rn_ty htq222532 ht222559 (by decide)) nm_n)
        exact G_vretA dr_cX17_back_42 rfl (Nat.le_of_ble_eq_true rfl) (Nat.le_of_ble_eq_true rfl) ⟨F222732, rfl, rfl, hT222739, hs222740, (Nat.le_of_ble_eq_true rfl), (Nat.le_of_ble_eq_true rfl), (fun k => by rw [cL_of he222735, cL_of he222584, bkS_of he222587, (decide_eq_true (show (p222534.toInt = 1) by omega))]; exact bk_s false true (decide_eq_false (show ¬ (p222588.toInt = 23) by omega)) (decide_eq_true (show (p222588.toInt = 21) by omega)) (by rw [x222730 k]; simp)), lv222741, kp222742, (fun R c1 c2 c3 c4 c5 c6 c7 c8 c9 c10 c11 c12 => c6 p222588 p222589 p222592 o222608 f222585 f222728 F222732 fq222600 fq222601 fq222602 bo222608 ht222610 r222612 r222718 r222721 fq222722 he222584 ht222731 hfr222738 he222735 hT222739)⟩
  · have r222743 : 0 ≤ o222608.toInt := gj_nlt hc222611 (show Int32.toInt 0 = 0 by decide)
    have bo222608' : gB o222608 0 1999 := ⟨by omega, by omega⟩
    refine G_aload_n 1 dr_cX17_back_10 rfl ?_
    have fq222744 : fR (F222531 q222532) 2 = (γ 9 2) := by rw [he222537]; rfl
    refine Gp_get 2 hm222536 he222537 dr_cX17_back_11 (gk_X17 D I) (Nat.le_of_ble_eq_true rfl) wr_7_76 rfl ?_
    refine G_iload_n 0 dr_cX17_back_14 rfl ?_
    refine Gw_callS (As := [.ref (γ 9 2), .int o222608]) (gV_ok D I) (cp_222425_SpillForgeModel_clear l hl0 D I P222530 F222531 (γ 9 2) o222608 f222585 hm222583 he222584 bo222608' wf222585) dr_cX17_back_15 ⟨wr_10_185, wr_1_14, wr_10_187, by decide, rfl, (Nat.le_of_ble_eq_true rfl), (Nat.le_of_ble_eq_true rfl)⟩ wr_10_186 (show 0 + 0 ≤ 0 by first | omega | decide) (show 0 + 0 ≤ 0 by first | omega | decide) (Nat.le_of_ble_eq_true rfl) (fun r222748 w222749 dc222745 ds222746 hp222747 => ?_) (fun _ _ _ _ _ z => z.elim)
    obtain ⟨F222754, f222750, rfl, rfl, hfr222756, he222757, hdc, hds, x222751, x222752, ht222753⟩ := hp222747
    have he222758 : F222754 q222532 = .inr (22, [.ref (γ 9 0), .ref (γ 9 1), .ref (γ 9 2), .ref (γ 9 3), .ref (γ 9 4), .ref (γ 9 5), .ref (γ 9 6), .ref (γ 9 7), .ref (γ 9 8), .int p222540, .int p222541, .int p222542, .int p222543, .int p222544, .int p222545, .ref (γ 9 15), .ref (γ 9 16), .ref (γ 9 17), .ref (γ 9 18), .ref (γ 9 19), .ref (γ 9 20), .ref (γ 9 21), .ref (γ 9 22), .int p222546, .int p222547, .int p222548, .int p222549, .int p222550, .ref q222538, .ref (γ 9 29), .int p222551, .ref (γ 9 31), .int p222552, .int p222553, .int p222554, .ref q222539]) := (hfr222756 q222532 hm222536 (nm_c (rn_oa he222537 he222584) nm_n)).trans he222537
    have he222759 : F222754 q222533 = .inr (20, [.int p222588, .int p222589, .int p222590, .int p222591, .int p222592, .int p222593, .int p222594]) := (hfr222756 q222533 hm222586 (nm_c (rn_oa he222587 he222584) nm_n)).trans he222587
    have hfr222760 : rFr [(γ 9 2)] P222530 F222531 F222754 := rFr_call (rSub_rf (P := P222530)) (rFr_rf (W := []) (P := P222530) (F := F222531)) hfr222756 (fun b hb hn => ⟨nm_n, (nm_c (fun e => hn (e ▸ List.mem_cons_self)) nm_n)⟩)
    change G _ _ _ _ _ _ _ _ _ _ _
    refine G_widen (cs' := 0) (sl' := 0) (by omega) (by omega) ?_
    have hT222761 : RS D I P222530 F222754 γ el := RS_fr hT hfr222760 ht222559 (by decide) ⟨f222750, he222757, x222751⟩
    have hs222762 : rStr γ [] F222531 F222754 := rStr_fr hT (rStr_rf (γ := γ) (W := []) (F := F222531)) hfr222760 ht222559 (by decide)
    have lv222763 : rLv γ F222531 F222754 := rLv_fr hT ht222557 (rLv_rf (γ := γ) (F := F222531)) hfr222760 ht222559 (by decide)
    have kp222764 : F222754 q222532 = F222531 q222532 := hfr222760 q222532 (RS_m hT htq222532 (by decide)) (nm_c (rn_ty htq222532 ht222559 (by decide)) nm_n)
    refine G_iload_n 3 dr_cX17_back_18 rfl ?_
    refine G_if_eq 43 dr_cX17_back_19 (by decide +kernel) (fun hc222765 => ?_) (fun hc222765 => ?_)
    · have r222766 : p222534.toInt = 0 := gj_eq hc222765 (show Int32.toInt 0 = 0 by decide)
      have bp222534' : gB p222534 0 0 := ⟨by omega, by omega⟩
      refine G_aload_n 2 dr_cX17_back_43 rfl ?_
      have fq222767 : fI (F222754 q222533) 0 = p222588 := by rw [he222759]; rfl
      have fq222768 : fI (F222754 q222533) 5 = p222593 := by rw [he222759]; rfl
      refine Gw_callV (As := []) (gV_ok D I) (cp_222450_Row_usesA l hl0 D I P222530 F222754 q222533 p222588 p222589 p222590 p222591 p222592 p222593 p222594 hm222586 he222759 bp222588 bp222589 bp222592 bp222593 bp222594) dr_cX17_back_44 ⟨wr_10_192, wr_1_39, wr_10_195, by decide, rfl, (Nat.le_of_ble_eq_true rfl), (Nat.le_of_ble_eq_true rfl)⟩ wr_10_193 wr_10_194 hm222586 he222759 rfl (show 0 + 0 ≤ 0 by first | omega | decide) (show 0 + 0 ≤ 0 by first | omega | decide) (Nat.le_of_ble_eq_true rfl) (fun r222772 w222773 dc222769 ds222770 hp222771 => ?_) (fun _ _ _ _ _ z => z.elim)
      obtain ⟨o222774, rfl, rfl, hdc, hds, bo222774, x222775, ht222776⟩ := hp222771
      change G _ _ _ _ _ _ _ (.int o222774 :: _) _ _ _
      refine G_widen (cs' := 0) (sl' := 0) (by omega) (by omega) ?_
      refine G_if_eq 61 dr_cX17_back_47 (by decide +kernel) (fun hc222777 => ?_) (fun hc222777 => ?_)
      · have r222778 : o222774.toInt = 0 := gj_eq hc222777 (show Int32.toInt 0 = 0 by decide)
        have bo222774' : gB o222774 0 0 := ⟨by omega, by omega⟩
        refine G_aload_n 2 dr_cX17_back_61 rfl ?_
        have fq222779 : fI (F222754 q222533) 6 = p222594 := by rw [he222759]; rfl
        refine Gw_callV (As := []) (gV_ok D I) (cp_222474_Row_usesB l hl0 D I P222530 F222754 q222533 p222588 p222589 p222590 p222591 p222592 p222593 p222594 hm222586 he222759 bp222588 bp222589 bp222592 bp222593 bp222594) dr_cX17_back_62 ⟨wr_10_196, wr_1_39, wr_10_199, by decide, rfl, (Nat.le_of_ble_eq_true rfl), (Nat.le_of_ble_eq_true rfl)⟩ wr_10_197 wr_10_198 hm222586 he222759 rfl (show 0 + 0 ≤ 0 by first | omega | decide) (show 0 + 0 ≤ 0 by first | omega | decide) (Nat.le_of_ble_eq_true rfl) (fun r222783 w222784 dc222780 ds222781 hp222782 => ?_) (fun _ _ _ _ _ z => z.elim)
        obtain ⟨o222785, rfl, rfl, hdc, hds, bo222785, x222786, ht222787⟩ := hp222782
        change G _ _ _ _ _ _ _ (.int o222785 :: _) _ _ _
        refine G_widen (cs' := 0) (sl' := 0) (by omega) (by omega) ?_
        refine G_if_eq 79 dr_cX17_back_65 (by decide +kernel) (fun hc222788 => ?_) (fun hc222788 => ?_)
        · have r222789 : o222785.toInt = 0 := gj_eq hc222788 (show Int32.toInt 0 = 0 by decide)
          have bo222785' : gB o222785 0 0 := ⟨by omega, by omega⟩
          exact G_vretA dr_cX17_back_79 rfl (Nat.le_of_ble_eq_true rfl) (Nat.le_of_ble_eq_true rfl) ⟨F222754, rfl, rfl, hT222761, hs222762, (Nat.le_of_ble_eq_true rfl), (Nat.le_of_ble_eq_true rfl), (fun k => by rw [cL_of he222757, cL_of he222584, bkS_of he222587, (decide_eq_false (show ¬ (p222534.toInt = 1) by omega))]; exact bk_n true false false (decide_eq_true (show (p222588.toInt ≤ 21) by omega)) (decide_eq_false (show ¬ (p222588.toInt ≠ 20 ∧ p222588.toInt ≠ 21 ∧ p222588.toInt ≠ 30 ∧ p222593.toInt = 1) by omega)) (decide_eq_false (show ¬ (0 < p222588.toInt ∧ p222588.toInt < 20 ∧ p222594.toInt = 1) by omega)) (by rw [x222752 k, show o222608.toInt = p222589.toInt by omega]; simp)), lv222763, kp222764, (fun R c1 c2 c3 c4 c5 c6 c7 c8 c9 c10 c11 c12 => c7 p222588 p222589 p222592 o222608 f222585 f222750 F222754 p222593 o222774 p222594 o222785 fq222600 fq222601 fq222602 bo222608 ht222610 r222743 fq222744 he222584 ht222753 hfr222760 he222757 hT222761 r222766 fq222767 fq222768 bo222774 ht222776 r222778 fq222779 bo222785 ht222787 r222789)⟩
        · have r222790 : o222785.toInt ≠ 0 := gj_neq hc222788 (show Int32.toInt 0 = 0 by decide)
          have bo222785' : gB o222785 1 1 := ⟨by omega, by omega⟩
          refine G_aload_n 1 dr_cX17_back_68 rfl ?_
          have fq222791 : fR (F222754 q222532) 2 = (γ 9 2) := by rw [he222758]; rfl
          refine Gp_get 2 hm222536 he222758 dr_cX17_back_69 (gk_X17 D I) (Nat.le_of_ble_eq_true rfl) wr_7_76 rfl ?_
          refine G_aload_n 2 dr_cX17_back_72 rfl ?_
          have fq222792 : fI (F222754 q222533) 3 = p222591 := by rw [he222759]; rfl
          refine Gp_get 3 hm222586 he222759 dr_cX17_back_73 (gk_X15 D I) (Nat.le_of_ble_eq_true rfl) wr_9_190 rfl ?_
          refine Gw_callS (As := [.ref (γ 9 2), .int p222591]) (gV_ok D I) (cp_222405_SpillForgeModel_set l hl0 D I P222530 F222754 (γ 9 2) p222591 f222750 hm222583 he222757 ⟨by omega, by omega⟩ x222751) dr_cX17_back_76 ⟨wr_10_189, wr_1_14, wr_10_191, by decide, rfl, (Nat.le_of_ble_eq_true rfl), (Nat.le_of_ble_eq_true rfl)⟩ wr_10_190 (show 0 + 0 ≤ 0 by first | omega | decide) (show 0 + 0 ≤ 0 by first | omega | decide) (Nat.le_of_ble_eq_true rfl) (fun r222796 w222797 dc222793 ds222794 hp222795 => ?_) (fun _ _ _ _ _ z => z.elim)
          obtain ⟨F222802, f222798, rfl, rfl, hfr222804, he222805, hdc, hds, x222799, x222800, ht222801⟩ := hp222795
          have he222806 : F222802 q222532 = .inr (22, [.ref (γ 9 0), .ref (γ 9 1), .ref (γ 9 2), .ref (γ 9 3), .ref (γ 9 4), .ref (γ 9 5), .ref (γ 9 6), .ref (γ 9 7), .ref (γ 9 8), .int p222540, .int p222541, .int p222542, .int p222543, .int p222544, .int p222545, .ref (γ 9 15), .ref (γ 9 16), .ref (γ 9 17), .ref (γ 9 18), .ref (γ 9 19), .ref (γ 9 20), .ref (γ 9 21), .ref (γ 9 22), .int p222546, .int p222547, .int p222548, .int p222549, .int p222550, .ref q222538, .ref (γ 9 29), .int p222551, .ref (γ 9 31), .int p222552, .int p222553, .int p222554, .ref q222539]) := (hfr222804 q222532 hm222536 (nm_c (rn_oa he222758 he222757) nm_n)).trans he222758
          have he222807 : F222802 q222533 = .inr (20, [.int p222588, .int p222589, .int p222590, .int p222591, .int p222592, .int p222593, .int p222594]) := (hfr222804 q222533 hm222586 (nm_c (rn_oa he222759 he222757) nm_n)).trans he222759
          have hfr222808 : rFr [(γ 9 2)] P222530 F222754 F222802 := rFr_call (rSub_rf (P := P222530)) (rFr_rf (W := []) (P := P222530) (F := F222754)) hfr222804 (fun b hb hn => ⟨nm_n, (nm_c (fun e => hn (e ▸ List.mem_cons_self)) nm_n)⟩)
          change G _ _ _ _ _ _ _ _ _ _ _
          refine G_widen (cs' := 0) (sl' := 0) (by omega) (by omega) ?_
          have hT222809 : RS D I P222530 F222802 γ el := RS_fr hT222761 hfr222808 ht222559 (by decide) ⟨f222798, he222805, x222799⟩
          have hs222810 : rStr γ [] F222531 F222802 := rStr_fr hT222761 hs222762 hfr222808 ht222559 (by decide)
          have lv222811 : rLv γ F222531 F222802 := rLv_fr hT222761 ht222557 lv222763 hfr222808 ht222559 (by decide)
          have kp222812 : F222802 q222532 = F222531 q222532 := (hfr222808 q222532 (RS_m hT222761 htq222532 (by decide)) (nm_c (rn_ty htq222532 ht222559 (by decide)) nm_n)).trans kp222764
          exact G_vretA dr_cX17_back_79 rfl (Nat.le_of_ble_eq_true rfl) (Nat.le_of_ble_eq_true rfl) ⟨F222802, rfl, rfl, hT222809, hs222810, (Nat.le_of_ble_eq_true rfl), (Nat.le_of_ble_eq_true rfl), (fun k => by rw [cL_of he222805, cL_of he222584, bkS_of he222587, (decide_eq_false (show ¬ (p222534.toInt = 1) by omega))]; exact bk_n true false true (decide_eq_true (show (p222588.toInt ≤ 21) by omega)) (decide_eq_false (show ¬ (p222588.toInt ≠ 20 ∧ p222588.toInt ≠ 21 ∧ p222588.toInt ≠ 30 ∧ p222593.toInt = 1) by omega)) (decide_eq_true (show (0 < p222588.toInt ∧ p222588.toInt < 20 ∧ p222594.toInt = 1) by omega)) (by rw [x222800 k, x222752 k, show o222608.toInt = p222589.toInt by omega]; simp)), lv222811, kp222812, (fun R c1 c2 c3 c4 c5 c6 c7 c8 c9 c10 c11 c12 => c8 p222588 p222589 p222592 o222608 f222585 f222750 F222754 p222593 o222774 p222594 o222785 p222591 f222798 F222802 fq222600 fq222601 fq222602 bo222608 ht222610 r222743 fq222744 he222584 ht222753 hfr222760 he222757 hT222761 r222766 fq222767 fq222768 bo222774 ht222776 r222778 fq222779 bo222785 ht222787 r222790 fq222791 fq222792 he222757 ht222801 hfr222808 he222805 hT222809)⟩
      · have r222813 : o222774.toInt ≠ 0 := gj_neq hc222777 (show Int32.toInt 0 = 0 by decide)
        have bo222774' : gB o222774 1 1 := ⟨by omega, by omega⟩
        refine G_aload_n 1 dr_cX17_back_50 rfl ?_
        have fq222814 : fR (F222754 q222532) 2 = (γ 9 2) := by rw [he222758]; rfl
        refine Gp_get 2 hm222536 he222758 dr_cX17_back_51 (gk_X17 D I) (Nat.le_of_ble_eq_true rfl) wr_7_76 rfl ?_
        refine G_aload_n 2 dr_cX17_back_54 rfl ?_
        have fq222815 : fI (F222754 q222533) 2 = p222590 := by rw [he222759]; rfl
        refine Gp_get 2 hm222586 he222759 dr_cX17_back_55 (gk_X15 D I) (Nat.le_of_ble_eq_true rfl) wr_9_186 rfl ?_
        refine Gw_callS (As := [.ref (γ 9 2), .int p222590]) (gV_ok D I) (cp_222405_SpillForgeModel_set l hl0 D I P222530 F222754 (γ 9 2) p222590 f222750 hm222583 he222757 ⟨by omega, by omega⟩ x222751) dr_cX17_back_58 ⟨wr_10_189, wr_1_14, wr_10_191, by decide, rfl, (Nat.le_of_ble_eq_true rfl), (Nat.le_of_ble_eq_true rfl)⟩ wr_10_190 (show 0 + 0 ≤ 0 by first | omega | decide) (show 0 + 0 ≤ 0 by first | omega | decide) (Nat.le_of_ble_eq_true rfl) (fun r222819 w222820 dc222816 ds222817 hp222818 => ?_) (fun _ _ _ _ _ z => z.elim)
        obtain ⟨F222825, f222821, rfl, rfl, hfr222827, he222828, hdc, hds, x222822, x222823, ht222824⟩ := hp222818
        have he222829 : F222825 q222532 = .inr (22, [.ref (γ 9 0), .ref (γ 9 1), .ref (γ 9 2), .ref (γ 9 3), .ref (γ 9 4), .ref (γ 9 5), .ref (γ 9 6), .ref (γ 9 7), .ref (γ 9 8), .int p222540, .int p222541, .int p222542, .int p222543, .int p222544, .int p222545, .ref (γ 9 15), .ref (γ 9 16), .ref (γ 9 17), .ref (γ 9 18), .ref (γ 9 19), .ref (γ 9 20), .ref (γ 9 21), .ref (γ 9 22), .int p222546, .int p222547, .int p222548, .int p222549, .int p222550, .ref q222538, .ref (γ 9 29), .int p222551, .ref (γ 9 31), .int p222552, .int p222553, .int p222554, .ref q222539]) := (hfr222827 q222532 hm222536 (nm_c (rn_oa he222758 he222757) nm_n)).trans he222758
        have he222830 : F222825 q222533 = .inr (20, [.int p222588, .int p222589, .int p222590, .int p222591, .int p222592, .int p222593, .int p222594]) := (hfr222827 q222533 hm222586 (nm_c (rn_oa he222759 he222757) nm_n)).trans he222759
        have hfr222831 : rFr [(γ 9 2)] P222530 F222754 F222825 := rFr_call (rSub_rf (P := P222530)) (rFr_rf (W := []) (P := P222530) (F := F222754)) hfr222827 (fun b hb hn => ⟨nm_n, (nm_c (fun e => hn (e ▸ List.mem_cons_self)) nm_n)⟩)
        change G _ _ _ _ _ _ _ _ _ _ _
        refine G_widen (cs' := 0) (sl' := 0) (by omega) (by omega) ?_
        have hT222832 : RS D I P222530 F222825 γ el := RS_fr hT222761 hfr222831 ht222559 (by decide) ⟨f222821, he222828, x222822⟩
        have hs222833 : rStr γ [] F222531 F222825 := rStr_fr hT222761 hs222762 hfr222831 ht222559 (by decide)
        have lv222834 : rLv γ F222531 F222825 := rLv_fr hT222761 ht222557 lv222763 hfr222831 ht222559 (by decide)
        have kp222835 : F222825 q222532 = F222531 q222532 := (hfr222831 q222532 (RS_m hT222761 htq222532 (by decide)) (nm_c (rn_ty htq222532 ht222559 (by decide)) nm_n)).trans kp222764
        refine G_aload_n 2 dr_cX17_back_61 rfl ?_
        have fq222836 : fI (F222825 q222533) 0 = p222588 := by rw [he222830]; rfl
        have fq222837 : fI (F222825 q222533) 6 = p222594 := by rw [he222830]; rfl
        refine Gw_callV (As := []) (gV_ok D I) (cp_222474_Row_usesB l hl0 D I P222530 F222825 q222533 p222588 p222589 p222590 p222591 p222592 p222593 p222594 hm222586 he222830 bp222588 bp222589 bp222592 bp222593 bp222594) dr_cX17_back_62 ⟨wr_10_196, wr_1_39, wr_10_199, by decide, rfl, (Nat.le_of_ble_eq_true rfl), (Nat.le_of_ble_eq_true rfl)⟩ wr_10_197 wr_10_198 hm222586 he222830 rfl (show 0 + 0 ≤ 0 by first | omega | decide) (show 0 + 0 ≤ 0 by first | omega | decide) (Nat.le_of_ble_eq_true rfl) (fun r222841 w222842 dc222838 ds222839 hp222840 => ?_) (fun _ _ _ _ _ z => z.elim)
        obtain ⟨o222843, rfl, rfl, hdc, hds, bo222843, x222844, ht222845⟩ := hp222840
        change G _ _ _ _ _ _ _ (.int o222843 :: _) _ _ _
        refine G_widen (cs' := 0) (sl' := 0) (by omega) (by omega) ?_
        refine G_if_eq 79 dr_cX17_back_65 (by decide +kernel) (fun hc222846 => ?_) (fun hc222846 => ?_)
        · have r222847 : o222843.toInt = 0 := gj_eq hc222846 (show Int32.toInt 0 = 0 by decide)
          have bo222843' : gB o222843 0 0 := ⟨by omega, by omega⟩
          exact G_vretA dr_cX17_back_79 rfl (Nat.le_of_ble_eq_true rfl) (Nat.le_of_ble_eq_true rfl) ⟨F222825, rfl, rfl, hT222832, hs222833, (Nat.le_of_ble_eq_true rfl), (Nat.le_of_ble_eq_true rfl), (fun k => by rw [cL_of he222828, cL_of he222584, bkS_of he222587, (decide_eq_false (show ¬ (p222534.toInt = 1) by omega))]; exact bk_n true true false (decide_eq_true (show (p222588.toInt ≤ 21) by omega)) (decide_eq_true (show (p222588.toInt ≠ 20 ∧ p222588.toInt ≠ 21 ∧ p222588.toInt ≠ 30 ∧ p222593.toInt = 1) by omega)) (decide_eq_false (show ¬ (0 < p222588.toInt ∧ p222588.toInt < 20 ∧ p222594.toInt = 1) by omega)) (by rw [x222823 k, x222752 k, show o222608.toInt = p222589.toInt by omega]; simp)), lv222834, kp222835, (fun R c1 c2 c3 c4 c5 c6 c7 c8 c9 c10 c11 c12 => c9 p222588 p222589 p222592 o222608 f222585 f222750 F222754 p222593 o222774 p222590 f222821 F222825 p222594 o222843 fq222600 fq222601 fq222602 bo222608 ht222610 r222743 fq222744 he222584 ht222753 hfr222760 he222757 hT222761 r222766 fq222767 fq222768 bo222774 ht222776 r222813 fq222814 fq222815 he222757 ht222824 hfr222831 he222828 hT222832 fq222836 fq222837 bo222843 ht222845 r222847)⟩
        · have r222848 : o222843.toInt ≠ 0 := gj_neq hc222846 (show Int32.toInt 0 = 0 by decide)
          have bo222843' : gB o222843 1 1 := ⟨by omega, by omega⟩
          refine G_aload_n 1 dr_cX17_back_68 rfl ?_
          have fq222849 : fR (F222825 q222532) 2 = (γ 9 2) := by rw [he222829]; rfl
          refine Gp_get 2 hm222536 he222829 dr_cX17_back_69 (gk_X17 D I) (Nat.le_of_ble_eq_true rfl) wr_7_76 rfl ?_
          refine G_aload_n 2 dr_cX17_back_72 rfl ?_
          have fq222850 : fI (F222825 q222533) 3 = p222591 := by rw [he222830]; rfl
          refine Gp_get 3 hm222586 he222830 dr_cX17_back_73 (gk_X15 D I) (Nat.le_of_ble_eq_true rfl) wr_9_190 rfl ?_
          refine Gw_callS (As := [.ref (γ 9 2), .int p222591]) (gV_ok D I) (cp_222405_SpillForgeModel_set l hl0 D I P222530 F222825 (γ 9 2) p222591 f222821 hm222583 he222828 ⟨by omega, by omega⟩ x222822) dr_cX17_back_76 ⟨wr_10_189, wr_1_14, wr_10_191, by decide, rfl, (Nat.le_of_ble_eq_true rfl), (Nat.le_of_ble_eq_true rfl)⟩ wr_10_190 (show 0 + 0 ≤ 0 by first | omega | decide) (show 0 + 0 ≤ 0 by first | omega | decide) (Nat.le_of_ble_eq_true rfl) (fun r222854 w222855 dc222851 ds222852 hp222853 => ?_) (fun _ _ _ _ _ z => z.elim)
          obtain ⟨F222860, f222856, rfl, rfl, hfr222862, he222863, hdc, hds, x222857, x222858, ht222859⟩ := hp222853
          have he222864 : F222860 q222532 = .inr (22, [.ref (γ 9 0), .ref (γ 9 1), .ref (γ 9 2), .ref (γ 9 3), .ref (γ 9 4), .ref (γ 9 5), .ref (γ 9 6), .ref (γ 9 7), .ref (γ 9 8), .int p222540, .int p222541, .int p222542, .int p222543, .int p222544, .int p222545, .ref (γ 9 15), .ref (γ 9 16), .ref (γ 9 17), .ref (γ 9 18), .ref (γ 9 19), .ref (γ 9 20), .ref (γ 9 21), .ref (γ 9 22), .int p222546, .int p222547, .int p222548, .int p222549, .int p222550, .ref q222538, .ref (γ 9 29), .int p222551, .ref (γ 9 31), .int p222552, .int p222553, .int p222554, .ref q222539]) := (hfr222862 q222532 hm222536 (nm_c (rn_oa he222829 he222828) nm_n)).trans he222829
          have he222865 : F222860 q222533 = .inr (20, [.int p222588, .int p222589, .int p222590, .int p222591, .int p222592, .int p222593, .int p222594]) := (hfr222862 q222533 hm222586 (nm_c (rn_oa he222830 he222828) nm_n)).trans he222830
          have hfr222866 : rFr [(γ 9 2)] P222530 F222825 F222860 := rFr_call (rSub_rf (P := P222530)) (rFr_rf (W := []) (P := P222530) (F := F222825)) hfr222862 (fun b hb hn => ⟨nm_n, (nm_c (fun e => hn (e ▸ List.mem_cons_self)) nm_n)⟩)
          change G _ _ _ _ _ _ _ _ _ _ _
          refine G_widen (cs' := 0) (sl' := 0) (by omega) (by omega) ?_
          have hT222867 : RS D I P222530 F222860 γ el := RS_fr hT222832 hfr222866 ht222559 (by decide) ⟨f222856, he222863, x222857⟩
          have hs222868 : rStr γ [] F222531 F222860 := rStr_fr hT222832 hs222833 hfr222866 ht222559 (by decide)
          have lv222869 : rLv γ F222531 F222860 := rLv_fr hT222832 ht222557 lv222834 hfr222866 ht222559 (by decide)
          have kp222870 : F222860 q222532 = F222531 q222532 := (hfr222866 q222532 (RS_m hT222832 htq222532 (by decide)) (nm_c (rn_ty htq222532 ht222559 (by decide)) nm_n)).trans kp222835
          exact G_vretA dr_cX17_back_79 rfl (Nat.le_of_ble_eq_true rfl) (Nat.le_of_ble_eq_true rfl) ⟨F222860, rfl, rfl, hT222867, hs222868, (Nat.le_of_ble_eq_true rfl), (Nat.le_of_ble_eq_true rfl), (fun k => by rw [cL_of he222863, cL_of he222584, bkS_of he222587, (decide_eq_false (show ¬ (p222534.toInt = 1) by omega))]; exact bk_n true true true (decide_eq_true (show (p222588.toInt ≤ 21) by omega)) (decide_eq_true (show (p222588.toInt ≠ 20 ∧ p222588.toInt ≠ 21 ∧ p222588.toInt ≠ 30 ∧ p222593.toInt = 1) by omega)) (decide_eq_true (show (0 < p222588.toInt ∧ p222588.toInt < 20 ∧ p222594.toInt = 1) by omega)) (by rw [x222858 k, x222823 k, x222752 k, show o222608.toInt = p222589.toInt by omega]; simp)), lv222869, kp222870, (fun R c1 c2 c3 c4 c5 c6 c7 c8 c9 c10 c11 c12 => c10 p222588 p222589 p222592 o222608 f222585 f222750 F222754 p222593 o222774 p222590 f222821 F222825 p222594 o222843 p222591 f222856 F222860 fq222600 fq222601 fq222602 bo222608 ht222610 r222743 fq222744 he222584 ht222753 hfr222760 he222757 hT222761 r222766 fq222767 fq222768 bo222774 ht222776 r222813 fq222814 fq222815 he222757 ht222824 hfr222831 he222828 hT222832 fq222836 fq222837 bo222843 ht222845 r222848 fq222849 fq222850 he222828 ht222859 hfr222866 he222863 hT222867)⟩
    · have r222871 : p222534.toInt ≠ 0 := gj_neq hc222765 (show Int32.toInt 0 = 0 by decide)
      have bp222534' : gB p222534 1 1 := ⟨by omega, by omega⟩
      refine G_aload_n 2 dr_cX17_back_22 rfl ?_
      have fq222872 : fI (F222754 q222533) 0 = p222588 := by rw [he222759]; rfl
      refine Gp_get 0 hm222586 he222759 dr_cX17_back_23 (gk_X15 D I) (Nat.le_of_ble_eq_true rfl) wr_9_177 rfl ?_
      refine G_bipush 21 dr_cX17_back_26 (by decide +kernel) ?_
      refine G_icmp_ne 42 dr_cX17_back_28 (by decide +kernel) (fun hc222873 => ?_) (fun hc222873 => ?_)
      · have r222874 : p222588.toInt ≠ 21 := gj_neq hc222873 (show Int32.toInt 21 = 21 by decide)
        exact G_vretA dr_cX17_back_42 rfl (Nat.le_of_ble_eq_true rfl) (Nat.le_of_ble_eq_true rfl) ⟨F222754, rfl, rfl, hT222761, hs222762, (Nat.le_of_ble_eq_true rfl), (Nat.le_of_ble_eq_true rfl), (fun k => by rw [cL_of he222757, cL_of he222584, bkS_of he222587, (decide_eq_true (show (p222534.toInt = 1) by omega))]; exact bk_s true false (decide_eq_true (show (p222588.toInt = 23) by omega)) (decide_eq_false (show ¬ (p222588.toInt = 21) by omega)) (by rw [x222752 k, show o222608.toInt = p222592.toInt by omega]; simp)), lv222763, kp222764, (fun R c1 c2 c3 c4 c5 c6 c7 c8 c9 c10 c11 c12 => c11 p222588 p222589 p222592 o222608 f222585 f222750 F222754 fq222600 fq222601 fq222602 bo222608 ht222610 r222743 fq222744 he222584 ht222753 hfr222760 he222757 hT222761 r222871 fq222872 r222874)⟩
      · have r222875 : p222588.toInt = 21 := gj_eq hc222873 (show Int32.toInt 21 = 21 by decide)
        have bp222588' : gB p222588 21 21 := ⟨by omega, by omega⟩
        refine G_aload_n 1 dr_cX17_back_31 rfl ?_
        have fq222876 : fR (F222754 q222532) 2 = (γ 9 2) := by rw [he222758]; rfl
        refine Gp_get 2 hm222536 he222758 dr_cX17_back_32 (gk_X17 D I) (Nat.le_of_ble_eq_true rfl) wr_7_76 rfl ?_
        refine G_aload_n 2 dr_cX17_back_35 rfl ?_
        have fq222877 : fI (F222754 q222533) 4 = p222592 := by rw [he222759]; rfl
        refine Gp_get 4 hm222586 he222759 dr_cX17_back_36 (gk_X15 D I) (Nat.le_of_ble_eq_true rfl) wr_9_193 rfl ?_
        refine Gw_callS (As := [.ref (γ 9 2), .int p222592]) (gV_ok D I) (cp_222405_SpillForgeModel_set l hl0 D I P222530 F222754 (γ 9 2) p222592 f222750 hm222583 he222757 bp222592 x222751) dr_cX17_back_39 ⟨wr_10_189, wr_1_14, wr_10_191, by decide, rfl, (Nat.le_of_ble_eq_true rfl), (Nat.le_of_ble_eq_true rfl)⟩ wr_10_190 (show 0 + 0 ≤ 0 by first | omega | decide) (show 0 + 0 ≤ 0 by first | omega | decide) (Nat.le_of_ble_eq_true rfl) (fun r222881 w222882 dc222878 ds222879 hp222880 => ?_) (fun _ _ _ _ _ z => z.elim)
        obtain ⟨F222887, f222883, rfl, rfl, hfr222889, he222890, hdc, hds, x222884, x222885, ht222886⟩ := hp222880
        have he222891 : F222887 q222532 = .inr (22, [.ref (γ 9 0), .ref (γ 9 1), .ref (γ 9 2), .ref (γ 9 3), .ref (γ 9 4), .ref (γ 9 5), .ref (γ 9 6), .ref (γ 9 7), .ref (γ 9 8), .int p222540, .int p222541, .int p222542, .int p222543, .int p222544, .int p222545, .ref (γ 9 15), .ref (γ 9 16), .ref (γ 9 17), .ref (γ 9 18), .ref (γ 9 19), .ref (γ 9 20), .ref (γ 9 21), .ref (γ 9 22), .int p222546, .int p222547, .int p222548, .int p222549, .int p222550, .ref q222538, .ref (γ 9 29), .int p222551, .ref (γ 9 31), .int p222552, .int p222553, .int p222554, .ref q222539]) := (hfr222889 q222532 hm222536 (nm_c (rn_oa he222758 he222757) nm_n)).trans he222758
        have he222892 : F222887 q222533 = .inr (20, [.int p222588, .int p222589, .int p222590, .int p222591, .int p222592, .int p222593, .int p222594]) := (hfr222889 q222533 hm222586 (nm_c (rn_oa he222759 he222757) nm_n)).trans he222759
        have hfr222893 : rFr [(γ 9 2)] P222530 F222754 F222887 := rFr_call (rSub_rf (P := P222530)) (rFr_rf (W := []) (P := P222530) (F := F222754)) hfr222889 (fun b hb hn => ⟨nm_n, (nm_c (fun e => hn (e ▸ List.mem_cons_self)) nm_n)⟩)
        change G _ _ _ _ _ _ _ _ _ _ _
        refine G_widen (cs' := 0) (sl' := 0) (by omega) (by omega) ?_
        have hT222894 : RS D I P222530 F222887 γ el := RS_fr hT222761 hfr222893 ht222559 (by decide) ⟨f222883, he222890, x222884⟩
        have hs222895 : rStr γ [] F222531 F222887 := rStr_fr hT222761 hs222762 hfr222893 ht222559 (by decide)
        have lv222896 : rLv γ F222531 F222887 := rLv_fr hT222761 ht222557 lv222763 hfr222893 ht222559 (by decide)
        have kp222897 : F222887 q222532 = F222531 q222532 := (hfr222893 q222532 (RS_m hT222761 htq222532 (by decide)) (nm_c (rn_ty htq222532 ht222559 (by decide)) nm_n)).trans kp222764
        exact G_vretA dr_cX17_back_42 rfl (Nat.le_of_ble_eq_true rfl) (Nat.le_of_ble_eq_true rfl) ⟨F222887, rfl, rfl, hT222894, hs222895, (Nat.le_of_ble_eq_true rfl), (Nat.le_of_ble_eq_true rfl), (fun k => by rw [cL_of he222890, cL_of he222584, bkS_of he222587, (decide_eq_true (show (p222534.toInt = 1) by omega))]; exact bk_s true true (decide_eq_true (show (p222588.toInt = 23) by omega)) (decide_eq_true (show (p222588.toInt = 21) by omega)) (by rw [x222885 k, x222752 k, show o222608.toInt = p222592.toInt by omega]; simp)), lv222896, kp222897, (fun R c1 c2 c3 c4 c5 c6 c7 c8 c9 c10 c11 c12 => c12 p222588 p222589 p222592 o222608 f222585 f222750 F222754 f222883 F222887 fq222600 fq222601 fq222602 bo222608 ht222610 r222743 fq222744 he222584 ht222753 hfr222760 he222757 hT222761 r222871 fq222872 r222875 fq222876 fq222877 he222757 ht222886 hfr222893 he222890 hT222894)⟩
/- tr_RBlock_ways2: result -/
def tr_RBlock_ways2 (a0_first : Int32) (a0_second : Int32) (a0_end_op : Int32) (o1 : Int32) : Prop := ∀ R : (Int32) → Prop,
  (a0_end_op.toInt ≠ 32 → a0_end_op.toInt = 30 → R (1 : Int32)) →
  (a0_end_op.toInt ≠ 32 → a0_end_op.toInt ≠ 30 → a0_first.toInt ≠ a0_second.toInt → R (2 : Int32)) →
  (a0_end_op.toInt ≠ 32 → a0_end_op.toInt ≠ 30 → a0_first.toInt = a0_second.toInt → R (1 : Int32)) →
  (a0_end_op.toInt = 32 → R (0 : Int32)) →
  R o1
end
