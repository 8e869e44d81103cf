theorem dr_cL_law_8 : decode cL_law 8 = .ok (.new 54, 3) := by decide +kernel
theorem wr_6_229 : (Jvm.Cond.classLink "SpillForgeLaw" (54 : Nat) "SpillForgeModel") ∈ gw := gw_6 229 rfl rfl
theorem wr_6_230 : (Jvm.Cond.instantiable "SpillForgeModel" (36 : Nat)) ∈ gw := gw_6 230 rfl rfl
theorem dr_cL_law_11 : decode cL_law 11 = .ok (.dup, 1) := by decide +kernel
theorem dr_cL_law_12 : decode cL_law 12 = .ok (.invokespecial 56, 3) := by decide +kernel
theorem wr_6_231 : (Jvm.Cond.methodLink "SpillForgeLaw" (56 : Nat) ({ cls := "SpillForgeModel", name := "<init>", desc := "()V" } : Jvm.MethodName)) ∈ gw := gw_6 231 rfl rfl
theorem wr_6_233 : (Jvm.Cond.code ({ cls := "SpillForgeModel", name := "<init>", desc := "()V" } : Jvm.MethodName) prog_14_method_35_code (1 : Nat) (Option.none : Option Jvm.ClassFile.FieldType)) ∈ gw := gw_6 233 rfl rfl
theorem wr_6_232 : (Jvm.Cond.instanceMethod ({ cls := "SpillForgeModel", name := "<init>", desc := "()V" } : Jvm.MethodName)) ∈ gw := gw_6 232 rfl rfl
theorem dr_cL_law_15 : decode cL_law 15 = .ok (.astore_n 2, 1) := by decide +kernel
theorem dr_cL_law_16 : decode cL_law 16 = .ok (.iconst 1, 1) := by decide +kernel
theorem dr_cL_law_17 : decode cL_law 17 = .ok (.newarray .long, 2) := by decide +kernel
theorem dr_cL_law_19 : decode cL_law 19 = .ok (.astore_n 3, 1) := by decide +kernel
theorem dr_cL_law_20 : decode cL_law 20 = .ok (.iconst 0, 1) := by decide +kernel
theorem dr_cL_law_21 : decode cL_law 21 = .ok (.istore 4, 2) := by decide +kernel
/-! the law's beginning: the model made, the first state -/
section LWS
variable {v : gEnv} {l : Launch} {R : Room} {Qf : gFin} {k : gKey} {pc cs sl : Nat} {L : List (Nat × Value)} {st : List Value} {X Y Z : va_W}
theorem Gf_mid (n : G v l R Qf k pc L st ((X ++ Z) ++ Y) cs sl) : G v l R Qf k pc L st ((X ++ Y) ++ Z) cs sl := by
  have h1 : ∀ n m : Nat, ((List.range n).map (fun i => m + i)).Nodup := fun n m => List.pairwise_map.mpr (List.Pairwise.imp (fun {a b} h e => h (by have e' : m + a = m + b := e; omega)) (List.nodup_range (n := n)))
  refine G_sub ((List.range X.length ++ (List.range Z.length).map (fun i => (X ++ Y).length + i)) ++ (List.range Y.length).map (fun i => X.length + i)) ?_ ?_ n
  · refine r_nd _ (List.nodup_append.mpr ⟨List.nodup_append.mpr ⟨List.nodup_range, h1 _ _, fun a ha b hb e => ?_⟩, h1 _ _, fun a ha b hb e => ?_⟩)
    · obtain ⟨i, hi, e2⟩ := List.mem_map.mp hb
      have := List.mem_range.mp ha
      have hl : (X ++ Y).length = X.length + Y.length := List.length_append
      omega
    · obtain ⟨i, hi, e2⟩ := List.mem_map.mp hb
      have h3 := List.mem_range.mp hi
      have hl : (X ++ Y).length = X.length + Y.length := List.length_append
      rcases List.mem_append.mp ha with ha | ha
      · have := List.mem_range.mp ha
        omega
      · obtain ⟨i2, hi2, e3⟩ := List.mem_map.mp ha
        omega
  · rw [List.map_append, List.map_append, List.map_append, List.map_append, fr_iB (X ++ Y) Z]
    have e1 : (List.range X.length).map (fun i => ((X ++ Y) ++ Z)[i]?) = X.map some := by rw [List.append_assoc]; exact fr_iA X (Y ++ Z)
    have e2 : ((List.range Y.length).map (fun i => X.length + i)).map (fun i => ((X ++ Y) ++ Z)[i]?) = Y.map some := by
      rw [← fr_iB X Y]
      refine List.map_congr_left (fun i hi => ?_)
      obtain ⟨i2, hi2, e3⟩ := List.mem_map.mp hi
      have h3 := List.mem_range.mp hi2
      have hl : (X ++ Y).length = X.length + Y.length := List.length_append
      exact List.getElem?_append_left (by omega)
    rw [e1, e2]
variable {y : MethodName} {cc' : ByteArray} {nL' fr' lo' mc' ms' i b : Nat} {As : List Value}
/-- a constructor on an object of the second list, a pool -/
theorem Gf_2I {P : List Nat} {F : Nat → va_E} {Post' : Option Value → va_W → Nat → Nat → Prop} (hv : gOk v) (cp : CtA v l y cc' nL' none fr' lo' mc' ms' (.ref b :: As) (va_pl P F) Post' gNA) (d : decode k.1 pc = .ok (.invokespecial i, 3)) (hw : gCw v R k.2.2.1 i y cc' nL' none fr' lo' As.length) (w2 : Cond.instanceMethod y ∈ v.2.2.2.2) (hin : y.name = "<init>")
    (hcs : cs + mc' ≤ R.cells) (hsl : sl + ms' ≤ R.slots) (hcat : (st.map fun u => u.category).sum ≤ 8)
    (kk : ∀ r w dc ds, Post' r w dc ds → G v l R Qf k (pc + 3) L (r.toList ++ st) (X ++ w) (cs + dc) (sl + ds)) :
    G v l R Qf k pc L (As.reverse ++ .ref b :: st) (X ++ va_pl P F) cs sl :=
  G_callIA hv cp d hw w2 hin ((List.range (va_pl P F).length).map (fun i => X.length + i)) (List.range X.length) (fr_iB X _) (fr_iA X _) (fr_ndB _ _) (r_nd _ List.nodup_range) (fr_d2 _ _) hcs hsl hcat kk
end LWS
def st_mc : List Value := [.null, .null, .null, .null, .null, .null, .null, .null, .null, .int 0, .int 0, .int 0, .int 0, .int 0, .int 0, .null, .null, .null, .null, .null, .null, .null, .null, .int 0, .int 0, .int 0, .int 0, .int 0, .null, .null, .int 0, .null, .int 0, .int 0, .int 0, .null]
/-- the first state -/
theorem st_md {D : va_G} {I : FieldType → ClassId} {P : List Nat} {F : Nat → va_E} {g lb lr : Nat → Nat} {m ra cs sl : Nat} (hT : RS D I P F (gI0 g m ra lb lr) (fun _ _ => 0)) (hm : gI0 g m ra lb lr 0 m = 10) (em : F m = mdE (gI0 g m ra lb lr) (g 28) (g 35) 0 0 0 0 0 0 (-1) 0 0 0 0 0 0 0 0) (eW : F (g 29) = .inr (1, [.ref ra, .int 0, .int 0, .int 0])) (hcs : cs ≤ 2138) (hsl : sl ≤ 149363) :
    ∃ γ2 : Nat → Nat → Nat, mdS D I m 0 P F γ2 (fun _ _ => 0) ∧ lwR γ2 (fun _ _ => 0) F m 0 0 cs sl := by
  have z0 : Int32.toInt 0 = 0 := by decide
  have q : ∀ (j b B : Nat), (j = 2 ∨ j = 16 ∨ j = 17) → gI0 g m ra lb lr j b ≤ B := fun j b B hj => by
    rcases hj with rfl | rfl | rfl <;> exact Nat.zero_le _
  have hb : ∀ f B, rBd (gI0 g m ra lb lr) (fun _ _ => 0) f B := fun f B => ⟨q _ _ _ (by decide), q _ _ _ (by decide), q _ _ _ (by decide), q _ _ _ (by decide), q _ _ _ (by decide), fun i hi => absurd (Nat.lt_of_lt_of_le hi (q 2 _ 0 (by decide))) (Nat.not_lt_zero _)⟩
  obtain ⟨c27, c28, c29⟩ := md_k hT hm
  have e35 : fR (F m) 35 = g 35 := by rw [em]; rfl
  have ea : fR (F (g 29)) 0 = ra := by rw [eW]; rfl
  have c29' : gI0 g m ra lb lr 0 ra = 29 := by
    have z : gI0 g m ra lb lr 0 (fR (F (g 29)) 0) = 29 := c29
    rw [ea] at z
    exact z
  rw [e35] at c27
  have hne : g 35 ≠ ra := fun e => by rw [e, c29'] at c27; cases c27
  obtain ⟨γ2, h1, h2, h3, h4⟩ := mdS_k (n := 0) hT hm (by rw [em]; exact z0) (Or.inl (by rw [em]; exact z0)) (Or.inl (by rw [em]; exact z0)) rfl (hb 1 _) (hb 2 _)
  have w16 : wDN γ2 F = 16 := by
    rw [h3]
    show gI0 g m ra lb lr 12 (fR (F (g 29)) 0) = 16
    rw [ea]
    exact if_pos rfl
  have l64 : lRN γ2 F m = 64 := by
    rw [h4]
    unfold lRN
    rw [e35]
    exact (if_neg hne).trans (if_pos rfl)
  have hM : rM γ2 (fun _ _ => 0) 0 ≤ 300 := by
    rw [(rPh_j2 (el := fun _ _ => 0) (f := 0) h2).2]
    exact Nat.le_refl 300
  refine ⟨γ2, h1, ?_⟩
  unfold lwR
  rw [w16, l64]
  omega
set_option maxRecDepth 100000 in
set_option maxHeartbeats 1000000 in
theorem lw_mod (l : Launch) (hl0 : l.stackTraces = false) (D : va_G) (I : FieldType → ClassId) (b M : Nat) (xs : Nat → Int32) (hM : M ≤ 3072) {x : Nat} {A : va_W} {c : gCv} (hx : clS D I x A 0 c) (hc : c0G c) : G (gV D I) l room_1 lwF (lwK b M xs) 8 [(1, .ref x), (0, .ref b)] [] A 68 55116 := by
  refine G_new st_mc dr_cL_law_8 (gk_X17 D I) wr_6_229 wr_6_230 wr_1_14 (gfs_X17) (Nat.le_of_ble_eq_true rfl) (Nat.le_of_ble_eq_true rfl) (fun m => ?_)
  refine G_dup dr_cL_law_11 rfl ?_
  refine Gf_2I (X := A) (P := [m]) (F := fun _ => .inr (22, st_mc)) (As := []) (gV_ok D I) (cp_mini l hl0 D I (List.mem_singleton.mpr rfl) rfl) dr_cL_law_12 ⟨wr_6_231, wr_1_14, wr_6_233, by decide, rfl, (Nat.le_of_ble_eq_true rfl), (Nat.le_of_ble_eq_true rfl)⟩ wr_6_232 rfl (Nat.le_of_ble_eq_true rfl) (Nat.le_of_ble_eq_true rfl) (Nat.le_of_ble_eq_true rfl) (fun r w dc ds hp => ?_)
  obtain ⟨P1, F1, g, lb, lr, ra, rfl, rfl, hT, hm, em, eW, eI, -, hdc, hds⟩ := hp
  change G _ _ _ _ _ _ _ (.ref m :: []) _ _ _
  refine G_astore_n (L' := [(2, .ref m), (1, .ref x), (0, .ref b)]) dr_cL_law_15 (Nat.le_of_ble_eq_true rfl) rfl ?_
  refine G_iconst 1 dr_cL_law_16 (by decide +kernel) ?_
  refine G_newa 2 (1, .inr (.inl (fun _ => 0))) dr_cL_law_17 rfl rfl (by intro C h; cases h) wr_2_3 (fun _ => ga_long _ _) (by decide) (by decide) (by decide) (show 68 + 1 + dc + 1 ≤ 601024 by omega) (show 55116 + 36 + ds + 1 ≤ 7293034 by omega) (fun o => Gf_mid ?_)
  refine G_astore_n (L' := [(3, .ref o), (2, .ref m), (1, .ref x), (0, .ref b)]) dr_cL_law_19 (Nat.le_of_ble_eq_true rfl) rfl ?_
  refine G_iconst 0 dr_cL_law_20 (by decide +kernel) ?_
  refine G_istore (L' := lwV b x m o 0) dr_cL_law_21 (Nat.le_of_ble_eq_true rfl) rfl ?_
  obtain ⟨γ2, g1, g2⟩ := st_md (cs := 68 + 1 + dc + 1) (sl := 55116 + 36 + ds + 1) hT hm em eW (by omega) (by omega)
  exact lw_loop hl0 hM M 0 0 A (fun _ => 0) P1 F1 γ2 (fun _ _ => 0) 0 c _ _ (by omega) (by decide) (by decide) hx g1 (LK9_0 g1 (by rw [em]; exact (by decide : Int32.toInt 0 = 0)) (by rw [em]; exact (by decide : Int32.toInt 0 = 0)) (by rw [em]; exact eI) (by rw [em]; rfl) (by rw [em]; rfl) hc) g2
theorem lw_go (l : Launch) (hl0 : l.stackTraces = false) (D : va_G) (I : FieldType → ClassId) (b M : Nat) (xs : Nat → Int32) (hM : M ≤ 3072) : G (gV D I) l room_1 lwF (lwK b M xs) 0 [(0, .ref b)] [] [] 0 0 :=
  lw_cls l hl0 D I b M xs (fun _ _ _ hx hc => lw_mod l hl0 D I b M xs hM hx hc)
