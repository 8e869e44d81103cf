/-! calls in a world of two lists: the call takes the one, the other stays -/
theorem fr_iA (A B : va_W) : (List.range A.length).map (fun i => (A ++ B)[i]?) = A.map some := by
  rw [← gw_all A]
  refine List.map_congr_left (fun i hi => ?_)
  exact List.getElem?_append_left (List.mem_range.mp hi)
theorem fr_iB (A B : va_W) : ((List.range B.length).map (fun i => A.length + i)).map (fun i => (A ++ B)[i]?) = B.map some := by
  rw [← gw_all B, List.map_map]
  refine List.map_congr_left (fun i hi => ?_)
  show (A ++ B)[A.length + i]? = B[i]?
  rw [List.getElem?_append_right (Nat.le_add_right _ _), Nat.add_sub_cancel_left]
theorem fr_ndB (n m : Nat) : va_nd ((List.range n).map (fun i => m + i)) = true := by
  refine r_nd _ (List.pairwise_map.mpr (List.Pairwise.imp (fun {a b} h e => h ?_) (List.nodup_range (n := n))))
  have e' : m + a = m + b := e
  omega
theorem fr_d1 (n m : Nat) : ∀ i ∈ (List.range n).map (fun i => m + i), i ∉ List.range m := fun i hi h => by
  obtain ⟨j, _, e⟩ := List.mem_map.mp hi
  have := List.mem_range.mp h
  omega
theorem fr_d2 (n m : Nat) : ∀ i ∈ List.range m, i ∉ (List.range n).map (fun i => m + i) := fun i hi h => fr_d1 n m i h hi
section FRR
variable {v : gEnv} {l : Launch} {R : Room} {Qf : gFin} {k : gKey} {pc cs sl : Nat} {L : List (Nat × Value)} {st : List Value} {X Y : va_W}
/-- the two lists change places -/
theorem Gf_sw (n : G v l R Qf k pc L st (Y ++ X) cs sl) : G v l R Qf k pc L st (X ++ Y) cs sl := by
  refine G_sub ((List.range Y.length).map (fun i => X.length + i) ++ List.range X.length) ?_ ?_ n
  · refine r_nd _ (List.nodup_append.mpr ⟨?_, List.nodup_range, fun a ha b hb e => fr_d1 _ _ a ha (e ▸ hb)⟩)
    refine List.pairwise_map.mpr (List.Pairwise.imp (fun {a b} h e => h ?_) (List.nodup_range (n := Y.length)))
    have e' : X.length + a = X.length + b := e
    omega
  · rw [List.map_append, List.map_append, fr_iB, fr_iA]
theorem GT_sw {E : String} {q : Nat} (n : GT v l R Qf k pc L st E q (Y ++ X) cs sl) : GT v l R Qf k pc L st E q (X ++ Y) cs sl := fun p e s m args below meth c A H locs ls cell C hP hD hS h g1 g3 g4 => by
  have hi : ((List.range Y.length).map (fun i => X.length + i) ++ List.range X.length).map (fun i => (X ++ Y)[i]?) = (Y ++ X).map some := by rw [List.map_append, List.map_append, fr_iB, fr_iA]
  have hn : va_nd ((List.range Y.length).map (fun i => X.length + i) ++ List.range X.length) = true := by
    refine r_nd _ (List.nodup_append.mpr ⟨?_, List.nodup_range, fun a ha b hb e => fr_d1 _ _ a ha (e ▸ hb)⟩)
    refine List.pairwise_map.mpr (List.Pairwise.imp (fun {a b} h e => h ?_) (List.nodup_range (n := Y.length)))
    have e' : X.length + a = X.length + b := e
    omega
  exact n p e s m args below meth c A H locs ls cell C (hP.sub _ (g_fm hi)) (hD.sub _ hn hi) hS h g1 g3 g4
variable {y : MethodName} {cc' : ByteArray} {nL' fr' lo' mc' ms' i b : Nat} {ret' : Option FieldType} {hh : List (Nat × Nat × Nat × Nat)} {As : List Value}
/-- a method of an object of the first list -/
theorem Gf_1V {ci N : Nat} {fs : List Value} {T : u_T} {Post' : Option Value → va_W → Prop} {XP' : String → Nat → va_W → Prop} (hv : gOk v) (cp : Ct v l y cc' nL' ret' fr' lo' mc' ms' (.ref b :: As) X Post' XP') (d : decode k.1 pc = .ok (.invokevirtual i, 3)) (hw : gCw v R k.2.2.1 i y cc' nL' ret' fr' lo' As.length) (w2 : Cond.instanceMethod y ∈ v.2.2.2.2) (w3 : Cond.selects y.cls y y ∈ v.2.2.2.2)
    (q : Nat) (hq : X[q]? = some (b, .inr (ci, fs))) (hcl : v.2.1[ci]? = some (y.cls, T, N)) (hcs : cs + mc' ≤ R.cells) (hsl : sl + ms' ≤ R.slots) (hcat : (st.map fun u => u.category).sum ≤ 8)
    (kk : ∀ r w, Post' r w → G v l R Qf k (pc + 3) L (r.toList ++ st) (w ++ Y) (cs + mc') (sl + ms')) (kx : ∀ E q w, XP' E q w → GT v l R Qf k pc L st E q (w ++ Y) (cs + mc') (sl + ms')) :
    G v l R Qf k pc L (As.reverse ++ .ref b :: st) (X ++ Y) cs sl := by
  have hq' : (X ++ Y)[q]? = some (b, .inr (ci, fs)) := by rw [List.getElem?_append_left (List.getElem?_eq_some_iff.mp hq).1]; exact hq
  exact G_callV hv cp d hw w2 w3 q hq' hcl (List.range X.length) ((List.range Y.length).map (fun i => X.length + i)) (fr_iA X Y) (fr_iB X Y) (r_nd _ List.nodup_range) (fr_ndB _ _) (fr_d1 _ _) hcs hsl hcat (fun r w hp => Gf_sw (kk r w hp)) (fun E q w hp => GT_sw (kx E q w hp))
/-- a static method with a table over the first list -/
theorem Gf_1S {Post' : Option Value → va_W → Prop} {XP' : String → Nat → va_W → Prop} (hv : gOk v) (cp : CtW v l y cc' nL' ret' hh fr' lo' mc' ms' As X Post' XP') (d : decode k.1 pc = .ok (.invokestatic i, 3)) (hw : gCwT v R k.2.2.1 i y cc' nL' ret' hh fr' lo' As.length) (w2 : Cond.static y ∈ v.2.2.2.2)
    (hcs : cs + mc' ≤ R.cells) (hsl : sl + ms' ≤ R.slots) (hcat : (st.map fun u => u.category).sum ≤ 8)
    (kk : ∀ r w, Post' r w → G v l R Qf k (pc + 3) L (r.toList ++ st) (w ++ Y) (cs + mc') (sl + ms')) (kx : ∀ E q w, XP' E q w → GT v l R Qf k pc L st E q (w ++ Y) (cs + mc') (sl + ms')) :
    G v l R Qf k pc L (As.reverse ++ st) (X ++ Y) cs sl :=
  G_callSW hv cp d hw w2 (List.range X.length) ((List.range Y.length).map (fun i => X.length + i)) (fr_iA X Y) (fr_iB X Y) (r_nd _ List.nodup_range) (fr_ndB _ _) (fr_d1 _ _) hcs hsl hcat (fun r w hp => Gf_sw (kk r w hp)) (fun E q w hp => GT_sw (kx E q w hp))
/-- a method of an object of the second list, a pool -/
theorem Gf_2V {P : List Nat} {F : Nat → va_E} {ci N : Nat} {fs : List Value} {T : u_T} {Post' : Option Value → va_W → Nat → Nat → Prop} {XP' : String → Nat → va_W → Nat → Nat → Prop} (hv : gOk v) (cp : CtA v l y cc' nL' ret' fr' lo' mc' ms' (.ref b :: As) (va_pl P F) Post' XP') (d : decode k.1 pc = .ok (.invokevirtual i, 3)) (hw : gCw v R k.2.2.1 i y cc' nL' ret' fr' lo' As.length) (w2 : Cond.instanceMethod y ∈ v.2.2.2.2) (w3 : Cond.selects y.cls y y ∈ v.2.2.2.2)
    (hb : b ∈ P) (he : F b = .inr (ci, fs)) (hcl : v.2.1[ci]? = some (y.cls, T, N)) (hcs : cs + mc' ≤ R.cells) (hsl : sl + ms' ≤ R.slots) (hcat : (st.map fun u => u.category).sum ≤ 8)
    (kk : ∀ r w dc ds, Post' r w dc ds → G v l R Qf k (pc + 3) L (r.toList ++ st) (X ++ w) (cs + dc) (sl + ds)) (kx : ∀ E q w dc ds, XP' E q w dc ds → GT v l R Qf k pc L st E q (X ++ w) (cs + dc) (sl + ds)) :
    G v l R Qf k pc L (As.reverse ++ .ref b :: st) (X ++ va_pl P F) cs sl := by
  obtain ⟨q, hq⟩ := va_pl_get (X := []) (f := F) hb
  rw [List.nil_append] at hq
  have hq' : (X ++ va_pl P F)[X.length + q]? = some (b, .inr (ci, fs)) := by rw [List.getElem?_append_right (Nat.le_add_right _ _), Nat.add_sub_cancel_left, ← he]; exact hq
  exact G_callVA hv cp d hw w2 w3 (X.length + q) hq' hcl ((List.range (va_pl P F).length).map (fun i => X.length + i)) (List.range X.length) (fr_iB X _) (fr_iA X _) (fr_ndB _ _) (r_nd _ List.nodup_range) (fr_d2 _ _) hcs hsl hcat kk kx
theorem Gf_2VW {P : List Nat} {F : Nat → va_E} {ci N : Nat} {fs : List Value} {T : u_T} {Post' : Option Value → va_W → Nat → Nat → Prop} {XP' : String → Nat → va_W → Nat → Nat → Prop} (hv : gOk v) (cp : CtWA v l y cc' nL' ret' hh fr' lo' mc' ms' (.ref b :: As) (va_pl P F) Post' XP') (d : decode k.1 pc = .ok (.invokevirtual i, 3)) (hw : gCwT v R k.2.2.1 i y cc' nL' ret' hh fr' lo' As.length) (w2 : Cond.instanceMethod y ∈ v.2.2.2.2) (w3 : Cond.selects y.cls y y ∈ v.2.2.2.2)
    (hb : b ∈ P) (he : F b = .inr (ci, fs)) (hcl : v.2.1[ci]? = some (y.cls, T, N)) (hcs : cs + mc' ≤ R.cells) (hsl : sl + ms' ≤ R.slots) (hcat : (st.map fun u => u.category).sum ≤ 8)
    (kk : ∀ r w dc ds, Post' r w dc ds → G v l R Qf k (pc + 3) L (r.toList ++ st) (X ++ w) (cs + dc) (sl + ds)) (kx : ∀ E q w dc ds, XP' E q w dc ds → GT v l R Qf k pc L st E q (X ++ w) (cs + dc) (sl + ds)) :
    G v l R Qf k pc L (As.reverse ++ .ref b :: st) (X ++ va_pl P F) cs sl := by
  obtain ⟨q, hq⟩ := va_pl_get (X := []) (f := F) hb
  rw [List.nil_append] at hq
  have hq' : (X ++ va_pl P F)[X.length + q]? = some (b, .inr (ci, fs)) := by rw [List.getElem?_append_right (Nat.le_add_right _ _), Nat.add_sub_cancel_left, ← he]; exact hq
  exact G_callVWA hv cp d hw w2 w3 (X.length + q) hq' hcl ((List.range (va_pl P F).length).map (fun i => X.length + i)) (List.range X.length) (fr_iB X _) (fr_iA X _) (fr_ndB _ _) (r_nd _ List.nodup_range) (fr_d2 _ _) hcs hsl hcat kk kx
end FRR
theorem fr_last {A : va_W} {x : Nat × va_E} : (A ++ [x])[A.length]? = some x := by rw [List.getElem?_append_right (Nat.le_refl _), Nat.sub_self]; rfl
theorem fr_set {A : va_W} {x z : Nat × va_E} : (A ++ [x]).set A.length z = A ++ [z] := by rw [List.set_append_right _ _ (Nat.le_refl _), Nat.sub_self]; rfl
