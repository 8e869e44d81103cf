theorem dr_cX13_begin_0 : decode cX13_begin 0 = .ok (.aload_n 0, 1) := by decide +kernel
theorem dr_cX13_begin_1 : decode cX13_begin 1 = .ok (.iconst 0, 1) := by decide +kernel
theorem dr_cX13_begin_2 : decode cX13_begin 2 = .ok (.putfield 19, 3) := by decide +kernel
theorem dr_cX13_begin_5 : decode cX13_begin 5 = .ok (.aload_n 0, 1) := by decide +kernel
theorem dr_cX13_begin_6 : decode cX13_begin 6 = .ok (.iconst 0, 1) := by decide +kernel
theorem dr_cX13_begin_7 : decode cX13_begin 7 = .ok (.putfield 23, 3) := by decide +kernel
theorem dr_cX13_begin_10 : decode cX13_begin 10 = .ok (.return_, 1) := by decide +kernel
abbrev ky_3928_Code_begin : gKey := (cX13_begin, 1, "SpillForgeModel$Code", none, [], "begin", fun _ _ => True)
def pp_3928_Code_begin (D : va_G) (I : FieldType → ClassId) (P3921 : List Nat) (F3922 : Nat → va_E) (q3923 : Nat) (qo3924 : Nat) (qo3925 : Nat) (p3926 : Int32) (p3927 : Int32) : Option Value → va_W → Nat → Nat → Prop := fun r w dc ds => ∃ (F3940 : Nat → va_E), r = none ∧ w = va_pl P3921 F3940 ∧ rFr [q3923] P3921 F3922 F3940 ∧ F3940 q3923 = .inr (18, [.ref qo3924, .ref qo3925, .int 0, .int 0]) ∧ dc ≤ 0 ∧ ds ≤ 0
set_option maxRecDepth 100000 in
set_option maxHeartbeats 4000000 in
theorem cp_3928_Code_begin (l : Launch) (hl0 : l.stackTraces = false) (D : va_G) (I : FieldType → ClassId) (P3921 : List Nat) (F3922 : Nat → va_E) (q3923 : Nat) (qo3924 : Nat) (qo3925 : Nat) (p3926 : Int32) (p3927 : Int32) (hmq3923 : q3923 ∈ P3921) (heq3923 : F3922 q3923 = .inr (18, [.ref qo3924, .ref qo3925, .int p3926, .int p3927])) (bp3926 : gB p3926 0 1000000) (bp3927 : gB p3927 0 1000000) : CtA (gV D I) l yX13_begin cX13_begin 1 none 0 0 0 0 [.ref q3923] (va_pl P3921 F3922) (pp_3928_Code_begin D I P3921 F3922 q3923 qo3924 qo3925 p3926 p3927) gNA := by
  refine CtA_of hl0 (by decide) (Nat.le_of_ble_eq_true rfl) ?_
  refine G_aload_n 0 dr_cX13_begin_0 rfl ?_
  refine G_iconst 0 dr_cX13_begin_1 (by decide +kernel) ?_
  refine Gp_put 2 hmq3923 heq3923 dr_cX13_begin_2 (gk_X13 D I) (Nat.le_of_ble_eq_true rfl) wr_7_32 rfl rfl rfl (Nat.le_of_ble_eq_true rfl) (fun F3929 e3930 n3931 => ?_)
  have he3932 : F3929 q3923 = .inr (18, [.ref qo3924, .ref qo3925, .int 0, .int p3927]) := e3930
  have hfr3933 : rFr [q3923] P3921 F3922 F3929 := rFr_put (rFr_rf (W := []) (P := P3921) (F := F3922)) n3931
  refine G_aload_n 0 dr_cX13_begin_5 rfl ?_
  refine G_iconst 0 dr_cX13_begin_6 (by decide +kernel) ?_
  refine Gp_put 3 hmq3923 he3932 dr_cX13_begin_7 (gk_X13 D I) (Nat.le_of_ble_eq_true rfl) wr_7_33 rfl rfl rfl (Nat.le_of_ble_eq_true rfl) (fun F3934 e3935 n3936 => ?_)
  have he3937 : F3934 q3923 = .inr (18, [.ref qo3924, .ref qo3925, .int 0, .int 0]) := e3935
  have hfr3938 : rFr [q3923] P3921 F3922 F3934 := rFr_put' List.mem_cons_self hfr3933 n3936
  exact G_vretA dr_cX13_begin_10 rfl (Nat.le_of_ble_eq_true rfl) (Nat.le_of_ble_eq_true rfl) ⟨F3934, rfl, rfl, hfr3938, he3937, (Nat.le_of_ble_eq_true rfl), (Nat.le_of_ble_eq_true rfl)⟩
