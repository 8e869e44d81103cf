/- tr_RModel_set2: a.0.[] -/
def tr_RModel_set2 (a1 : Int32) (a0_v : Nat → Int64) (o1 : Nat → Int64) : Prop := ∀ R : (Nat → Int64) → Prop,
  (∀ (x1 : Int32) (x2 : Int64) (x3 : Int64) (x4 : Int64) (x5 : Nat → Int64), x1.toInt = a1.toInt / 64 → x2 = a0_v x1.toNatClampNeg → x3 = (1 : Int64) <<< (a1.toInt64 &&& 63) → x4 = x2 ||| x3 → x5 = vp_updL a0_v x1.toNatClampNeg x4 → R x5) →
  R o1
abbrev ky_221840_SpillForgeModel_set : gKey := (cX17_set, 2, "SpillForgeModel", none, [], "set", fun _ _ => True)
def pp_221840_SpillForgeModel_set (D : va_G) (I : FieldType → ClassId) (P221834 : List Nat) (F221835 : Nat → va_E) (q221836 : Nat) (p221837 : Int32) (f221838 : Nat → Int64) : Option Value → va_W → Nat → Nat → Prop := fun r w dc ds => ∃ (F221853 : Nat → va_E) (f221851 : Nat → Int64), r = none ∧ w = va_pl P221834 F221853 ∧ rFr [q221836] P221834 F221835 F221853 ∧ F221853 q221836 = .inl (I .long, 32, .inr (.inl f221851)) ∧ dc ≤ 0 ∧ ds ≤ 0 ∧ lb_W f221851 (32) (32) (2000) ∧ (∀ k : Nat, rbt f221851 k = (rbt f221838 k || decide ((k : Int) = p221837.toInt))) ∧ tr_RModel_set2 p221837 f221838 f221851
set_option maxRecDepth 100000 in
set_option maxHeartbeats 4000000 in
theorem cp_221840_SpillForgeModel_set (l : Launch) (hl0 : l.stackTraces = false) (D : va_G) (I : FieldType → ClassId) (P221834 : List Nat) (F221835 : Nat → va_E) (q221836 : Nat) (p221837 : Int32) (f221838 : Nat → Int64) (hmq221836 : q221836 ∈ P221834) (heq221836 : F221835 q221836 = .inl (I .long, 32, .inr (.inl f221838))) (bp221837 : gB p221837 0 1999) (x221839 : lb_W f221838 (32) (32) (2000)) : CtA (gV D I) l yX17_set cX17_set 2 none 0 0 0 0 [.ref q221836, .int p221837] (va_pl P221834 F221835) (pp_221840_SpillForgeModel_set D I P221834 F221835 q221836 p221837 f221838) gNA := by
  refine CtA_of hl0 (by decide) (Nat.le_of_ble_eq_true rfl) ?_
  refine G_aload_n 0 dr_cX17_set_0 rfl ?_
  refine G_iload_n 1 dr_cX17_set_1 rfl ?_
  refine G_bipush 6 dr_cX17_set_2 (by decide +kernel) ?_
  refine G_ishr dr_cX17_set_4 (G_nam fun z221841 hz221841 => ?_)
  have ez221841 : z221841.toInt = p221837.toInt / 64 := gI_shr (k := 6) hz221841 (by decide)
  have bz221841 : gB z221841 0 31 := ⟨by omega, by omega⟩
  refine G_dup2_11 dr_cX17_set_5 rfl rfl ?_
  refine Gp_lald 2 hmq221836 heq221836 dr_cX17_set_6 rfl (gB_in bz221841 (by decide) (by decide)) (G_namL fun u221842 hu221842 => ?_)
  have qu221842 : lb_Q u221842 (2000 - 64 * z221841.toInt) := lb_Wld hu221842 x221839 (by omega) (by omega) (lb_Mod0 (by omega) (by omega))
  refine G_lconst 1 dr_cX17_set_7 rfl ?_
  refine G_iload_n 1 dr_cX17_set_8 rfl ?_
  refine G_lshl dr_cX17_set_9 (G_namL fun u221843 hu221843 => ?_)
  have qu221843 : lb_Q u221843 (p221837.toInt % 64 + 1) := lb_Qshl hu221843 (by omega)
  refine G_lor dr_cX17_set_10 (G_namL fun u221844 hu221844 => ?_)
  have qu221844 : lb_Q u221844 (2000 - 64 * z221841.toInt) := lb_Qor hu221844 qu221842 (lb_Qw qu221843 (by omega))
  refine Gp_last 2 hmq221836 heq221836 dr_cX17_set_11 rfl (gB_in bz221841 (by decide) (by decide)) (fun F221845 e221846 n221847 => ?_)
  obtain ⟨f221848, hf221848⟩ : ∃ z, z = vp_updL f221838 z221841.toNatClampNeg u221844 := ⟨_, rfl⟩
  rw [← hf221848] at e221846
  have he221849 : F221845 q221836 = .inl (I .long, 32, .inr (.inl f221848)) := e221846
  have hfr221850 : rFr [q221836] P221834 F221835 F221845 := rFr_put (rFr_rf (W := []) (P := P221834) (F := F221835)) n221847
  have wf221848 : lb_W f221848 (32) (32) (2000) := lb_Wst hf221848 x221839 (by omega) (lb_Mod0 (by omega) (by omega)) qu221844
  exact G_vretA dr_cX17_set_12 rfl (Nat.le_of_ble_eq_true rfl) (Nat.le_of_ble_eq_true rfl) ⟨F221845, f221848, rfl, rfl, hfr221850, he221849, (Nat.le_of_ble_eq_true rfl), (Nat.le_of_ble_eq_true rfl), wf221848, (rbt_set (by assumption) (by assumption) (by assumption) (by assumption) hf221848 (by omega)), (fun R c1 => c1 z221841 u221842 u221843 u221844 f221848 ez221841 hu221842 hu221843 hu221844 hf221848)⟩
/- tr_RModel_clear2: a.0.[] -/
def tr_RModel_clear2 (a1 : Int32) (a0_v : Nat → Int64) (o1 : Nat → Int64) : Prop := ∀ R : (Nat → Int64) → Prop,
  (∀ (x1 : Int32) (x2 : Int64) (x3 : Int64) (x4 : Int64) (x5 : Int64) (x6 : Nat → Int64), x1.toInt = a1.toInt / 64 → x2 = a0_v x1.toNatClampNeg → x3 = (1 : Int64) <<< (a1.toInt64 &&& 63) → x4 = x3 ^^^ (-1 : Int64) → x5 = x2 &&& x4 → x6 = vp_updL a0_v x1.toNatClampNeg x5 → R x6) →
  R o1
abbrev ky_221860_SpillForgeModel_clear : gKey := (cX17_clear, 2, "SpillForgeModel", none, [], "clear", fun _ _ => True)
def pp_221860_SpillForgeModel_clear (D : va_G) (I : FieldType → ClassId) (P221854 : List Nat) (F221855 : Nat → va_E) (q221856 : Nat) (p221857 : Int32) (f221858 : Nat → Int64) : Option Value → va_W → Nat → Nat → Prop := fun r w dc ds => ∃ (F221874 : Nat → va_E) (f221872 : Nat → Int64), r = none ∧ w = va_pl P221854 F221874 ∧ rFr [q221856] P221854 F221855 F221874 ∧ F221874 q221856 = .inl (I .long, 32, .inr (.inl f221872)) ∧ dc ≤ 0 ∧ ds ≤ 0 ∧ lb_W f221872 (32) (32) (2000) ∧ (∀ k : Nat, rbt f221872 k = (rbt f221858 k && ! decide ((k : Int) = p221857.toInt))) ∧ tr_RModel_clear2 p221857 f221858 f221872
set_option maxRecDepth 100000 in
set_option maxHeartbeats 4000000 in
theorem cp_221860_SpillForgeModel_clear (l : Launch) (hl0 : l.stackTraces = false) (D : va_G) (I : FieldType → ClassId) (P221854 : List Nat) (F221855 : Nat → va_E) (q221856 : Nat) (p221857 : Int32) (f221858 : Nat → Int64) (hmq221856 : q221856 ∈ P221854) (heq221856 : F221855 q221856 = .inl (I .long, 32, .inr (.inl f221858))) (bp221857 : gB p221857 0 1999) (x221859 : lb_W f221858 (32) (32) (2000)) : CtA (gV D I) l yX17_clear cX17_clear 2 none 0 0 0 0 [.ref q221856, .int p221857] (va_pl P221854 F221855) (pp_221860_SpillForgeModel_clear D I P221854 F221855 q221856 p221857 f221858) gNA := by
  refine CtA_of hl0 (by decide) (Nat.le_of_ble_eq_true rfl) ?_
  refine G_aload_n 0 dr_cX17_clear_0 rfl ?_
  refine G_iload_n 1 dr_cX17_clear_1 rfl ?_
  refine G_bipush 6 dr_cX17_clear_2 (by decide +kernel) ?_
  refine G_ishr dr_cX17_clear_4 (G_nam fun z221861 hz221861 => ?_)
  have ez221861 : z221861.toInt = p221857.toInt / 64 := gI_shr (k := 6) hz221861 (by decide)
  have bz221861 : gB z221861 0 31 := ⟨by omega, by omega⟩
  refine G_dup2_11 dr_cX17_clear_5 rfl rfl ?_
  refine Gp_lald 2 hmq221856 heq221856 dr_cX17_clear_6 rfl (gB_in bz221861 (by decide) (by decide)) (G_namL fun u221862 hu221862 => ?_)
  have qu221862 : lb_Q u221862 (2000 - 64 * z221861.toInt) := lb_Wld hu221862 x221859 (by omega) (by omega) (lb_Mod0 (by omega) (by omega))
  refine G_lconst 1 dr_cX17_clear_7 rfl ?_
  refine G_iload_n 1 dr_cX17_clear_8 rfl ?_
  refine G_lshl dr_cX17_clear_9 (G_namL fun u221863 hu221863 => ?_)
  have qu221863 : lb_Q u221863 (p221857.toInt % 64 + 1) := lb_Qshl hu221863 (by omega)
  refine G_ldc2 (-1) dr_cX17_clear_10 wr_10_188 ?_
  refine G_lxor dr_cX17_clear_13 (G_namL fun u221864 hu221864 => ?_)
  refine G_land dr_cX17_clear_14 (G_namL fun u221865 hu221865 => ?_)
  have qu221865 : lb_Q u221865 (2000 - 64 * z221861.toInt) := lb_QandL hu221865 qu221862
  refine Gp_last 2 hmq221856 heq221856 dr_cX17_clear_15 rfl (gB_in bz221861 (by decide) (by decide)) (fun F221866 e221867 n221868 => ?_)
  obtain ⟨f221869, hf221869⟩ : ∃ z, z = vp_updL f221858 z221861.toNatClampNeg u221865 := ⟨_, rfl⟩
  rw [← hf221869] at e221867
  have he221870 : F221866 q221856 = .inl (I .long, 32, .inr (.inl f221869)) := e221867
  have hfr221871 : rFr [q221856] P221854 F221855 F221866 := rFr_put (rFr_rf (W := []) (P := P221854) (F := F221855)) n221868
  have wf221869 : lb_W f221869 (32) (32) (2000) := lb_Wst hf221869 x221859 (by omega) (lb_Mod0 (by omega) (by omega)) qu221865
  exact G_vretA dr_cX17_clear_16 rfl (Nat.le_of_ble_eq_true rfl) (Nat.le_of_ble_eq_true rfl) ⟨F221866, f221869, rfl, rfl, hfr221871, he221870, (Nat.le_of_ble_eq_true rfl), (Nat.le_of_ble_eq_true rfl), wf221869, (rbt_clr (by assumption) (by assumption) (by assumption) (by assumption) (by assumption) hf221869 (by omega)), (fun R c1 => c1 z221861 u221862 u221863 u221864 u221865 f221869 ez221861 hu221862 hu221863 hu221864 hu221865 hf221869)⟩
/- tr_RRow_usesA2: result -/
def tr_RRow_usesA2 (a0_op : Int32) (a0_regA : Int32) (o1 : Int32) : Prop := ∀ R : (Int32) → Prop,
  (a0_op.toInt = 20 → R (0 : Int32)) →
  (a0_op.toInt ≠ 20 → a0_op.toInt = 21 → R (0 : Int32)) →
  (a0_op.toInt ≠ 20 → a0_op.toInt ≠ 21 → a0_op.toInt = 30 → R (0 : Int32)) →
  (a0_op.toInt ≠ 20 → a0_op.toInt ≠ 21 → a0_op.toInt ≠ 30 → a0_regA.toInt = 0 → R (0 : Int32)) →
  (a0_op.toInt ≠ 20 → a0_op.toInt ≠ 21 → a0_op.toInt ≠ 30 → a0_regA.toInt ≠ 0 → R (1 : Int32)) →
  R o1
abbrev ky_221885_Row_usesA : gKey := (cX15_usesA, 1, "SpillForgeModel$Row", (some FieldType.boolean), [], "usesA", fun _ _ => True)
def pp_221885_Row_usesA (D : va_G) (I : FieldType → ClassId) (P221875 : List Nat) (F221876 : Nat → va_E) (q221877 : Nat) (p221878 : Int32) (p221879 : Int32) (p221880 : Int32) (p221881 : Int32) (p221882 : Int32) (p221883 : Int32) (p221884 : Int32) : Option Value → va_W → Nat → Nat → Prop := fun r w dc ds => ∃ (o221898 : Int32), r = some (.int o221898) ∧ w = va_pl P221875 F221876 ∧ dc ≤ 0 ∧ ds ≤ 0 ∧ gB o221898 0 1 ∧ ((o221898.toInt = 1 ∧ p221878.toInt ≠ 20 ∧ p221878.toInt ≠ 21 ∧ p221878.toInt ≠ 30 ∧ p221883.toInt = 1) ∨ (o221898.toInt = 0 ∧ (p221878.toInt = 20 ∨ p221878.toInt = 21 ∨ p221878.toInt = 30 ∨ p221883.toInt = 0))) ∧ tr_RRow_usesA2 p221878 p221883 o221898
set_option maxRecDepth 100000 in
set_option maxHeartbeats 4000000 in
theorem cp_221885_Row_usesA (l : Launch) (hl0 : l.stackTraces = false) (D : va_G) (I : FieldType → ClassId) (P221875 : List Nat) (F221876 : Nat → va_E) (q221877 : Nat) (p221878 : Int32) (p221879 : Int32) (p221880 : Int32) (p221881 : Int32) (p221882 : Int32) (p221883 : Int32) (p221884 : Int32) (hmq221877 : q221877 ∈ P221875) (heq221877 : F221876 q221877 = .inr (20, [.int p221878, .int p221879, .int p221880, .int p221881, .int p221882, .int p221883, .int p221884])) (bp221878 : gB p221878 0 32) (bp221879 : gB p221879 0 1999) (bp221882 : gB p221882 0 1999) (bp221883 : gB p221883 0 1) (bp221884 : gB p221884 0 1) : CtA (gV D I) l yX15_usesA cX15_usesA 1 (some FieldType.boolean) 0 0 0 0 [.ref q221877] (va_pl P221875 F221876) (pp_221885_Row_usesA D I P221875 F221876 q221877 p221878 p221879 p221880 p221881 p221882 p221883 p221884) gNA := by
  refine CtA_of hl0 (by decide) (Nat.le_of_ble_eq_true rfl) ?_
  have bp221880 := gB_any p221880
  have bp221881 := gB_any p221881
  refine G_aload_n 0 dr_cX15_usesA_0 rfl ?_
  refine Gp_get 0 hmq221877 heq221877 dr_cX15_usesA_1 (gk_X15 D I) (Nat.le_of_ble_eq_true rfl) wr_9_175 rfl ?_
  refine G_bipush 20 dr_cX15_usesA_4 (by decide +kernel) ?_
  refine G_icmp_eq 38 dr_cX15_usesA_6 (by decide +kernel) (fun hc221886 => ?_) (fun hc221886 => ?_)
  · have r221887 : p221878.toInt = 20 := gj_eq hc221886 (show Int32.toInt 20 = 20 by decide)
    have bp221878' : gB p221878 20 20 := ⟨by omega, by omega⟩
    refine G_iconst 0 dr_cX15_usesA_38 (by decide +kernel) ?_
    exact G_zretA FieldType.boolean dr_cX15_usesA_39 rfl rfl (Nat.le_of_ble_eq_true rfl) (Nat.le_of_ble_eq_true rfl) ⟨0, rfl, rfl, (Nat.le_of_ble_eq_true rfl), (Nat.le_of_ble_eq_true rfl), (gB_w (gBl (show Int32.toInt 0 = 0 by decide)) (by decide) (by decide)), (by have qa0 : Int32.toInt 0 = 0 := (by decide); omega), (fun R c1 c2 c3 c4 c5 => c1 r221887)⟩
  · have r221888 : p221878.toInt ≠ 20 := gj_neq hc221886 (show Int32.toInt 20 = 20 by decide)
    refine G_aload_n 0 dr_cX15_usesA_9 rfl ?_
    refine Gp_get 0 hmq221877 heq221877 dr_cX15_usesA_10 (gk_X15 D I) (Nat.le_of_ble_eq_true rfl) wr_9_175 rfl ?_
    refine G_bipush 21 dr_cX15_usesA_13 (by decide +kernel) ?_
    refine G_icmp_eq 38 dr_cX15_usesA_15 (by decide +kernel) (fun hc221889 => ?_) (fun hc221889 => ?_)
    · have r221890 : p221878.toInt = 21 := gj_eq hc221889 (show Int32.toInt 21 = 21 by decide)
      have bp221878' : gB p221878 21 21 := ⟨by omega, by omega⟩
      refine G_iconst 0 dr_cX15_usesA_38 (by decide +kernel) ?_
      exact G_zretA FieldType.boolean dr_cX15_usesA_39 rfl rfl (Nat.le_of_ble_eq_true rfl) (Nat.le_of_ble_eq_true rfl) ⟨0, rfl, rfl, (Nat.le_of_ble_eq_true rfl), (Nat.le_of_ble_eq_true rfl), (gB_w (gBl (show Int32.toInt 0 = 0 by decide)) (by decide) (by decide)), (by have qa0 : Int32.toInt 0 = 0 := (by decide); omega), (fun R c1 c2 c3 c4 c5 => c2 r221888 r221890)⟩
    · have r221891 : p221878.toInt ≠ 21 := gj_neq hc221889 (show Int32.toInt 21 = 21 by decide)
      refine G_aload_n 0 dr_cX15_usesA_18 rfl ?_
      refine Gp_get 0 hmq221877 heq221877 dr_cX15_usesA_19 (gk_X15 D I) (Nat.le_of_ble_eq_true rfl) wr_9_175 rfl ?_
      refine G_bipush 30 dr_cX15_usesA_22 (by decide +kernel) ?_
      refine G_icmp_eq 38 dr_cX15_usesA_24 (by decide +kernel) (fun hc221892 => ?_) (fun hc221892 => ?_)
      · have r221893 : p221878.toInt = 30 := gj_eq hc221892 (show Int32.toInt 30 = 30 by decide)
        have bp221878' : gB p221878 30 30 := ⟨by omega, by omega⟩
        refine G_iconst 0 dr_cX15_usesA_38 (by decide +kernel) ?_
        exact G_zretA FieldType.boolean dr_cX15_usesA_39 rfl rfl (Nat.le_of_ble_eq_true rfl) (Nat.le_of_ble_eq_true rfl) ⟨0, rfl, rfl, (Nat.le_of_ble_eq_true rfl), (Nat.le_of_ble_eq_true rfl), (gB_w (gBl (show Int32.toInt 0 = 0 by decide)) (by decide) (by decide)), (by have qa0 : Int32.toInt 0 = 0 := (by decide); omega), (fun R c1 c2 c3 c4 c5 => c3 r221888 r221891 r221893)⟩
      · have r221894 : p221878.toInt ≠ 30 := gj_neq hc221892 (show Int32.toInt 30 = 30 by decide)
        refine G_aload_n 0 dr_cX15_usesA_27 rfl ?_
        refine Gp_get 5 hmq221877 heq221877 dr_cX15_usesA_28 (gk_X15 D I) (Nat.le_of_ble_eq_true rfl) wr_9_195 rfl ?_
        refine G_if_eq 38 dr_cX15_usesA_31 (by decide +kernel) (fun hc221895 => ?_) (fun hc221895 => ?_)
        · have r221896 : p221883.toInt = 0 := gj_eq hc221895 (show Int32.toInt 0 = 0 by decide)
          have bp221883' : gB p221883 0 0 := ⟨by omega, by omega⟩
          refine G_iconst 0 dr_cX15_usesA_38 (by decide +kernel) ?_
          exact G_zretA FieldType.boolean dr_cX15_usesA_39 rfl rfl (Nat.le_of_ble_eq_true rfl) (Nat.le_of_ble_eq_true rfl) ⟨0, rfl, rfl, (Nat.le_of_ble_eq_true rfl), (Nat.le_of_ble_eq_true rfl), (gB_w (gBl (show Int32.toInt 0 = 0 by decide)) (by decide) (by decide)), (by have qa0 : Int32.toInt 0 = 0 := (by decide); omega), (fun R c1 c2 c3 c4 c5 => c4 r221888 r221891 r221894 r221896)⟩
        · have r221897 : p221883.toInt ≠ 0 := gj_neq hc221895 (show Int32.toInt 0 = 0 by decide)
          have bp221883' : gB p221883 1 1 := ⟨by omega, by omega⟩
          refine G_iconst 1 dr_cX15_usesA_34 (by decide +kernel) ?_
          refine G_goto 39 dr_cX15_usesA_35 (by decide +kernel) ?_
          exact G_zretA FieldType.boolean dr_cX15_usesA_39 rfl rfl (Nat.le_of_ble_eq_true rfl) (Nat.le_of_ble_eq_true rfl) ⟨1, rfl, rfl, (Nat.le_of_ble_eq_true rfl), (Nat.le_of_ble_eq_true rfl), (gB_w (gBl (show Int32.toInt 1 = 1 by decide)) (by decide) (by decide)), (by have qa0 : Int32.toInt 1 = 1 := (by decide); omega), (fun R c1 c2 c3 c4 c5 => c5 r221888 r221891 r221894 r221897)⟩
/- tr_RRow_usesB2: result -/
def tr_RRow_usesB2 (a0_op : Int32) (a0_regB : Int32) (o1 : Int32) : Prop := ∀ R : (Int32) → Prop,
  (a0_op.toInt ≤ 0 → R (0 : Int32)) →
  (0 < a0_op.toInt → 20 ≤ a0_op.toInt → R (0 : Int32)) →
  (0 < a0_op.toInt → a0_op.toInt < 20 → a0_regB.toInt = 0 → R (0 : Int32)) →
  (0 < a0_op.toInt → a0_op.toInt < 20 → a0_regB.toInt ≠ 0 → R (1 : Int32)) →
  R o1
abbrev ky_221909_Row_usesB : gKey := (cX15_usesB, 1, "SpillForgeModel$Row", (some FieldType.boolean), [], "usesB", fun _ _ => True)
def pp_221909_Row_usesB (D : va_G) (I : FieldType → ClassId) (P221899 : List Nat) (F221900 : Nat → va_E) (q221901 : Nat) (p221902 : Int32) (p221903 : Int32) (p221904 : Int32) (p221905 : Int32) (p221906 : Int32) (p221907 : Int32) (p221908 : Int32) : Option Value → va_W → Nat → Nat → Prop := fun r w dc ds => ∃ (o221919 : Int32), r = some (.int o221919) ∧ w = va_pl P221899 F221900 ∧ dc ≤ 0 ∧ ds ≤ 0 ∧ gB o221919 0 1 ∧ ((o221919.toInt = 1 ∧ 0 < p221902.toInt ∧ p221902.toInt < 20 ∧ p221908.toInt = 1) ∨ (o221919.toInt = 0 ∧ (p221902.toInt ≤ 0 ∨ 20 ≤ p221902.toInt ∨ p221908.toInt = 0))) ∧ tr_RRow_usesB2 p221902 p221908 o221919
set_option maxRecDepth 100000 in
set_option maxHeartbeats 4000000 in
theorem cp_221909_Row_usesB (l : Launch) (hl0 : l.stackTraces = false) (D : va_G) (I : FieldType → ClassId) (P221899 : List Nat) (F221900 : Nat → va_E) (q221901 : Nat) (p221902 : Int32) (p221903 : Int32) (p221904 : Int32) (p221905 : Int32) (p221906 : Int32) (p221907 : Int32) (p221908 : Int32) (hmq221901 : q221901 ∈ P221899) (heq221901 : F221900 q221901 = .inr (20, [.int p221902, .int p221903, .int p221904, .int p221905, .int p221906, .int p221907, .int p221908])) (bp221902 : gB p221902 0 32) (bp221903 : gB p221903 0 1999) (bp221906 : gB p221906 0 1999) (bp221907 : gB p221907 0 1) (bp221908 : gB p221908 0 1) : CtA (gV D I) l yX15_usesB cX15_usesB 1 (some FieldType.boolean) 0 0 0 0 [.ref q221901] (va_pl P221899 F221900) (pp_221909_Row_usesB D I P221899 F221900 q221901 p221902 p221903 p221904 p221905 p221906 p221907 p221908) gNA := by
  refine CtA_of hl0 (by decide) (Nat.le_of_ble_eq_true rfl) ?_
  have bp221904 := gB_any p221904
  have bp221905 := gB_any p221905
  refine G_aload_n 0 dr_cX15_usesB_0 rfl ?_
  refine Gp_get 0 hmq221901 heq221901 dr_cX15_usesB_1 (gk_X15 D I) (Nat.le_of_ble_eq_true rfl) wr_9_175 rfl ?_
  refine G_if_le 27 dr_cX15_usesB_4 (by decide +kernel) (fun hc221910 => ?_) (fun hc221910 => ?_)
  · have r221911 : p221902.toInt ≤ 0 := gj_le hc221910 (show Int32.toInt 0 = 0 by decide)
    have bp221902' : gB p221902 0 0 := ⟨by omega, by omega⟩
    refine G_iconst 0 dr_cX15_usesB_27 (by decide +kernel) ?_
    exact G_zretA FieldType.boolean dr_cX15_usesB_28 rfl rfl (Nat.le_of_ble_eq_true rfl) (Nat.le_of_ble_eq_true rfl) ⟨0, rfl, rfl, (Nat.le_of_ble_eq_true rfl), (Nat.le_of_ble_eq_true rfl), (gB_w (gBl (show Int32.toInt 0 = 0 by decide)) (by decide) (by decide)), (by have qa0 : Int32.toInt 0 = 0 := (by decide); omega), (fun R c1 c2 c3 c4 => c1 r221911)⟩
  · have r221912 : 0 < p221902.toInt := gj_nle hc221910 (show Int32.toInt 0 = 0 by decide)
    have bp221902' : gB p221902 1 32 := ⟨by omega, by omega⟩
    refine G_aload_n 0 dr_cX15_usesB_7 rfl ?_
    refine Gp_get 0 hmq221901 heq221901 dr_cX15_usesB_8 (gk_X15 D I) (Nat.le_of_ble_eq_true rfl) wr_9_175 rfl ?_
    refine G_bipush 20 dr_cX15_usesB_11 (by decide +kernel) ?_
    refine G_icmp_ge 27 dr_cX15_usesB_13 (by decide +kernel) (fun hc221913 => ?_) (fun hc221913 => ?_)
    · have r221914 : 20 ≤ p221902.toInt := gj_leL hc221913 (show Int32.toInt 20 = 20 by decide)
      have bp221902'' : gB p221902 20 32 := ⟨by omega, by omega⟩
      refine G_iconst 0 dr_cX15_usesB_27 (by decide +kernel) ?_
      exact G_zretA FieldType.boolean dr_cX15_usesB_28 rfl rfl (Nat.le_of_ble_eq_true rfl) (Nat.le_of_ble_eq_true rfl) ⟨0, rfl, rfl, (Nat.le_of_ble_eq_true rfl), (Nat.le_of_ble_eq_true rfl), (gB_w (gBl (show Int32.toInt 0 = 0 by decide)) (by decide) (by decide)), (by have qa0 : Int32.toInt 0 = 0 := (by decide); omega), (fun R c1 c2 c3 c4 => c2 r221912 r221914)⟩
    · have r221915 : p221902.toInt < 20 := gj_nleL hc221913 (show Int32.toInt 20 = 20 by decide)
      have bp221902'' : gB p221902 1 19 := ⟨by omega, by omega⟩
      refine G_aload_n 0 dr_cX15_usesB_16 rfl ?_
      refine Gp_get 6 hmq221901 heq221901 dr_cX15_usesB_17 (gk_X15 D I) (Nat.le_of_ble_eq_true rfl) wr_9_199 rfl ?_
      refine G_if_eq 27 dr_cX15_usesB_20 (by decide +kernel) (fun hc221916 => ?_) (fun hc221916 => ?_)
      · have r221917 : p221908.toInt = 0 := gj_eq hc221916 (show Int32.toInt 0 = 0 by decide)
        have bp221908' : gB p221908 0 0 := ⟨by omega, by omega⟩
        refine G_iconst 0 dr_cX15_usesB_27 (by decide +kernel) ?_
        exact G_zretA FieldType.boolean dr_cX15_usesB_28 rfl rfl (Nat.le_of_ble_eq_true rfl) (Nat.le_of_ble_eq_true rfl) ⟨0, rfl, rfl, (Nat.le_of_ble_eq_true rfl), (Nat.le_of_ble_eq_true rfl), (gB_w (gBl (show Int32.toInt 0 = 0 by decide)) (by decide) (by decide)), (by have qa0 : Int32.toInt 0 = 0 := (by decide); omega), (fun R c1 c2 c3 c4 => c3 r221912 r221915 r221917)⟩
      · have r221918 : p221908.toInt ≠ 0 := gj_neq hc221916 (show Int32.toInt 0 = 0 by decide)
        have bp221908' : gB p221908 1 1 := ⟨by omega, by omega⟩
        refine G_iconst 1 dr_cX15_usesB_23 (by decide +kernel) ?_
        refine G_goto 28 dr_cX15_usesB_24 (by decide +kernel) ?_
        exact G_zretA FieldType.boolean dr_cX15_usesB_28 rfl rfl (Nat.le_of_ble_eq_true rfl) (Nat.le_of_ble_eq_true rfl) ⟨1, rfl, rfl, (Nat.le_of_ble_eq_true rfl), (Nat.le_of_ble_eq_true rfl), (gB_w (gBl (show Int32.toInt 1 = 1 by decide)) (by decide) (by decide)), (by have qa0 : Int32.toInt 1 = 1 := (by decide); omega), (fun R c1 c2 c3 c4 => c4 r221912 r221915 r221918)⟩
/- tr_RRow_sets2: result -/
def tr_RRow_sets2 (a0_op : Int32) (o1 : Int32) : Prop := ∀ R : (Int32) → Prop,
  (21 < a0_op.toInt → R (0 : Int32)) →
  (a0_op.toInt ≤ 21 → R (1 : Int32)) →
  R o1
abbrev ky_221930_Row_sets : gKey := (cX15_sets, 1, "SpillForgeModel$Row", (some FieldType.boolean), [], "sets", fun _ _ => True)
def pp_221930_Row_sets (D : va_G) (I : FieldType → ClassId) (P221920 : List Nat) (F221921 : Nat → va_E) (q221922 : Nat) (p221923 : Int32) (p221924 : Int32) (p221925 : Int32) (p221926 : Int32) (p221927 : Int32) (p221928 : Int32) (p221929 : Int32) : Option Value → va_W → Nat → Nat → Prop := fun r w dc ds => ∃ (o221934 : Int32), r = some (.int o221934) ∧ w = va_pl P221920 F221921 ∧ dc ≤ 0 ∧ ds ≤ 0 ∧ gB o221934 0 1 ∧ ((o221934.toInt = 1 ∧ p221923.toInt ≤ 21) ∨ (o221934.toInt = 0 ∧ 21 < p221923.toInt)) ∧ tr_RRow_sets2 p221923 o221934
set_option maxRecDepth 100000 in
set_option maxHeartbeats 4000000 in
theorem cp_221930_Row_sets (l : Launch) (hl0 : l.stackTraces = false) (D : va_G) (I : FieldType → ClassId) (P221920 : List Nat) (F221921 : Nat → va_E) (q221922 : Nat) (p221923 : Int32) (p221924 : Int32) (p221925 : Int32) (p221926 : Int32) (p221927 : Int32) (p221928 : Int32) (p221929 : Int32) (hmq221922 : q221922 ∈ P221920) (heq221922 : F221921 q221922 = .inr (20, [.int p221923, .int p221924, .int p221925, .int p221926, .int p221927, .int p221928, .int p221929])) (bp221923 : gB p221923 0 32) (bp221924 : gB p221924 0 1999) (bp221927 : gB p221927 0 1999) (bp221928 : gB p221928 0 1) (bp221929 : gB p221929 0 1) : CtA (gV D I) l yX15_sets cX15_sets 1 (some FieldType.boolean) 0 0 0 0 [.ref q221922] (va_pl P221920 F221921) (pp_221930_Row_sets D I P221920 F221921 q221922 p221923 p221924 p221925 p221926 p221927 p221928 p221929) gNA := by
  refine CtA_of hl0 (by decide) (Nat.le_of_ble_eq_true rfl) ?_
  have bp221925 := gB_any p221925
  have bp221926 := gB_any p221926
  refine G_aload_n 0 dr_cX15_sets_0 rfl ?_
  refine Gp_get 0 hmq221922 heq221922 dr_cX15_sets_1 (gk_X15 D I) (Nat.le_of_ble_eq_true rfl) wr_9_175 rfl ?_
  refine G_bipush 21 dr_cX15_sets_4 (by decide +kernel) ?_
  refine G_icmp_gt 13 dr_cX15_sets_6 (by decide +kernel) (fun hc221931 => ?_) (fun hc221931 => ?_)
  · have r221932 : 21 < p221923.toInt := gj_ltL hc221931 (show Int32.toInt 21 = 21 by decide)
    have bp221923' : gB p221923 22 32 := ⟨by omega, by omega⟩
    refine G_iconst 0 dr_cX15_sets_13 (by decide +kernel) ?_
    exact G_zretA FieldType.boolean dr_cX15_sets_14 rfl rfl (Nat.le_of_ble_eq_true rfl) (Nat.le_of_ble_eq_true rfl) ⟨0, rfl, rfl, (Nat.le_of_ble_eq_true rfl), (Nat.le_of_ble_eq_true rfl), (gB_w (gBl (show Int32.toInt 0 = 0 by decide)) (by decide) (by decide)), (by have qa0 : Int32.toInt 0 = 0 := (by decide); omega), (fun R c1 c2 => c1 r221932)⟩
  · have r221933 : p221923.toInt ≤ 21 := gj_nltL hc221931 (show Int32.toInt 21 = 21 by decide)
    have bp221923' : gB p221923 0 21 := ⟨by omega, by omega⟩
    refine G_iconst 1 dr_cX15_sets_9 (by decide +kernel) ?_
    refine G_goto 14 dr_cX15_sets_10 (by decide +kernel) ?_
    exact G_zretA FieldType.boolean dr_cX15_sets_14 rfl rfl (Nat.le_of_ble_eq_true rfl) (Nat.le_of_ble_eq_true rfl) ⟨1, rfl, rfl, (Nat.le_of_ble_eq_true rfl), (Nat.le_of_ble_eq_true rfl), (gB_w (gBl (show Int32.toInt 1 = 1 by decide)) (by decide) (by decide)), (by have qa0 : Int32.toInt 1 = 1 := (by decide); omega), (fun R c1 c2 => c2 r221933)⟩
/- tr_RModel_setOf2: result -/
def tr_RModel_setOf2 (a1 : Int32) (a0_op : Int32) (a0_t : Int32) (a0_slot : Int32) (o1 : Int32) : Prop := ∀ R : (Int32) → Prop,
  (∀ (x1 : Int32), a1.toInt = 0 → gB x1 0 1 → tr_RRow_sets2 a0_op x1 → x1.toInt = 0 → R (-1 : Int32)) →
  (∀ (x1 : Int32), a1.toInt = 0 → gB x1 0 1 → tr_RRow_sets2 a0_op x1 → x1.toInt ≠ 0 → R a0_t) →
  (a1.toInt ≠ 0 → a0_op.toInt ≠ 23 → R (-1 : Int32)) →
  (a1.toInt ≠ 0 → a0_op.toInt = 23 → R a0_slot) →
  R o1
abbrev ky_221946_SpillForgeModel_setOf : gKey := (cX17_setOf, 2, "SpillForgeModel", (some FieldType.int), [], "setOf", fun _ _ => True)
def pp_221946_SpillForgeModel_setOf (D : va_G) (I : FieldType → ClassId) (P221935 : List Nat) (F221936 : Nat → va_E) (q221937 : Nat) (p221938 : Int32) (p221939 : Int32) (p221940 : Int32) (p221941 : Int32) (p221942 : Int32) (p221943 : Int32) (p221944 : Int32) (p221945 : Int32) : Option Value → va_W → Nat → Nat → Prop := fun r w dc ds => ∃ (o221964 : Int32), r = some (.int o221964) ∧ w = va_pl P221935 F221936 ∧ dc ≤ 0 ∧ ds ≤ 0 ∧ gB o221964 (-1) 1999 ∧ ((p221938.toInt = 0 ∧ p221939.toInt ≤ 21 ∧ o221964.toInt = p221940.toInt) ∨ (p221938.toInt = 0 ∧ 21 < p221939.toInt ∧ o221964.toInt = -1) ∨ (p221938.toInt = 1 ∧ p221939.toInt = 23 ∧ o221964.toInt = p221943.toInt) ∨ (p221938.toInt = 1 ∧ p221939.toInt ≠ 23 ∧ o221964.toInt = -1)) ∧ tr_RModel_setOf2 p221938 p221939 p221940 p221943 o221964
set_option maxRecDepth 100000 in
set_option maxHeartbeats 4000000 in
theorem cp_221946_SpillForgeModel_setOf (l : Launch) (hl0 : l.stackTraces = false) (D : va_G) (I : FieldType → ClassId) (P221935 : List Nat) (F221936 : Nat → va_E) (q221937 : Nat) (p221938 : Int32) (p221939 : Int32) (p221940 : Int32) (p221941 : Int32) (p221942 : Int32) (p221943 : Int32) (p221944 : Int32) (p221945 : Int32) (hmq221937 : q221937 ∈ P221935) (heq221937 : F221936 q221937 = .inr (20, [.int p221939, .int p221940, .int p221941, .int p221942, .int p221943, .int p221944, .int p221945])) (bp221938 : gB p221938 0 1) (bp221939 : gB p221939 0 32) (bp221940 : gB p221940 0 1999) (bp221943 : gB p221943 0 1999) (bp221944 : gB p221944 0 1) (bp221945 : gB p221945 0 1) : CtA (gV D I) l yX17_setOf cX17_setOf 2 (some FieldType.int) 1 20 0 0 [.ref q221937, .int p221938] (va_pl P221935 F221936) (pp_221946_SpillForgeModel_setOf D I P221935 F221936 q221937 p221938 p221939 p221940 p221941 p221942 p221943 p221944 p221945) gNA := by
  refine CtA_of hl0 (by decide) (Nat.le_of_ble_eq_true rfl) ?_
  have bp221941 := gB_any p221941
  have bp221942 := gB_any p221942
  refine G_iload_n 1 dr_cX17_setOf_0 rfl ?_
  refine G_if_eq 24 dr_cX17_setOf_1 (by decide +kernel) (fun hc221947 => ?_) (fun hc221947 => ?_)
  · have r221948 : p221938.toInt = 0 := gj_eq hc221947 (show Int32.toInt 0 = 0 by decide)
    have bp221938' : gB p221938 0 0 := ⟨by omega, by omega⟩
    refine G_aload_n 0 dr_cX17_setOf_24 rfl ?_
    refine Gw_callV (As := []) (gV_ok D I) (cp_221930_Row_sets l hl0 D I P221935 F221936 q221937 p221939 p221940 p221941 p221942 p221943 p221944 p221945 hmq221937 heq221937 bp221939 bp221940 bp221943 bp221944 bp221945) dr_cX17_setOf_25 ⟨wr_10_181, wr_1_39, wr_10_184, by decide, rfl, (Nat.le_of_ble_eq_true rfl), (Nat.le_of_ble_eq_true rfl)⟩ wr_10_182 wr_10_183 hmq221937 heq221937 rfl (show 0 + 0 ≤ 0 by first | omega | decide) (show 0 + 0 ≤ 0 by first | omega | decide) (Nat.le_of_ble_eq_true rfl) (fun r221952 w221953 dc221949 ds221950 hp221951 => ?_) (fun _ _ _ _ _ z => z.elim)
    obtain ⟨o221954, rfl, rfl, hdc, hds, bo221954, x221955, ht221956⟩ := hp221951
    change G _ _ _ _ _ _ _ (.int o221954 :: _) _ _ _
    refine G_widen (cs' := 0) (sl' := 0) (by omega) (by omega) ?_
    refine G_if_eq 38 dr_cX17_setOf_28 (by decide +kernel) (fun hc221957 => ?_) (fun hc221957 => ?_)
    · have r221958 : o221954.toInt = 0 := gj_eq hc221957 (show Int32.toInt 0 = 0 by decide)
      have bo221954' : gB o221954 0 0 := ⟨by omega, by omega⟩
      refine G_iconst (-1) dr_cX17_setOf_38 (by decide +kernel) ?_
      exact G_iretA dr_cX17_setOf_39 rfl (Nat.le_of_ble_eq_true rfl) (Nat.le_of_ble_eq_true rfl) ⟨(-1), rfl, rfl, (Nat.le_of_ble_eq_true rfl), (Nat.le_of_ble_eq_true rfl), (gB_w (gBl (show Int32.toInt (-1) = (-1) by decide)) (by decide) (by decide)), (by have qa0 : Int32.toInt (-1) = (-1) := (by decide); omega), (fun R c1 c2 c3 c4 => c1 o221954 r221948 bo221954 ht221956 r221958)⟩
    · have r221959 : o221954.toInt ≠ 0 := gj_neq hc221957 (show Int32.toInt 0 = 0 by decide)
      have bo221954' : gB o221954 1 1 := ⟨by omega, by omega⟩
      refine G_aload_n 0 dr_cX17_setOf_31 rfl ?_
      refine Gp_get 1 hmq221937 heq221937 dr_cX17_setOf_32 (gk_X15 D I) (Nat.le_of_ble_eq_true rfl) wr_9_182 rfl ?_
      refine G_goto 39 dr_cX17_setOf_35 (by decide +kernel) ?_
      exact G_iretA dr_cX17_setOf_39 rfl (Nat.le_of_ble_eq_true rfl) (Nat.le_of_ble_eq_true rfl) ⟨p221940, rfl, rfl, (Nat.le_of_ble_eq_true rfl), (Nat.le_of_ble_eq_true rfl), (gB_w bp221940 (by decide) (by decide)), (by omega), (fun R c1 c2 c3 c4 => c2 o221954 r221948 bo221954 ht221956 r221959)⟩
  · have r221960 : p221938.toInt ≠ 0 := gj_neq hc221947 (show Int32.toInt 0 = 0 by decide)
    have bp221938' : gB p221938 1 1 := ⟨by omega, by omega⟩
    refine G_aload_n 0 dr_cX17_setOf_4 rfl ?_
    refine Gp_get 0 hmq221937 heq221937 dr_cX17_setOf_5 (gk_X15 D I) (Nat.le_of_ble_eq_true rfl) wr_9_177 rfl ?_
    refine G_bipush 23 dr_cX17_setOf_8 (by decide +kernel) ?_
    refine G_icmp_ne 20 dr_cX17_setOf_10 (by decide +kernel) (fun hc221961 => ?_) (fun hc221961 => ?_)
    · have r221962 : p221939.toInt ≠ 23 := gj_neq hc221961 (show Int32.toInt 23 = 23 by decide)
      refine G_iconst (-1) dr_cX17_setOf_20 (by decide +kernel) ?_
      refine G_goto 39 dr_cX17_setOf_21 (by decide +kernel) ?_
      exact G_iretA dr_cX17_setOf_39 rfl (Nat.le_of_ble_eq_true rfl) (Nat.le_of_ble_eq_true rfl) ⟨(-1), rfl, rfl, (Nat.le_of_ble_eq_true rfl), (Nat.le_of_ble_eq_true rfl), (gB_w (gBl (show Int32.toInt (-1) = (-1) by decide)) (by decide) (by decide)), (by have qa0 : Int32.toInt (-1) = (-1) := (by decide); omega), (fun R c1 c2 c3 c4 => c3 r221960 r221962)⟩
    · have r221963 : p221939.toInt = 23 := gj_eq hc221961 (show Int32.toInt 23 = 23 by decide)
      have bp221939' : gB p221939 23 23 := ⟨by omega, by omega⟩
      refine G_aload_n 0 dr_cX17_setOf_13 rfl ?_
      refine Gp_get 4 hmq221937 heq221937 dr_cX17_setOf_14 (gk_X15 D I) (Nat.le_of_ble_eq_true rfl) wr_9_193 rfl ?_
      refine G_goto 39 dr_cX17_setOf_17 (by decide +kernel) ?_
      exact G_iretA dr_cX17_setOf_39 rfl (Nat.le_of_ble_eq_true rfl) (Nat.le_of_ble_eq_true rfl) ⟨p221943, rfl, rfl, (Nat.le_of_ble_eq_true rfl), (Nat.le_of_ble_eq_true rfl), (gB_w bp221943 (by decide) (by decide)), (by omega), (fun R c1 c2 c3 c4 => c4 r221960 r221963)⟩
/- tr_RModel_back2: F -/
def tr_RModel_back2 (D : va_G) (I : FieldType → ClassId) (γ el : Nat → Nat → Nat) (P : List Nat) (F : Nat → va_E) (q0 : Nat) (q1 : Nat) (a2 : Int32) (o1 : Nat → va_E) : Prop := ∀ R : (Nat → va_E) → Prop,
  (∀ (x1 : Int32) (x2 : Int32) (x3 : Int32) (x4 : Int32) (x5 : Int32) (x6 : Int32) (x7 : Int32) (x8 : Int32), fI (F q1) 0 = x1 → fI (F q1) 1 = x2 → fI (F q1) 4 = x3 → gB x4 (-1) 1999 → tr_RModel_setOf2 a2 x1 x2 x3 x4 → x4.toInt < 0 → a2.toInt = 0 → fI (F q1) 5 = x5 → gB x6 0 1 → tr_RRow_usesA2 x1 x5 x6 → x6.toInt = 0 → fI (F q1) 6 = x7 → gB x8 0 1 → tr_RRow_usesB2 x1 x7 x8 → x8.toInt = 0 → R F) →
  (∀ (x1 : Int32) (x2 : Int32) (x3 : Int32) (x4 : Int32) (x5 : Int32) (x6 : Int32) (x7 : Int32) (x8 : Int32) (x9 : Int32) (x10 : Nat → Int64) (x11 : Nat → Int64) (x12 : Nat → va_E), fI (F q1) 0 = x1 → fI (F q1) 1 = x2 → fI (F q1) 4 = x3 → gB x4 (-1) 1999 → tr_RModel_setOf2 a2 x1 x2 x3 x4 → x4.toInt < 0 → a2.toInt = 0 → fI (F q1) 5 = x5 → gB x6 0 1 → tr_RRow_usesA2 x1 x5 x6 → x6.toInt = 0 → fI (F q1) 6 = x7 → gB x8 0 1 → tr_RRow_usesB2 x1 x7 x8 → x8.toInt ≠ 0 → fR (F q0) 2 = (γ 9 2) → fI (F q1) 3 = x9 → F (γ 9 2) = .inl (I .long, 32, .inr (.inl x10)) → tr_RModel_set2 x9 x10 x11 → rFr [(γ 9 2)] P F x12 → x12 (γ 9 2) = .inl (I .long, 32, .inr (.inl x11)) → RS D I P x12 γ el → R x12) →
  (∀ (x1 : Int32) (x2 : Int32) (x3 : Int32) (x4 : Int32) (x5 : Int32) (x6 : Int32) (x7 : Int32) (x8 : Nat → Int64) (x9 : Nat → Int64) (x10 : Nat → va_E) (x11 : Int32) (x12 : Int32), fI (F q1) 0 = x1 → fI (F q1) 1 = x2 → fI (F q1) 4 = x3 → gB x4 (-1) 1999 → tr_RModel_setOf2 a2 x1 x2 x3 x4 → x4.toInt < 0 → a2.toInt = 0 → fI (F q1) 5 = x5 → gB x6 0 1 → tr_RRow_usesA2 x1 x5 x6 → x6.toInt ≠ 0 → fR (F q0) 2 = (γ 9 2) → fI (F q1) 2 = x7 → F (γ 9 2) = .inl (I .long, 32, .inr (.inl x8)) → tr_RModel_set2 x7 x8 x9 → rFr [(γ 9 2)] P F x10 → x10 (γ 9 2) = .inl (I .long, 32, .inr (.inl x9)) → RS D I P x10 γ el → fI (x10 q1) 0 = x1 → fI (x10 q1) 6 = x11 → gB x12 0 1 → tr_RRow_usesB2 x1 x11 x12 → x12.toInt = 0 → R x10) →
  (∀ (x1 : Int32) (x2 : Int32) (x3 : Int32) (x4 : Int32) (x5 : Int32) (x6 : Int32) (x7 : Int32) (x8 : Nat → Int64) (x9 : Nat → Int64) (x10 : Nat → va_E) (x11 : Int32) (x12 : Int32) (x13 : Int32) (x14 : Nat → Int64) (x15 : Nat → va_E), fI (F q1) 0 = x1 → fI (F q1) 1 = x2 → fI (F q1) 4 = x3 → gB x4 (-1) 1999 → tr_RModel_setOf2 a2 x1 x2 x3 x4 → x4.toInt < 0 → a2.toInt = 0 → fI (F q1) 5 = x5 → gB x6 0 1 → tr_RRow_usesA2 x1 x5 x6 → x6.toInt ≠ 0 → fR (F q0) 2 = (γ 9 2) → fI (F q1) 2 = x7 → F (γ 9 2) = .inl (I .long, 32, .inr (.inl x8)) → tr_RModel_set2 x7 x8 x9 → rFr [(γ 9 2)] P F x10 → x10 (γ 9 2) = .inl (I .long, 32, .inr (.inl x9)) → RS D I P x10 γ el → fI (x10 q1) 0 = x1 → fI (x10 q1) 6 = x11 → gB x12 0 1 → tr_RRow_usesB2 x1 x11 x12 → x12.toInt ≠ 0 → fR (x10 q0) 2 = (γ 9 2) → fI (x10 q1) 3 = x13 → x10 (γ 9 2) = .inl (I .long, 32, .inr (.inl x9)) → tr_RModel_set2 x13 x9 x14 → rFr [(γ 9 2)] P x10 x15 → x15 (γ 9 2) = .inl (I .long, 32, .inr (.inl x14)) → RS D I P x15 γ el → R x15) →
  (∀ (x1 : Int32) (x2 : Int32) (x3 : Int32) (x4 : Int32), fI (F q1) 0 = x1 → fI (F q1) 1 = x2 → fI (F q1) 4 = x3 → gB x4 (-1) 1999 → tr_RModel_setOf2 a2 x1 x2 x3 x4 → x4.toInt < 0 → a2.toInt ≠ 0 → x1.toInt ≠ 21 → R F) →
  (∀ (x1 : Int32) (x2 : Int32) (x3 : Int32) (x4 : Int32) (x5 : Nat → Int64) (x6 : Nat → Int64) (x7 : Nat → va_E), fI (F q1) 0 = x1 → fI (F q1) 1 = x2 → fI (F q1) 4 = x3 → gB x4 (-1) 1999 → tr_RModel_setOf2 a2 x1 x2 x3 x4 → x4.toInt < 0 → a2.toInt ≠ 0 → x1.toInt = 21 → fR (F q0) 2 = (γ 9 2) → F (γ 9 2) = .inl (I .long, 32, .inr (.inl x5)) → tr_RModel_set2 x3 x5 x6 → rFr [(γ 9 2)] P F x7 → x7 (γ 9 2) = .inl (I .long, 32, .inr (.inl x6)) → RS D I P x7 γ el → R x7) →
  (∀ (x1 : Int32) (x2 : Int32) (x3 : Int32) (x4 : Int32) (x5 : Nat → Int64) (x6 : Nat → Int64) (x7 : Nat → va_E) (x8 : Int32) (x9 : Int32) (x10 : Int32) (x11 : Int32), fI (F q1) 0 = x1 → fI (F q1) 1 = x2 → fI (F q1) 4 = x3 → gB x4 (-1) 1999 → tr_RModel_setOf2 a2 x1 x2 x3 x4 → 0 ≤ x4.toInt → fR (F q0) 2 = (γ 9 2) → F (γ 9 2) = .inl (I .long, 32, .inr (.inl x5)) → tr_RModel_clear2 x4 x5 x6 → rFr [(γ 9 2)] P F x7 → x7 (γ 9 2) = .inl (I .long, 32, .inr (.inl x6)) → RS D I P x7 γ el → a2.toInt = 0 → fI (x7 q1) 0 = x1 → fI (x7 q1) 5 = x8 → gB x9 0 1 → tr_RRow_usesA2 x1 x8 x9 → x9.toInt = 0 → fI (x7 q1) 6 = x10 → gB x11 0 1 → tr_RRow_usesB2 x1 x10 x11 → x11.toInt = 0 → R x7) →
  (∀ (x1 : Int32) (x2 : Int32) (x3 : Int32) (x4 : Int32) (x5 : Nat → Int64) (x6 : Nat → Int64) (x7 : Nat → va_E) (x8 : Int32) (x9 : Int32) (x10 : Int32) (x11 : Int32) (x12 : Int32) (x13 : Nat → Int64) (x14 : Nat → va_E), fI (F q1) 0 = x1 → fI (F q1) 1 = x2 → fI (F q1) 4 = x3 → gB x4 (-1) 1999 → tr_RModel_setOf2 a2 x1 x2 x3 x4 → 0 ≤ x4.toInt → fR (F q0) 2 = (γ 9 2) → F (γ 9 2) = .inl (I .long, 32, .inr (.inl x5)) → tr_RModel_clear2 x4 x5 x6 → rFr [(γ 9 2)] P F x7 → x7 (γ 9 2) = .inl (I .long, 32, .inr (.inl x6)) → RS D I P x7 γ el → a2.toInt = 0 → fI (x7 q1) 0 = x1 → fI (x7 q1) 5 = x8 → gB x9 0 1 → tr_RRow_usesA2 x1 x8 x9 → x9.toInt = 0 → fI (x7 q1) 6 = x10 → gB x11 0 1 → tr_RRow_usesB2 x1 x10 x11 → x11.toInt ≠ 0 → fR (x7 q0) 2 = (γ 9 2) → fI (x7 q1) 3 = x12 → x7 (γ 9 2) = .inl (I .long, 32, .inr (.inl x6)) → tr_RModel_set2 x12 x6 x13 → rFr [(γ 9 2)] P x7 x14 → x14 (γ 9 2) = .inl (I .long, 32, .inr (.inl x13)) → RS D I P x14 γ el → R x14) →
  (∀ (x1 : Int32) (x2 : Int32) (x3 : Int32) (x4 : Int32) (x5 : Nat → Int64) (x6 : Nat → Int64) (x7 : Nat → va_E) (x8 : Int32) (x9 : Int32) (x10 : Int32) (x11 : Nat → Int64) (x12 : Nat → va_E) (x13 : Int32) (x14 : Int32), fI (F q1) 0 = x1 → fI (F q1) 1 = x2 → fI (F q1) 4 = x3 → gB x4 (-1) 1999 → tr_RModel_setOf2 a2 x1 x2 x3 x4 → 0 ≤ x4.toInt → fR (F q0) 2 = (γ 9 2) → F (γ 9 2) = .inl (I .long, 32, .inr (.inl x5)) → tr_RModel_clear2 x4 x5 x6 → rFr [(γ 9 2)] P F x7 → x7 (γ 9 2) = .inl (I .long, 32, .inr (.inl x6)) → RS D I P x7 γ el → a2.toInt = 0 → fI (x7 q1) 0 = x1 → fI (x7 q1) 5 = x8 → gB x9 0 1 → tr_RRow_usesA2 x1 x8 x9 → x9.toInt ≠ 0 → fR (x7 q0) 2 = (γ 9 2) → fI (x7 q1) 2 = x10 → x7 (γ 9 2) = .inl (I .long, 32, .inr (.inl x6)) → tr_RModel_set2 x10 x6 x11 → rFr [(γ 9 2)] P x7 x12 → x12 (γ 9 2) = .inl (I .long, 32, .inr (.inl x11)) → RS D I P x12 γ el → fI (x12 q1) 0 = x1 → fI (x12 q1) 6 = x13 → gB x14 0 1 → tr_RRow_usesB2 x1 x13 x14 → x14.toInt = 0 → R x12) →
  (∀ (x1 : Int32) (x2 : Int32) (x3 : Int32) (x4 : Int32) (x5 : Nat → Int64) (x6 : Nat → Int64) (x7 : Nat → va_E) (x8 : Int32) (x9 : Int32) (x10 : Int32) (x11 : Nat → Int64) (x12 : Nat → va_E) (x13 : Int32) (x14 : Int32) (x15 : Int32) (x16 : Nat → Int64) (x17 : Nat → va_E), fI (F q1) 0 = x1 → fI (F q1) 1 = x2 → fI (F q1) 4 = x3 → gB x4 (-1) 1999 → tr_RModel_setOf2 a2 x1 x2 x3 x4 → 0 ≤ x4.toInt → fR (F q0) 2 = (γ 9 2) → F (γ 9 2) = .inl (I .long, 32, .inr (.inl x5)) → tr_RModel_clear2 x4 x5 x6 → rFr [(γ 9 2)] P F x7 → x7 (γ 9 2) = .inl (I .long, 32, .inr (.inl x6)) → RS D I P x7 γ el → a2.toInt = 0 → fI (x7 q1) 0 = x1 → fI (x7 q1) 5 = x8 → gB x9 0 1 → tr_RRow_usesA2 x1 x8 x9 → x9.toInt ≠ 0 → fR (x7 q0) 2 = (γ 9 2) → fI (x7 q1) 2 = x10 → x7 (γ 9 2) = .inl (I .long, 32, .inr (.inl x6)) → tr_RModel_set2 x10 x6 x11 → rFr [(γ 9 2)] P x7 x12 → x12 (γ 9 2) = .inl (I .long, 32, .inr (.inl x11)) → RS D I P x12 γ el → fI (x12 q1) 0 = x1 → fI (x12 q1) 6 = x13 → gB x14 0 1 → tr_RRow_usesB2 x1 x13 x14 → x14.toInt ≠ 0 → fR (x12 q0) 2 = (γ 9 2) → fI (x12 q1) 3 = x15 → x12 (γ 9 2) = .inl (I .long, 32, .inr (.inl x11)) → tr_RModel_set2 x15 x11 x16 → rFr [(γ 9 2)] P x12 x17 → x17 (γ 9 2) = .inl (I .long, 32, .inr (.inl x16)) → RS D I P x17 γ el → R x17) →
  (∀ (x1 : Int32) (x2 : Int32) (x3 : Int32) (x4 : Int32) (x5 : Nat → Int64) (x6 : Nat → Int64) (x7 : Nat → va_E), fI (F q1) 0 = x1 → fI (F q1) 1 = x2 → fI (F q1) 4 = x3 → gB x4 (-1) 1999 → tr_RModel_setOf2 a2 x1 x2 x3 x4 → 0 ≤ x4.toInt → fR (F q0) 2 = (γ 9 2) → F (γ 9 2) = .inl (I .long, 32, .inr (.inl x5)) → tr_RModel_clear2 x4 x5 x6 → rFr [(γ 9 2)] P F x7 → x7 (γ 9 2) = .inl (I .long, 32, .inr (.inl x6)) → RS D I P x7 γ el → a2.toInt ≠ 0 → fI (x7 q1) 0 = x1 → x1.toInt ≠ 21 → R x7) →
  (∀ (x1 : Int32) (x2 : Int32) (x3 : Int32) (x4 : Int32) (x5 : Nat → Int64) (x6 : Nat → Int64) (x7 : Nat → va_E) (x8 : Nat → Int64) (x9 : Nat → va_E), fI (F q1) 0 = x1 → fI (F q1) 1 = x2 → fI (F q1) 4 = x3 → gB x4 (-1) 1999 → tr_RModel_setOf2 a2 x1 x2 x3 x4 → 0 ≤ x4.toInt → fR (F q0) 2 = (γ 9 2) → F (γ 9 2) = .inl (I .long, 32, .inr (.inl x5)) → tr_RModel_clear2 x4 x5 x6 → rFr [(γ 9 2)] P F x7 → x7 (γ 9 2) = .inl (I .long, 32, .inr (.inl x6)) → RS D I P x7 γ el → a2.toInt ≠ 0 → fI (x7 q1) 0 = x1 → x1.toInt = 21 → fR (x7 q0) 2 = (γ 9 2) → fI (x7 q1) 4 = x3 → x7 (γ 9 2) = .inl (I .long, 32, .inr (.inl x6)) → tr_RModel_set2 x3 x6 x8 → rFr [(γ 9 2)] P x7 x9 → x9 (γ 9 2) = .inl (I .long, 32, .inr (.inl x8)) → RS D I P x9 γ el → R x9) →
  R o1
abbrev ky_221970_SpillForgeModel_back : gKey := (cX17_back, 4, "SpillForgeModel", none, [], "back", fun _ _ => True)
def pt_221970_SpillForgeModel_back (D : va_G) (I : FieldType → ClassId) (γ el : Nat → Nat → Nat) (P221965 : List Nat) (F221966 : Nat → va_E) (q221967 : Nat) (q221968 : Nat) (p221969 : Int32) : Option Value → va_W → Nat → Nat → Prop := fun r w dc ds => ∃ (F222333 : Nat → va_E), r = none ∧ w = va_pl P221965 F222333 ∧ RS D I P221965 F222333 γ el ∧ rStr γ [] F221966 F222333 ∧ dc ≤ 0 ∧ ds ≤ 0 ∧ (∀ k : Nat, rbt (cL (F222333 (γ 9 2))) k = bkS (F221966 q221968) (decide (p221969.toInt = 1)) (rbt (cL (F221966 (γ 9 2)))) k) ∧ rLv γ F221966 F222333 ∧ (F222333 q221967 = F221966 q221967) ∧ tr_RModel_back2 D I γ el P221965 F221966 q221967 q221968 p221969 F222333
set_option maxRecDepth 100000 in
set_option maxHeartbeats 4000000 in
theorem ct_221970_SpillForgeModel_back (l : Launch) (hl0 : l.stackTraces = false) (D : va_G) (I : FieldType → ClassId) (γ el : Nat → Nat → Nat) (P221965 : List Nat) (F221966 : Nat → va_E) (q221967 : Nat) (q221968 : Nat) (p221969 : Int32) (hT : RS D I P221965 F221966 γ el) (htq221967 : rKd γ q221967 10) (htq221968 : rKd γ q221968 1) (bp221969 : gB p221969 0 1) : CtA (gV D I) l yX17_back cX17_back 4 none 2 41 0 0 [.ref q221967, .ref q221968, .int p221969] (va_pl P221965 F221966) (pt_221970_SpillForgeModel_back D I γ el P221965 F221966 q221967 q221968 p221969) gNA := by
  refine CtA_of hl0 (by decide) (Nat.le_of_ble_eq_true rfl) ?_
  have hm221971 : q221967 ∈ P221965 := RS_m hT htq221967 (by decide)
  obtain ⟨q221973, q221974, p221975, p221976, p221977, p221978, p221979, p221980, p221981, p221982, p221983, p221984, p221985, p221986, p221987, p221988, p221989, he221972, hB222016, ht221990, ht221991, ht221992, ht221993, ht221994, ht221995, ht221996, ht221997, ht221998, ht221999, ht222000, ht222001, ht222002, ht222003, ht222004, ht222005, ht222006, ht222007, ht222008, ht222009, ht222010, ht222011, ht222012, ht222013, hB222017⟩ := show rk_10 γ (F221966 q221967) from RS_o hT htq221967
  have hm222018 : (γ 9 2) ∈ P221965 := RS_m hT ht221994 (by decide)
  obtain ⟨f222020, he222019, wf222020⟩ := show rk_35 I (F221966 (γ 9 2)) from RS_o hT ht221994
  have hm222021 : q221968 ∈ P221965 := RS_m hT htq221968 (by decide)
  obtain ⟨p222023, p222024, p222025, p222026, p222027, p222028, p222029, he222022, bp222023, bp222024, bp222027, bp222028, bp222029, r222030, r222031, r222032, r222033, r222034⟩ := show rk_1 γ q221968 (F221966 q221968) from RS_o hT htq221968
  have bp222025 := gB_any p222025
  have bp222026 := gB_any p222026
  refine G_aload_n 1 dr_cX17_back_0 rfl ?_
  refine G_iload_n 2 dr_cX17_back_1 rfl ?_
  have fq222035 : fI (F221966 q221968) 0 = p222023 := by rw [he222022]; rfl
  have fq222036 : fI (F221966 q221968) 1 = p222024 := by rw [he222022]; rfl
  have fq222037 : fI (F221966 q221968) 4 = p222027 := by rw [he222022]; rfl
  refine Gw_callS (As := [.ref q221968, .int p221969]) (gV_ok D I) (cp_221946_SpillForgeModel_setOf l hl0 D I P221965 F221966 q221968 p221969 p222023 p222024 p222025 p222026 p222027 p222028 p222029 hm222021 he222022 bp221969 bp222023 bp222024 bp222027 bp222028 bp222029) dr_cX17_back_2 ⟨wr_10_178, wr_1_14, wr_10_180, by decide, rfl, (Nat.le_of_ble_eq_true rfl), (Nat.le_of_ble_eq_true rfl)⟩ wr_10_179 (show 0 + 0 ≤ 0 by first | omega | decide) (show 0 + 0 ≤ 0 by first | omega | decide) (Nat.le_of_ble_eq_true rfl) (fun r222041 w222042 dc222038 ds222039 hp222040 => ?_) (fun _ _ _ _ _ z => z.elim)
  obtain ⟨o222043, rfl, rfl, hdc, hds, bo222043, x222044, ht222045⟩ := hp222040
  change G _ _ _ _ _ _ _ (.int o222043 :: _) _ _ _
  refine G_widen (cs' := 0) (sl' := 0) (by omega) (by omega) ?_
  refine G_istore_n (L' := [(3, .int o222043), (0, .ref q221967), (1, .ref q221968), (2, .int p221969)]) dr_cX17_back_5 (Nat.le_of_ble_eq_true rfl) rfl ?_
  refine G_iload_n 0 dr_cX17_back_6 rfl ?_
  refine G_if_lt 18 dr_cX17_back_7 (by decide +kernel) (fun hc222046 => ?_) (fun hc222046 => ?_)
  · have r222047 : o222043.toInt < 0 := gj_lt hc222046 (show Int32.toInt 0 = 0 by decide)
    have bo222043' : gB o222043 (-1) (-1) := ⟨by omega, by omega⟩
    refine G_iload_n 3 dr_cX17_back_18 rfl ?_
    refine G_if_eq 43 dr_cX17_back_19 (by decide +kernel) (fun hc222048 => ?_) (fun hc222048 => ?_)
    · have r222049 : p221969.toInt = 0 := gj_eq hc222048 (show Int32.toInt 0 = 0 by decide)
      have bp221969' : gB p221969 0 0 := ⟨by omega, by omega⟩
      refine G_aload_n 2 dr_cX17_back_43 rfl ?_
      have fq222050 : fI (F221966 q221968) 5 = p222028 := by rw [he222022]; rfl
      refine Gw_callV (As := []) (gV_ok D I) (cp_221885_Row_usesA l hl0 D I P221965 F221966 q221968 p222023 p222024 p222025 p222026 p222027 p222028 p222029 hm222021 he222022 bp222023 bp222024 bp222027 bp222028 bp222029) dr_cX17_back_44 ⟨wr_10_192, wr_1_39, wr_10_195, by decide, rfl, (Nat.le_of_ble_eq_true rfl), (Nat.le_of_ble_eq_true rfl)⟩ wr_10_193 wr_10_194 hm222021 he222022 rfl (show 0 + 0 ≤ 0 by first | omega | decide) (show 0 + 0 ≤ 0 by first | omega | decide) (Nat.le_of_ble_eq_true rfl) (fun r222054 w222055 dc222051 ds222052 hp222053 => ?_) (fun _ _ _ _ _ z => z.elim)
      obtain ⟨o222056, rfl, rfl, hdc, hds, bo222056, x222057, ht222058⟩ := hp222053
      change G _ _ _ _ _ _ _ (.int o222056 :: _) _ _ _
      refine G_widen (cs' := 0) (sl' := 0) (by omega) (by omega) ?_
      refine G_if_eq 61 dr_cX17_back_47 (by decide +kernel) (fun hc222059 => ?_) (fun hc222059 => ?_)
      · have r222060 : o222056.toInt = 0 := gj_eq hc222059 (show Int32.toInt 0 = 0 by decide)
        have bo222056' : gB o222056 0 0 := ⟨by omega, by omega⟩
        refine G_aload_n 2 dr_cX17_back_61 rfl ?_
        have fq222061 : fI (F221966 q221968) 6 = p222029 := by rw [he222022]; rfl
        refine Gw_callV (As := []) (gV_ok D I) (cp_221909_Row_usesB l hl0 D I P221965 F221966 q221968 p222023 p222024 p222025 p222026 p222027 p222028 p222029 hm222021 he222022 bp222023 bp222024 bp222027 bp222028 bp222029) dr_cX17_back_62 ⟨wr_10_196, wr_1_39, wr_10_199, by decide, rfl, (Nat.le_of_ble_eq_true rfl), (Nat.le_of_ble_eq_true rfl)⟩ wr_10_197 wr_10_198 hm222021 he222022 rfl (show 0 + 0 ≤ 0 by first | omega | decide) (show 0 + 0 ≤ 0 by first | omega | decide) (Nat.le_of_ble_eq_true rfl) (fun r222065 w222066 dc222062 ds222063 hp222064 => ?_) (fun _ _ _ _ _ z => z.elim)
        obtain ⟨o222067, rfl, rfl, hdc, hds, bo222067, x222068, ht222069⟩ := hp222064
        change G _ _ _ _ _ _ _ (.int o222067 :: _) _ _ _
        refine G_widen (cs' := 0) (sl' := 0) (by omega) (by omega) ?_
        refine G_if_eq 79 dr_cX17_back_65 (by decide +kernel) (fun hc222070 => ?_) (fun hc222070 => ?_)
        · have r222071 : o222067.toInt = 0 := gj_eq hc222070 (show Int32.toInt 0 = 0 by decide)
          have bo222067' : gB o222067 0 0 := ⟨by omega, by omega⟩
          exact G_vretA dr_cX17_back_79 rfl (Nat.le_of_ble_eq_true rfl) (Nat.le_of_ble_eq_true rfl) ⟨F221966, rfl, rfl, hT, (rStr_rf (γ := γ) (W := []) (F := F221966)), (Nat.le_of_ble_eq_true rfl), (Nat.le_of_ble_eq_true rfl), (fun k => by rw [cL_of he222019, bkS_of he222022, (decide_eq_false (show ¬ (p221969.toInt = 1) by omega))]; exact bk_n false false false (decide_eq_false (show ¬ (p222023.toInt ≤ 21) by omega)) (decide_eq_false (show ¬ (p222023.toInt ≠ 20 ∧ p222023.toInt ≠ 21 ∧ p222023.toInt ≠ 30 ∧ p222028.toInt = 1) by omega)) (decide_eq_false (show ¬ (0 < p222023.toInt ∧ p222023.toInt < 20 ∧ p222029.toInt = 1) by omega)) (by simp)), (rLv_rf (γ := γ) (F := F221966)), rfl, (fun R c1 c2 c3 c4 c5 c6 c7 c8 c9 c10 c11 c12 => c1 p222023 p222024 p222027 o222043 p222028 o222056 p222029 o222067 fq222035 fq222036 fq222037 bo222043 ht222045 r222047 r222049 fq222050 bo222056 ht222058 r222060 fq222061 bo222067 ht222069 r222071)⟩
        · have r222072 : o222067.toInt ≠ 0 := gj_neq hc222070 (show Int32.toInt 0 = 0 by decide)
          have bo222067' : gB o222067 1 1 := ⟨by omega, by omega⟩
          refine G_aload_n 1 dr_cX17_back_68 rfl ?_
          have fq222073 : fR (F221966 q221967) 2 = (γ 9 2) := by rw [he221972]; rfl
          refine Gp_get 2 hm221971 he221972 dr_cX17_back_69 (gk_X17 D I) (Nat.le_of_ble_eq_true rfl) wr_7_76 rfl ?_
          refine G_aload_n 2 dr_cX17_back_72 rfl ?_
          have fq222074 : fI (F221966 q221968) 3 = p222026 := by rw [he222022]; rfl
          refine Gp_get 3 hm222021 he222022 dr_cX17_back_73 (gk_X15 D I) (Nat.le_of_ble_eq_true rfl) wr_9_190 rfl ?_
          refine Gw_callS (As := [.ref (γ 9 2), .int p222026]) (gV_ok D I) (cp_221840_SpillForgeModel_set l hl0 D I P221965 F221966 (γ 9 2) p222026 f222020 hm222018 he222019 ⟨by omega, by omega⟩ wf222020) dr_cX17_back_76 ⟨wr_10_189, wr_1_14, wr_10_191, by decide, rfl, (Nat.le_of_ble_eq_true rfl), (Nat.le_of_ble_eq_true rfl)⟩ wr_10_190 (show 0 + 0 ≤ 0 by first | omega | decide) (show 0 + 0 ≤ 0 by first | omega | decide) (Nat.le_of_ble_eq_true rfl) (fun r222078 w222079 dc222075 ds222076 hp222077 => ?_) (fun _ _ _ _ _ z => z.elim)
          obtain ⟨F222084, f222080, rfl, rfl, hfr222086, he222087, hdc, hds, x222081, x222082, ht222083⟩ := hp222077
          have he222088 : F222084 q221967 = .inr (22, [.ref (γ 9 0), .ref (γ 9 1), .ref (γ 9 2), .ref (γ 9 3), .ref (γ 9 4), .ref (γ 9 5), .ref (γ 9 6), .ref (γ 9 7), .ref (γ 9 8), .int p221975, .int p221976, .int p221977, .int p221978, .int p221979, .int p221980, .ref (γ 9 15), .ref (γ 9 16), .ref (γ 9 17), .ref (γ 9 18), .ref (γ 9 19), .ref (γ 9 20), .ref (γ 9 21), .ref (γ 9 22), .int p221981, .int p221982, .int p221983, .int p221984, .int p221985, .ref q221973, .ref (γ 9 29), .int p221986, .ref (γ 9 31), .int p221987, .int p221988, .int p221989, .ref q221974]) := (hfr222086 q221967 hm221971 (nm_c (rn_oa he221972 he222019) nm_n)).trans he221972
          have he222089 : F222084 q221968 = .inr (20, [.int p222023, .int p222024, .int p222025, .int p222026, .int p222027, .int p222028, .int p222029]) := (hfr222086 q221968 hm222021 (nm_c (rn_oa he222022 he222019) nm_n)).trans he222022
          have hfr222090 : rFr [(γ 9 2)] P221965 F221966 F222084 := rFr_call (rSub_rf (P := P221965)) (rFr_rf (W := []) (P := P221965) (F := F221966)) hfr222086 (fun b hb hn => ⟨nm_n, (nm_c (fun e => hn (e ▸ List.mem_cons_self)) nm_n)⟩)
          change G _ _ _ _ _ _ _ _ _ _ _
          refine G_widen (cs' := 0) (sl' := 0) (by omega) (by omega) ?_
          have hT222091 : RS D I P221965 F222084 γ el := RS_fr hT hfr222090 ht221994 (by decide) ⟨f222080, he222087, x222081⟩
          have hs222092 : rStr γ [] F221966 F222084 := rStr_fr hT (rStr_rf (γ := γ) (W := []) (F := F221966)) hfr222090 ht221994 (by decide)
          have lv222093 : rLv γ F221966 F222084 := rLv_fr hT ht221992 (rLv_rf (γ := γ) (F := F221966)) hfr222090 ht221994 (by decide)
          have kp222094 : F222084 q221967 = F221966 q221967 := hfr222090 q221967 (RS_m hT htq221967 (by decide)) (nm_c (rn_ty htq221967 ht221994 (by decide)) nm_n)
          exact G_vretA dr_cX17_back_79 rfl (Nat.le_of_ble_eq_true rfl) (Nat.le_of_ble_eq_true rfl) ⟨F222084, rfl, rfl, hT222091, hs222092, (Nat.le_of_ble_eq_true rfl), (Nat.le_of_ble_eq_true rfl), (fun k => by rw [cL_of he222087, cL_of he222019, bkS_of he222022, (decide_eq_false (show ¬ (p221969.toInt = 1) by omega))]; exact bk_n false false true (decide_eq_false (show ¬ (p222023.toInt ≤ 21) by omega)) (decide_eq_false (show ¬ (p222023.toInt ≠ 20 ∧ p222023.toInt ≠ 21 ∧ p222023.toInt ≠ 30 ∧ p222028.toInt = 1) by omega)) (decide_eq_true (show (0 < p222023.toInt ∧ p222023.toInt < 20 ∧ p222029.toInt = 1) by omega)) (by rw [x222082 k]; simp)), lv222093, kp222094, (fun R c1 c2 c3 c4 c5 c6 c7 c8 c9 c10 c11 c12 => c2 p222023 p222024 p222027 o222043 p222028 o222056 p222029 o222067 p222026 f222020 f222080 F222084 fq222035 fq222036 fq222037 bo222043 ht222045 r222047 r222049 fq222050 bo222056 ht222058 r222060 fq222061 bo222067 ht222069 r222072 fq222073 fq222074 he222019 ht222083 hfr222090 he222087 hT222091)⟩
      · have r222095 : o222056.toInt ≠ 0 := gj_neq hc222059 (show Int32.toInt 0 = 0 by decide)
        have bo222056' : gB o222056 1 1 := ⟨by omega, by omega⟩
        refine G_aload_n 1 dr_cX17_back_50 rfl ?_
        have fq222096 : fR (F221966 q221967) 2 = (γ 9 2) := by rw [he221972]; rfl
        refine Gp_get 2 hm221971 he221972 dr_cX17_back_51 (gk_X17 D I) (Nat.le_of_ble_eq_true rfl) wr_7_76 rfl ?_
        refine G_aload_n 2 dr_cX17_back_54 rfl ?_
        have fq222097 : fI (F221966 q221968) 2 = p222025 := by rw [he222022]; rfl
        refine Gp_get 2 hm222021 he222022 dr_cX17_back_55 (gk_X15 D I) (Nat.le_of_ble_eq_true rfl) wr_9_186 rfl ?_
        refine Gw_callS (As := [.ref (γ 9 2), .int p222025]) (gV_ok D I) (cp_221840_SpillForgeModel_set l hl0 D I P221965 F221966 (γ 9 2) p222025 f222020 hm222018 he222019 ⟨by omega, by omega⟩ wf222020) dr_cX17_back_58 ⟨wr_10_189, wr_1_14, wr_10_191, by decide, rfl, (Nat.le_of_ble_eq_true rfl), (Nat.le_of_ble_eq_true rfl)⟩ wr_10_190 (show 0 + 0 ≤ 0 by first | omega | decide) (show 0 + 0 ≤ 0 by first | omega | decide) (Nat.le_of_ble_eq_true rfl) (fun r222101 w222102 dc222098 ds222099 hp222100 => ?_) (fun _ _ _ _ _ z => z.elim)
        obtain ⟨F222107, f222103, rfl, rfl, hfr222109, he222110, hdc, hds, x222104, x222105, ht222106⟩ := hp222100
        have he222111 : F222107 q221967 = .inr (22, [.ref (γ 9 0), .ref (γ 9 1), .ref (γ 9 2), .ref (γ 9 3), .ref (γ 9 4), .ref (γ 9 5), .ref (γ 9 6), .ref (γ 9 7), .ref (γ 9 8), .int p221975, .int p221976, .int p221977, .int p221978, .int p221979, .int p221980, .ref (γ 9 15), .ref (γ 9 16), .ref (γ 9 17), .ref (γ 9 18), .ref (γ 9 19), .ref (γ 9 20), .ref (γ 9 21), .ref (γ 9 22), .int p221981, .int p221982, .int p221983, .int p221984, .int p221985, .ref q221973, .ref (γ 9 29), .int p221986, .ref (γ 9 31), .int p221987, .int p221988, .int p221989, .ref q221974]) := (hfr222109 q221967 hm221971 (nm_c (rn_oa he221972 he222019) nm_n)).trans he221972
        have he222112 : F222107 q221968 = .inr (20, [.int p222023, .int p222024, .int p222025, .int p222026, .int p222027, .int p222028, .int p222029]) := (hfr222109 q221968 hm222021 (nm_c (rn_oa he222022 he222019) nm_n)).trans he222022
        have hfr222113 : rFr [(γ 9 2)] P221965 F221966 F222107 := rFr_call (rSub_rf (P := P221965)) (rFr_rf (W := []) (P := P221965) (F := F221966)) hfr222109 (fun b hb hn => ⟨nm_n, (nm_c (fun e => hn (e ▸ List.mem_cons_self)) nm_n)⟩)
        change G _ _ _ _ _ _ _ _ _ _ _
        refine G_widen (cs' := 0) (sl' := 0) (by omega) (by omega) ?_
        have hT222114 : RS D I P221965 F222107 γ el := RS_fr hT hfr222113 ht221994 (by decide) ⟨f222103, he222110, x222104⟩
        have hs222115 : rStr γ [] F221966 F222107 := rStr_fr hT (rStr_rf (γ := γ) (W := []) (F := F221966)) hfr222113 ht221994 (by decide)
        have lv222116 : rLv γ F221966 F222107 := rLv_fr hT ht221992 (rLv_rf (γ := γ) (F := F221966)) hfr222113 ht221994 (by decide)
        have kp222117 : F222107 q221967 = F221966 q221967 := hfr222113 q221967 (RS_m hT htq221967 (by decide)) (nm_c (rn_ty htq221967 ht221994 (by decide)) nm_n)
        refine G_aload_n 2 dr_cX17_back_61 rfl ?_
        have fq222118 : fI (F222107 q221968) 0 = p222023 := by rw [he222112]; rfl
        have fq222119 : fI (F222107 q221968) 6 = p222029 := by rw [he222112]; rfl
        refine Gw_callV (As := []) (gV_ok D I) (cp_221909_Row_usesB l hl0 D I P221965 F222107 q221968 p222023 p222024 p222025 p222026 p222027 p222028 p222029 hm222021 he222112 bp222023 bp222024 bp222027 bp222028 bp222029) dr_cX17_back_62 ⟨wr_10_196, wr_1_39, wr_10_199, by decide, rfl, (Nat.le_of_ble_eq_true rfl), (Nat.le_of_ble_eq_true rfl)⟩ wr_10_197 wr_10_198 hm222021 he222112 rfl (show 0 + 0 ≤ 0 by first | omega | decide) (show 0 + 0 ≤ 0 by first | omega | decide) (Nat.le_of_ble_eq_true rfl) (fun r222123 w222124 dc222120 ds222121 hp222122 => ?_) (fun _ _ _ _ _ z => z.elim)
        obtain ⟨o222125, rfl, rfl, hdc, hds, bo222125, x222126, ht222127⟩ := hp222122
        change G _ _ _ _ _ _ _ (.int o222125 :: _) _ _ _
        refine G_widen (cs' := 0) (sl' := 0) (by omega) (by omega) ?_
        refine G_if_eq 79 dr_cX17_back_65 (by decide +kernel) (fun hc222128 => ?_) (fun hc222128 => ?_)
        · have r222129 : o222125.toInt = 0 := gj_eq hc222128 (show Int32.toInt 0 = 0 by decide)
          have bo222125' : gB o222125 0 0 := ⟨by omega, by omega⟩
          exact G_vretA dr_cX17_back_79 rfl (Nat.le_of_ble_eq_true rfl) (Nat.le_of_ble_eq_true rfl) ⟨F222107, rfl, rfl, hT222114, hs222115, (Nat.le_of_ble_eq_true rfl), (Nat.le_of_ble_eq_true rfl), (fun k => by rw [cL_of he222110, cL_of he222019, bkS_of he222022, (decide_eq_false (show ¬ (p221969.toInt = 1) by omega))]; exact bk_n false true false (decide_eq_false (show ¬ (p222023.toInt ≤ 21) by omega)) (decide_eq_true (show (p222023.toInt ≠ 20 ∧ p222023.toInt ≠ 21 ∧ p222023.toInt ≠ 30 ∧ p222028.toInt = 1) by omega)) (decide_eq_false (show ¬ (0 < p222023.toInt ∧ p222023.toInt < 20 ∧ p222029.toInt = 1) by omega)) (by rw [x222105 k]; simp)), lv222116, kp222117, (fun R c1 c2 c3 c4 c5 c6 c7 c8 c9 c10 c11 c12 => c3 p222023 p222024 p222027 o222043 p222028 o222056 p222025 f222020 f222103 F222107 p222029 o222125 fq222035 fq222036 fq222037 bo222043 ht222045 r222047 r222049 fq222050 bo222056 ht222058 r222095 fq222096 fq222097 he222019 ht222106 hfr222113 he222110 hT222114 fq222118 fq222119 bo222125 ht222127 r222129)⟩
        · have r222130 : o222125.toInt ≠ 0 := gj_neq hc222128 (show Int32.toInt 0 = 0 by decide)
          have bo222125' : gB o222125 1 1 := ⟨by omega, by omega⟩
          refine G_aload_n 1 dr_cX17_back_68 rfl ?_
          have fq222131 : fR (F222107 q221967) 2 = (γ 9 2) := by rw [he222111]; rfl
          refine Gp_get 2 hm221971 he222111 dr_cX17_back_69 (gk_X17 D I) (Nat.le_of_ble_eq_true rfl) wr_7_76 rfl ?_
          refine G_aload_n 2 dr_cX17_back_72 rfl ?_
          have fq222132 : fI (F222107 q221968) 3 = p222026 := by rw [he222112]; rfl
          refine Gp_get 3 hm222021 he222112 dr_cX17_back_73 (gk_X15 D I) (Nat.le_of_ble_eq_true rfl) wr_9_190 rfl ?_
          refine Gw_callS (As := [.ref (γ 9 2), .int p222026]) (gV_ok D I) (cp_221840_SpillForgeModel_set l hl0 D I P221965 F222107 (γ 9 2) p222026 f222103 hm222018 he222110 ⟨by omega, by omega⟩ x222104) dr_cX17_back_76 ⟨wr_10_189, wr_1_14, wr_10_191, by decide, rfl, (Nat.le_of_ble_eq_true rfl), (Nat.le_of_ble_eq_true rfl)⟩ wr_10_190 (show 0 + 0 ≤ 0 by first | omega | decide) (show 0 + 0 ≤ 0 by first | omega | decide) (Nat.le_of_ble_eq_true rfl) (fun r222136 w222137 dc222133 ds222134 hp222135 => ?_) (fun _ _ _ _ _ z => z.elim)
          obtain ⟨F222142, f222138, rfl, rfl, hfr222144, he222145, hdc, hds, x222139, x222140, ht222141⟩ := hp222135
          have he222146 : F222142 q221967 = .inr (22, [.ref (γ 9 0), .ref (γ 9 1), .ref (γ 9 2), .ref (γ 9 3), .ref (γ 9 4), .ref (γ 9 5), .ref (γ 9 6), .ref (γ 9 7), .ref (γ 9 8), .int p221975, .int p221976, .int p221977, .int p221978, .int p221979, .int p221980, .ref (γ 9 15), .ref (γ 9 16), .ref (γ 9 17), .ref (γ 9 18), .ref (γ 9 19), .ref (γ 9 20), .ref (γ 9 21), .ref (γ 9 22), .int p221981, .int p221982, .int p221983, .int p221984, .int p221985, .ref q221973, .ref (γ 9 29), .int p221986, .ref (γ 9 31), .int p221987, .int p221988, .int p221989, .ref q221974]) := (hfr222144 q221967 hm221971 (nm_c (rn_oa he222111 he222110) nm_n)).trans he222111
          have he222147 : F222142 q221968 = .inr (20, [.int p222023, .int p222024, .int p222025, .int p222026, .int p222027, .int p222028, .int p222029]) := (hfr222144 q221968 hm222021 (nm_c (rn_oa he222112 he222110) nm_n)).trans he222112
          have hfr222148 : rFr [(γ 9 2)] P221965 F222107 F222142 := rFr_call (rSub_rf (P := P221965)) (rFr_rf (W := []) (P := P221965) (F := F222107)) hfr222144 (fun b hb hn => ⟨nm_n, (nm_c (fun e => hn (e ▸ List.mem_cons_self)) nm_n)⟩)
          change G _ _ _ _ _ _ _ _ _ _ _
          refine G_widen (cs' := 0) (sl' := 0) (by omega) (by omega) ?_
          have hT222149 : RS D I P221965 F222142 γ el := RS_fr hT222114 hfr222148 ht221994 (by decide) ⟨f222138, he222145, x222139⟩
          have hs222150 : rStr γ [] F221966 F222142 := rStr_fr hT222114 hs222115 hfr222148 ht221994 (by decide)
          have lv222151 : rLv γ F221966 F222142 := rLv_fr hT222114 ht221992 lv222116 hfr222148 ht221994 (by decide)
          have kp222152 : F222142 q221967 = F221966 q221967 := (hfr222148 q221967 (RS_m hT222114 htq221967 (by decide)) (nm_c (rn_ty htq221967 ht221994 (by decide)) nm_n)).trans kp222117
          exact G_vretA dr_cX17_back_79 rfl (Nat.le_of_ble_eq_true rfl) (Nat.le_of_ble_eq_true rfl) ⟨F222142, rfl, rfl, hT222149, hs222150, (Nat.le_of_ble_eq_true rfl), (Nat.le_of_ble_eq_true rfl), (fun k => by rw [cL_of he222145, cL_of he222019, bkS_of he222022, (decide_eq_false (show ¬ (p221969.toInt = 1) by omega))]; exact bk_n false true true (decide_eq_false (show ¬ (p222023.toInt ≤ 21) by omega)) (decide_eq_true (show (p222023.toInt ≠ 20 ∧ p222023.toInt ≠ 21 ∧ p222023.toInt ≠ 30 ∧ p222028.toInt = 1) by omega)) (decide_eq_true (show (0 < p222023.toInt ∧ p222023.toInt < 20 ∧ p222029.toInt = 1) by omega)) (by rw [x222140 k, x222105 k]; simp)), lv222151, kp222152, (fun R c1 c2 c3 c4 c5 c6 c7 c8 c9 c10 c11 c12 => c4 p222023 p222024 p222027 o222043 p222028 o222056 p222025 f222020 f222103 F222107 p222029 o222125 p222026 f222138 F222142 fq222035 fq222036 fq222037 bo222043 ht222045 r222047 r222049 fq222050 bo222056 ht222058 r222095 fq222096 fq222097 he222019 ht222106 hfr222113 he222110 hT222114 fq222118 fq222119 bo222125 ht222127 r222130 fq222131 fq222132 he222110 ht222141 hfr222148 he222145 hT222149)⟩
    · have r222153 : p221969.toInt ≠ 0 := gj_neq hc222048 (show Int32.toInt 0 = 0 by decide)
      have bp221969' : gB p221969 1 1 := ⟨by omega, by omega⟩
      refine G_aload_n 2 dr_cX17_back_22 rfl ?_
      refine Gp_get 0 hm222021 he222022 dr_cX17_back_23 (gk_X15 D I) (Nat.le_of_ble_eq_true rfl) wr_9_177 rfl ?_
      refine G_bipush 21 dr_cX17_back_26 (by decide +kernel) ?_
      refine G_icmp_ne 42 dr_cX17_back_28 (by decide +kernel) (fun hc222154 => ?_) (fun hc222154 => ?_)
      · have r222155 : p222023.toInt ≠ 21 := gj_neq hc222154 (show Int32.toInt 21 = 21 by decide)
        exact G_vretA dr_cX17_back_42 rfl (Nat.le_of_ble_eq_true rfl) (Nat.le_of_ble_eq_true rfl) ⟨F221966, rfl, rfl, hT, (rStr_rf (γ := γ) (W := []) (F := F221966)), (Nat.le_of_ble_eq_true rfl), (Nat.le_of_ble_eq_true rfl), (fun k => by rw [cL_of he222019, bkS_of he222022, (decide_eq_true (show (p221969.toInt = 1) by omega))]; exact bk_s false false (decide_eq_false (show ¬ (p222023.toInt = 23) by omega)) (decide_eq_false (show ¬ (p222023.toInt = 21) by omega)) (by simp)), (rLv_rf (γ := γ) (F := F221966)), rfl, (fun R c1 c2 c3 c4 c5 c6 c7 c8 c9 c10 c11 c12 => c5 p222023 p222024 p222027 o222043 fq222035 fq222036 fq222037 bo222043 ht222045 r222047 r222153 r222155)⟩
      · have r222156 : p222023.toInt = 21 := gj_eq hc222154 (show Int32.toInt 21 = 21 by decide)
        have bp222023' : gB p222023 21 21 := ⟨by omega, by omega⟩
        refine G_aload_n 1 dr_cX17_back_31 rfl ?_
        have fq222157 : fR (F221966 q221967) 2 = (γ 9 2) := by rw [he221972]; rfl
        refine Gp_get 2 hm221971 he221972 dr_cX17_back_32 (gk_X17 D I) (Nat.le_of_ble_eq_true rfl) wr_7_76 rfl ?_
        refine G_aload_n 2 dr_cX17_back_35 rfl ?_
        refine Gp_get 4 hm222021 he222022 dr_cX17_back_36 (gk_X15 D I) (Nat.le_of_ble_eq_true rfl) wr_9_193 rfl ?_
        refine Gw_callS (As := [.ref (γ 9 2), .int p222027]) (gV_ok D I) (cp_221840_SpillForgeModel_set l hl0 D I P221965 F221966 (γ 9 2) p222027 f222020 hm222018 he222019 bp222027 wf222020) dr_cX17_back_39 ⟨wr_10_189, wr_1_14, wr_10_191, by decide, rfl, (Nat.le_of_ble_eq_true rfl), (Nat.le_of_ble_eq_true rfl)⟩ wr_10_190 (show 0 + 0 ≤ 0 by first | omega | decide) (show 0 + 0 ≤ 0 by first | omega | decide) (Nat.le_of_ble_eq_true rfl) (fun r222161 w222162 dc222158 ds222159 hp222160 => ?_) (fun _ _ _ _ _ z => z.elim)
        obtain ⟨F222167, f222163, rfl, rfl, hfr222169, he222170, hdc, hds, x222164, x222165, ht222166⟩ := hp222160
        have he222171 : F222167 q221967 = .inr (22, [.ref (γ 9 0), .ref (γ 9 1), .ref (γ 9 2), .ref (γ 9 3), .ref (γ 9 4), .ref (γ 9 5), .ref (γ 9 6), .ref (γ 9 7), .ref (γ 9 8), .int p221975, .int p221976, .int p221977, .int p221978, .int p221979, .int p221980, .ref (γ 9 15), .ref (γ 9 16), .ref (γ 9 17), .ref (γ 9 18), .ref (γ 9 19), .ref (γ 9 20), .ref (γ 9 21), .ref (γ 9 22), .int p221981, .int p221982, .int p221983, .int p221984, .int p221985, .ref q221973, .ref (γ 9 29), .int p221986, .ref (γ 9 31), .int p221987, .int p221988, .int p221989, .ref q221974]) := (hfr222169 q221967 hm221971 (nm_c (rn_oa he221972 he222019) nm_n)).trans he221972
        have he222172 : F222167 q221968 = .inr (20, [.int p222023, .int p222024, .int p222025, .int p222026, .int p222027, .int p222028, .int p222029]) := (hfr222169 q221968 hm222021 (nm_c (rn_oa he222022 he222019) nm_n)).trans he222022
        have hfr222173 : rFr [(γ 9 2)] P221965 F221966 F222167 := rFr_call (rSub_rf (P := P221965)) (rFr_rf (W := []) (P := P221965) (F := F221966)) hfr222169 (fun b hb hn => ⟨nm_n, (nm_c (fun e => hn (e ▸ List.mem_cons_self)) nm_n)⟩)
        change G _ _ _ _ _ _ _ _ _ _ _
        refine G_widen (cs' := 0) (sl' := 0) (by omega) (by omega) ?_
        have hT222174 : RS D I P221965 F222167 γ el := RS_fr hT hfr222173 ht221994 (by decide) ⟨f222163, he222170, x222164⟩
        have hs222175 : rStr γ [] F221966 F222167 := rStr_fr hT (rStr_rf (γ := γ) (W := []) (F := F221966)) hfr222173 ht221994 (by decide)
        have lv222176 : rLv γ F221966 F222167 := rLv_fr hT ht221992 (rLv_rf (γ := γ) (F := F221966)) hfr222173 ht221994 (by decide)
        have kp222177 : F222167 q221967 = F221966 q221967 := hfr222173 q221967 (RS_m hT htq221967 (by decide)) (nm_c (rn_ty htq221967 ht221994 (by decide)) nm_n)
        exact G_vretA dr_cX17_back_42 rfl (Nat.le_of_ble_eq_true rfl) (Nat.le_of_ble_eq_true rfl) ⟨F222167, rfl, rfl, hT222174, hs222175, (Nat.le_of_ble_eq_true rfl), (Nat.le_of_ble_eq_true rfl), (fun k => by rw [cL_of he222170, cL_of he222019, bkS_of he222022, (decide_eq_true (show (p221969.toInt = 1) by omega))]; exact bk_s false true (decide_eq_false (show ¬ (p222023.toInt = 23) by omega)) (decide_eq_true (show (p222023.toInt = 21) by omega)) (by rw [x222165 k]; simp)), lv222176, kp222177, (fun R c1 c2 c3 c4 c5 c6 c7 c8 c9 c10 c11 c12 => c6 p222023 p222024 p222027 o222043 f222020 f222163 F222167 fq222035 fq222036 fq222037 bo222043 ht222045 r222047 r222153 r222156 fq222157 he222019 ht222166 hfr222173 he222170 hT222174)⟩
  · have r222178 : 0 ≤ o222043.toInt := gj_nlt hc222046 (show Int32.toInt 0 = 0 by decide)
    have bo222043' : gB o222043 0 1999 := ⟨by omega, by omega⟩
    refine G_aload_n 1 dr_cX17_back_10 rfl ?_
    have fq222179 : fR (F221966 q221967) 2 = (γ 9 2) := by rw [he221972]; rfl
    refine Gp_get 2 hm221971 he221972 dr_cX17_back_11 (gk_X17 D I) (Nat.le_of_ble_eq_true rfl) wr_7_76 rfl ?_
    refine G_iload_n 0 dr_cX17_back_14 rfl ?_
    refine Gw_callS (As := [.ref (γ 9 2), .int o222043]) (gV_ok D I) (cp_221860_SpillForgeModel_clear l hl0 D I P221965 F221966 (γ 9 2) o222043 f222020 hm222018 he222019 bo222043' wf222020) dr_cX17_back_15 ⟨wr_10_185, wr_1_14, wr_10_187, by decide, rfl, (Nat.le_of_ble_eq_true rfl), (Nat.le_of_ble_eq_true rfl)⟩ wr_10_186 (show 0 + 0 ≤ 0 by first | omega | decide) (show 0 + 0 ≤ 0 by first | omega | decide) (Nat.le_of_ble_eq_true rfl) (fun r222183 w222184 dc222180 ds222181 hp222182 => ?_) (fun _ _ _ _ _ z => z.elim)
    obtain ⟨F222189, f222185, rfl, rfl, hfr222191, he222192, hdc, hds, x222186, x222187, ht222188⟩ := hp222182
    have he222193 : F222189 q221967 = .inr (22, [.ref (γ 9 0), .ref (γ 9 1), .ref (γ 9 2), .ref (γ 9 3), .ref (γ 9 4), .ref (γ 9 5), .ref (γ 9 6), .ref (γ 9 7), .ref (γ 9 8), .int p221975, .int p221976, .int p221977, .int p221978, .int p221979, .int p221980, .ref (γ 9 15), .ref (γ 9 16), .ref (γ 9 17), .ref (γ 9 18), .ref (γ 9 19), .ref (γ 9 20), .ref (γ 9 21), .ref (γ 9 22), .int p221981, .int p221982, .int p221983, .int p221984, .int p221985, .ref q221973, .ref (γ 9 29), .int p221986, .ref (γ 9 31), .int p221987, .int p221988, .int p221989, .ref q221974]) := (hfr222191 q221967 hm221971 (nm_c (rn_oa he221972 he222019) nm_n)).trans he221972
    have he222194 : F222189 q221968 = .inr (20, [.int p222023, .int p222024, .int p222025, .int p222026, .int p222027, .int p222028, .int p222029]) := (hfr222191 q221968 hm222021 (nm_c (rn_oa he222022 he222019) nm_n)).trans he222022
    have hfr222195 : rFr [(γ 9 2)] P221965 F221966 F222189 := rFr_call (rSub_rf (P := P221965)) (rFr_rf (W := []) (P := P221965) (F := F221966)) hfr222191 (fun b hb hn => ⟨nm_n, (nm_c (fun e => hn (e ▸ List.mem_cons_self)) nm_n)⟩)
    change G _ _ _ _ _ _ _ _ _ _ _
    refine G_widen (cs' := 0) (sl' := 0) (by omega) (by omega) ?_
    have hT222196 : RS D I P221965 F222189 γ el := RS_fr hT hfr222195 ht221994 (by decide) ⟨f222185, he222192, x222186⟩
    have hs222197 : rStr γ [] F221966 F222189 := rStr_fr hT (rStr_rf (γ := γ) (W := []) (F := F221966)) hfr222195 ht221994 (by decide)
    have lv222198 : rLv γ F221966 F222189 := rLv_fr hT ht221992 (rLv_rf (γ := γ) (F := F221966)) hfr222195 ht221994 (by decide)
    have kp222199 : F222189 q221967 = F221966 q221967 := hfr222195 q221967 (RS_m hT htq221967 (by decide)) (nm_c (rn_ty htq221967 ht221994 (by decide)) nm_n)
    refine G_iload_n 3 dr_cX17_back_18 rfl ?_
    refine G_if_eq 43 dr_cX17_back_19 (by decide +kernel) (fun hc222200 => ?_) (fun hc222200 => ?_)
    · have r222201 : p221969.toInt = 0 := gj_eq hc222200 (show Int32.toInt 0 = 0 by decide)
      have bp221969' : gB p221969 0 0 := ⟨by omega, by omega⟩
      refine G_aload_n 2 dr_cX17_back_43 rfl ?_
      have fq222202 : fI (F222189 q221968) 0 = p222023 := by rw [he222194]; rfl
      have fq222203 : fI (F222189 q221968) 5 = p222028 := by rw [he222194]; rfl
      refine Gw_callV (As := []) (gV_ok D I) (cp_221885_Row_usesA l hl0 D I P221965 F222189 q221968 p222023 p222024 p222025 p222026 p222027 p222028 p222029 hm222021 he222194 bp222023 bp222024 bp222027 bp222028 bp222029) dr_cX17_back_44 ⟨wr_10_192, wr_1_39, wr_10_195, by decide, rfl, (Nat.le_of_ble_eq_true rfl), (Nat.le_of_ble_eq_true rfl)⟩ wr_10_193 wr_10_194 hm222021 he222194 rfl (show 0 + 0 ≤ 0 by first | omega | decide) (show 0 + 0 ≤ 0 by first | omega | decide) (Nat.le_of_ble_eq_true rfl) (fun r222207 w222208 dc222204 ds222205 hp222206 => ?_) (fun _ _ _ _ _ z => z.elim)
      obtain ⟨o222209, rfl, rfl, hdc, hds, bo222209, x222210, ht222211⟩ := hp222206
      change G _ _ _ _ _ _ _ (.int o222209 :: _) _ _ _
      refine G_widen (cs' := 0) (sl' := 0) (by omega) (by omega) ?_
      refine G_if_eq 61 dr_cX17_back_47 (by decide +kernel) (fun hc222212 => ?_) (fun hc222212 => ?_)
      · have r222213 : o222209.toInt = 0 := gj_eq hc222212 (show Int32.toInt 0 = 0 by decide)
        have bo222209' : gB o222209 0 0 := ⟨by omega, by omega⟩
        refine G_aload_n 2 dr_cX17_back_61 rfl ?_
        have fq222214 : fI (F222189 q221968) 6 = p222029 := by rw [he222194]; rfl
        refine Gw_callV (As := []) (gV_ok D I) (cp_221909_Row_usesB l hl0 D I P221965 F222189 q221968 p222023 p222024 p222025 p222026 p222027 p222028 p222029 hm222021 he222194 bp222023 bp222024 bp222027 bp222028 bp222029) dr_cX17_back_62 ⟨wr_10_196, wr_1_39, wr_10_199, by decide, rfl, (Nat.le_of_ble_eq_true rfl), (Nat.le_of_ble_eq_true rfl)⟩ wr_10_197 wr_10_198 hm222021 he222194 rfl (show 0 + 0 ≤ 0 by first | omega | decide) (show 0 + 0 ≤ 0 by first | omega | decide) (Nat.le_of_ble_eq_true rfl) (fun r222218 w222219 dc222215 ds222216 hp222217 => ?_) (fun _ _ _ _ _ z => z.elim)
        obtain ⟨o222220, rfl, rfl, hdc, hds, bo222220, x222221, ht222222⟩ := hp222217
        change G _ _ _ _ _ _ _ (.int o222220 :: _) _ _ _
        refine G_widen (cs' := 0) (sl' := 0) (by omega) (by omega) ?_
        refine G_if_eq 79 dr_cX17_back_65 (by decide +kernel) (fun hc222223 => ?_) (fun hc222223 => ?_)
        · have r222224 : o222220.toInt = 0 := gj_eq hc222223 (show Int32.toInt 0 = 0 by decide)
          have bo222220' : gB o222220 0 0 := ⟨by omega, by omega⟩
          exact G_vretA dr_cX17_back_79 rfl (Nat.le_of_ble_eq_true rfl) (Nat.le_of_ble_eq_true rfl) ⟨F222189, rfl, rfl, hT222196, hs222197, (Nat.le_of_ble_eq_true rfl), (Nat.le_of_ble_eq_true rfl), (fun k => by rw [cL_of he222192, cL_of he222019, bkS_of he222022, (decide_eq_false (show ¬ (p221969.toInt = 1) by omega))]; exact bk_n true false false (decide_eq_true (show (p222023.toInt ≤ 21) by omega)) (decide_eq_false (show ¬ (p222023.toInt ≠ 20 ∧ p222023.toInt ≠ 21 ∧ p222023.toInt ≠ 30 ∧ p222028.toInt = 1) by omega)) (decide_eq_false (show ¬ (0 < p222023.toInt ∧ p222023.toInt < 20 ∧ p222029.toInt = 1) by omega)) (by rw [x222187 k, show o222043.toInt = p222024.toInt by omega]; simp)), lv222198, kp222199, (fun R c1 c2 c3 c4 c5 c6 c7 c8 c9 c10 c11 c12 => c7 p222023 p222024 p222027 o222043 f222020 f222185 F222189 p222028 o222209 p222029 o222220 fq222035 fq222036 fq222037 bo222043 ht222045 r222178 fq222179 he222019 ht222188 hfr222195 he222192 hT222196 r222201 fq222202 fq222203 bo222209 ht222211 r222213 fq222214 bo222220 ht222222 r222224)⟩
        · have r222225 : o222220.toInt ≠ 0 := gj_neq hc222223 (show Int32.toInt 0 = 0 by decide)
          have bo222220' : gB o222220 1 1 := ⟨by omega, by omega⟩
          refine G_aload_n 1 dr_cX17_back_68 rfl ?_
          have fq222226 : fR (F222189 q221967) 2 = (γ 9 2) := by rw [he222193]; rfl
          refine Gp_get 2 hm221971 he222193 dr_cX17_back_69 (gk_X17 D I) (Nat.le_of_ble_eq_true rfl) wr_7_76 rfl ?_
          refine G_aload_n 2 dr_cX17_back_72 rfl ?_
          have fq222227 : fI (F222189 q221968) 3 = p222026 := by rw [he222194]; rfl
          refine Gp_get 3 hm222021 he222194 dr_cX17_back_73 (gk_X15 D I) (Nat.le_of_ble_eq_true rfl) wr_9_190 rfl ?_
          refine Gw_callS (As := [.ref (γ 9 2), .int p222026]) (gV_ok D I) (cp_221840_SpillForgeModel_set l hl0 D I P221965 F222189 (γ 9 2) p222026 f222185 hm222018 he222192 ⟨by omega, by omega⟩ x222186) dr_cX17_back_76 ⟨wr_10_189, wr_1_14, wr_10_191, by decide, rfl, (Nat.le_of_ble_eq_true rfl), (Nat.le_of_ble_eq_true rfl)⟩ wr_10_190 (show 0 + 0 ≤ 0 by first | omega | decide) (show 0 + 0 ≤ 0 by first | omega | decide) (Nat.le_of_ble_eq_true rfl) (fun r222231 w222232 dc222228 ds222229 hp222230 => ?_) (fun _ _ _ _ _ z => z.elim)
          obtain ⟨F222237, f222233, rfl, rfl, hfr222239, he222240, hdc, hds, x222234, x222235, ht222236⟩ := hp222230
          have he222241 : F222237 q221967 = .inr (22, [.ref (γ 9 0), .ref (γ 9 1), .ref (γ 9 2), .ref (γ 9 3), .ref (γ 9 4), .ref (γ 9 5), .ref (γ 9 6), .ref (γ 9 7), .ref (γ 9 8), .int p221975, .int p221976, .int p221977, .int p221978, .int p221979, .int p221980, .ref (γ 9 15), .ref (γ 9 16), .ref (γ 9 17), .ref (γ 9 18), .ref (γ 9 19), .ref (γ 9 20), .ref (γ 9 21), .ref (γ 9 22), .int p221981, .int p221982, .int p221983, .int p221984, .int p221985, .ref q221973, .ref (γ 9 29), .int p221986, .ref (γ 9 31), .int p221987, .int p221988, .int p221989, .ref q221974]) := (hfr222239 q221967 hm221971 (nm_c (rn_oa he222193 he222192) nm_n)).trans he222193
          have he222242 : F222237 q221968 = .inr (20, [.int p222023, .int p222024, .int p222025, .int p222026, .int p222027, .int p222028, .int p222029]) := (hfr222239 q221968 hm222021 (nm_c (rn_oa he222194 he222192) nm_n)).trans he222194
          have hfr222243 : rFr [(γ 9 2)] P221965 F222189 F222237 := rFr_call (rSub_rf (P := P221965)) (rFr_rf (W := []) (P := P221965) (F := F222189)) hfr222239 (fun b hb hn => ⟨nm_n, (nm_c (fun e => hn (e ▸ List.mem_cons_self)) nm_n)⟩)
          change G _ _ _ _ _ _ _ _ _ _ _
          refine G_widen (cs' := 0) (sl' := 0) (by omega) (by omega) ?_
          have hT222244 : RS D I P221965 F222237 γ el := RS_fr hT222196 hfr222243 ht221994 (by decide) ⟨f222233, he222240, x222234⟩
          have hs222245 : rStr γ [] F221966 F222237 := rStr_fr hT222196 hs222197 hfr222243 ht221994 (by decide)
          have lv222246 : rLv γ F221966 F222237 := rLv_fr hT222196 ht221992 lv222198 hfr222243 ht221994 (by decide)
          have kp222247 : F222237 q221967 = F221966 q221967 := (hfr222243 q221967 (RS_m hT222196 htq221967 (by decide)) (nm_c (rn_ty htq221967 ht221994 (by decide)) nm_n)).trans kp222199
          exact G_vretA dr_cX17_back_79 rfl (Nat.le_of_ble_eq_true rfl) (Nat.le_of_ble_eq_true rfl) ⟨F222237, rfl, rfl, hT222244, hs222245, (Nat.le_of_ble_eq_true rfl), (Nat.le_of_ble_eq_true rfl), (fun k => by rw [cL_of he222240, cL_of he222019, bkS_of he222022, (decide_eq_false (show ¬ (p221969.toInt = 1) by omega))]; exact bk_n true false true (decide_eq_true (show (p222023.toInt ≤ 21) by omega)) (decide_eq_false (show ¬ (p222023.toInt ≠ 20 ∧ p222023.toInt ≠ 21 ∧ p222023.toInt ≠ 30 ∧ p222028.toInt = 1) by omega)) (decide_eq_true (show (0 < p222023.toInt ∧ p222023.toInt < 20 ∧ p222029.toInt = 1) by omega)) (by rw [x222235 k, x222187 k, show o222043.toInt = p222024.toInt by omega]; simp)), lv222246, kp222247, (fun R c1 c2 c3 c4 c5 c6 c7 c8 c9 c10 c11 c12 => c8 p222023 p222024 p222027 o222043 f222020 f222185 F222189 p222028 o222209 p222029 o222220 p222026 f222233 F222237 fq222035 fq222036 fq222037 bo222043 ht222045 r222178 fq222179 he222019 ht222188 hfr222195 he222192 hT222196 r222201 fq222202 fq222203 bo222209 ht222211 r222213 fq222214 bo222220 ht222222 r222225 fq222226 fq222227 he222192 ht222236 hfr222243 he222240 hT222244)⟩
      · have r222248 : o222209.toInt ≠ 0 := gj_neq hc222212 (show Int32.toInt 0 = 0 by decide)
        have bo222209' : gB o222209 1 1 := ⟨by omega, by omega⟩
        refine G_aload_n 1 dr_cX17_back_50 rfl ?_
        have fq222249 : fR (F222189 q221967) 2 = (γ 9 2) := by rw [he222193]; rfl
        refine Gp_get 2 hm221971 he222193 dr_cX17_back_51 (gk_X17 D I) (Nat.le_of_ble_eq_true rfl) wr_7_76 rfl ?_
        refine G_aload_n 2 dr_cX17_back_54 rfl ?_
        have fq222250 : fI (F222189 q221968) 2 = p222025 := by rw [he222194]; rfl
        refine Gp_get 2 hm222021 he222194 dr_cX17_back_55 (gk_X15 D I) (Nat.le_of_ble_eq_true rfl) wr_9_186 rfl ?_
        refine Gw_callS (As := [.ref (γ 9 2), .int p222025]) (gV_ok D I) (cp_221840_SpillForgeModel_set l hl0 D I P221965 F222189 (γ 9 2) p222025 f222185 hm222018 he222192 ⟨by omega, by omega⟩ x222186) dr_cX17_back_58 ⟨wr_10_189, wr_1_14, wr_10_191, by decide, rfl, (Nat.le_of_ble_eq_true rfl), (Nat.le_of_ble_eq_true rfl)⟩ wr_10_190 (show 0 + 0 ≤ 0 by first | omega | decide) (show 0 + 0 ≤ 0 by first | omega | decide) (Nat.le_of_ble_eq_true rfl) (fun r222254 w222255 dc222251 ds222252 hp222253 => ?_) (fun _ _ _ _ _ z => z.elim)
        obtain ⟨F222260, f222256, rfl, rfl, hfr222262, he222263, hdc, hds, x222257, x222258, ht222259⟩ := hp222253
        have he222264 : F222260 q221967 = .inr (22, [.ref (γ 9 0), .ref (γ 9 1), .ref (γ 9 2), .ref (γ 9 3), .ref (γ 9 4), .ref (γ 9 5), .ref (γ 9 6), .ref (γ 9 7), .ref (γ 9 8), .int p221975, .int p221976, .int p221977, .int p221978, .int p221979, .int p221980, .ref (γ 9 15), .ref (γ 9 16), .ref (γ 9 17), .ref (γ 9 18), .ref (γ 9 19), .ref (γ 9 20), .ref (γ 9 21), .ref (γ 9 22), .int p221981, .int p221982, .int p221983, .int p221984, .int p221985, .ref q221973, .ref (γ 9 29), .int p221986, .ref (γ 9 31), .int p221987, .int p221988, .int p221989, .ref q221974]) := (hfr222262 q221967 hm221971 (nm_c (rn_oa he222193 he222192) nm_n)).trans he222193
        have he222265 : F222260 q221968 = .inr (20, [.int p222023, .int p222024, .int p222025, .int p222026, .int p222027, .int p222028, .int p222029]) := (hfr222262 q221968 hm222021 (nm_c (rn_oa he222194 he222192) nm_n)).trans he222194
        have hfr222266 : rFr [(γ 9 2)] P221965 F222189 F222260 := rFr_call (rSub_rf (P := P221965)) (rFr_rf (W := []) (P := P221965) (F := F222189)) hfr222262 (fun b hb hn => ⟨nm_n, (nm_c (fun e => hn (e ▸ List.mem_cons_self)) nm_n)⟩)
        change G _ _ _ _ _ _ _ _ _ _ _
        refine G_widen (cs' := 0) (sl' := 0) (by omega) (by omega) ?_
        have hT222267 : RS D I P221965 F222260 γ el := RS_fr hT222196 hfr222266 ht221994 (by decide) ⟨f222256, he222263, x222257⟩
        have hs222268 : rStr γ [] F221966 F222260 := rStr_fr hT222196 hs222197 hfr222266 ht221994 (by decide)
        have lv222269 : rLv γ F221966 F222260 := rLv_fr hT222196 ht221992 lv222198 hfr222266 ht221994 (by decide)
        have kp222270 : F222260 q221967 = F221966 q221967 := (hfr222266 q221967 (RS_m hT222196 htq221967 (by decide)) (nm_c (rn_ty htq221967 ht221994 (by decide)) nm_n)).trans kp222199
        refine G_aload_n 2 dr_cX17_back_61 rfl ?_
        have fq222271 : fI (F222260 q221968) 0 = p222023 := by rw [he222265]; rfl
        have fq222272 : fI (F222260 q221968) 6 = p222029 := by rw [he222265]; rfl
        refine Gw_callV (As := []) (gV_ok D I) (cp_221909_Row_usesB l hl0 D I P221965 F222260 q221968 p222023 p222024 p222025 p222026 p222027 p222028 p222029 hm222021 he222265 bp222023 bp222024 bp222027 bp222028 bp222029) dr_cX17_back_62 ⟨wr_10_196, wr_1_39, wr_10_199, by decide, rfl, (Nat.le_of_ble_eq_true rfl), (Nat.le_of_ble_eq_true rfl)⟩ wr_10_197 wr_10_198 hm222021 he222265 rfl (show 0 + 0 ≤ 0 by first | omega | decide) (show 0 + 0 ≤ 0 by first | omega | decide) (Nat.le_of_ble_eq_true rfl) (fun r222276 w222277 dc222273 ds222274 hp222275 => ?_) (fun _ _ _ _ _ z => z.elim)
        obtain ⟨o222278, rfl, rfl, hdc, hds, bo222278, x222279, ht222280⟩ := hp222275
        change G _ _ _ _ _ _ _ (.int o222278 :: _) _ _ _
        refine G_widen (cs' := 0) (sl' := 0) (by omega) (by omega) ?_
        refine G_if_eq 79 dr_cX17_back_65 (by decide +kernel) (fun hc222281 => ?_) (fun hc222281 => ?_)
        · have r222282 : o222278.toInt = 0 := gj_eq hc222281 (show Int32.toInt 0 = 0 by decide)
          have bo222278' : gB o222278 0 0 := ⟨by omega, by omega⟩
          exact G_vretA dr_cX17_back_79 rfl (Nat.le_of_ble_eq_true rfl) (Nat.le_of_ble_eq_true rfl) ⟨F222260, rfl, rfl, hT222267, hs222268, (Nat.le_of_ble_eq_true rfl), (Nat.le_of_ble_eq_true rfl), (fun k => by rw [cL_of he222263, cL_of he222019, bkS_of he222022, (decide_eq_false (show ¬ (p221969.toInt = 1) by omega))]; exact bk_n true true false (decide_eq_true (show (p222023.toInt ≤ 21) by omega)) (decide_eq_true (show (p222023.toInt ≠ 20 ∧ p222023.toInt ≠ 21 ∧ p222023.toInt ≠ 30 ∧ p222028.toInt = 1) by omega)) (decide_eq_false (show ¬ (0 < p222023.toInt ∧ p222023.toInt < 20 ∧ p222029.toInt = 1) by omega)) (by rw [x222258 k, x222187 k, show o222043.toInt = p222024.toInt by omega]; simp)), lv222269, kp222270, (fun R c1 c2 c3 c4 c5 c6 c7 c8 c9 c10 c11 c12 => c9 p222023 p222024 p222027 o222043 f222020 f222185 F222189 p222028 o222209 p222025 f222256 F222260 p222029 o222278 fq222035 fq222036 fq222037 bo222043 ht222045 r222178 fq222179 he222019 ht222188 hfr222195 he222192 hT222196 r222201 fq222202 fq222203 bo222209 ht222211 r222248 fq222249 fq222250 he222192 ht222259 hfr222266 he222263 hT222267 fq222271 fq222272 bo222278 ht222280 r222282)⟩
        · have r222283 : o222278.toInt ≠ 0 := gj_neq hc222281 (show Int32.toInt 0 = 0 by decide)
          have bo222278' : gB o222278 1 1 := ⟨by omega, by omega⟩
          refine G_aload_n 1 dr_cX17_back_68 rfl ?_
          have fq222284 : fR (F222260 q221967) 2 = (γ 9 2) := by rw [he222264]; rfl
          refine Gp_get 2 hm221971 he222264 dr_cX17_back_69 (gk_X17 D I) (Nat.le_of_ble_eq_true rfl) wr_7_76 rfl ?_
          refine G_aload_n 2 dr_cX17_back_72 rfl ?_
          have fq222285 : fI (F222260 q221968) 3 = p222026 := by rw [he222265]; rfl
          refine Gp_get 3 hm222021 he222265 dr_cX17_back_73 (gk_X15 D I) (Nat.le_of_ble_eq_true rfl) wr_9_190 rfl ?_
          refine Gw_callS (As := [.ref (γ 9 2), .int p222026]) (gV_ok D I) (cp_221840_SpillForgeModel_set l hl0 D I P221965 F222260 (γ 9 2) p222026 f222256 hm222018 he222263 ⟨by omega, by omega⟩ x222257) dr_cX17_back_76 ⟨wr_10_189, wr_1_14, wr_10_191, by decide, rfl, (Nat.le_of_ble_eq_true rfl), (Nat.le_of_ble_eq_true rfl)⟩ wr_10_190 (show 0 + 0 ≤ 0 by first | omega | decide) (show 0 + 0 ≤ 0 by first | omega | decide) (Nat.le_of_ble_eq_true rfl) (fun r222289 w222290 dc222286 ds222287 hp222288 => ?_) (fun _ _ _ _ _ z => z.elim)
          obtain ⟨F222295, f222291, rfl, rfl, hfr222297, he222298, hdc, hds, x222292, x222293, ht222294⟩ := hp222288
          have he222299 : F222295 q221967 = .inr (22, [.ref (γ 9 0), .ref (γ 9 1), .ref (γ 9 2), .ref (γ 9 3), .ref (γ 9 4), .ref (γ 9 5), .ref (γ 9 6), .ref (γ 9 7), .ref (γ 9 8), .int p221975, .int p221976, .int p221977, .int p221978, .int p221979, .int p221980, .ref (γ 9 15), .ref (γ 9 16), .ref (γ 9 17), .ref (γ 9 18), .ref (γ 9 19), .ref (γ 9 20), .ref (γ 9 21), .ref (γ 9 22), .int p221981, .int p221982, .int p221983, .int p221984, .int p221985, .ref q221973, .ref (γ 9 29), .int p221986, .ref (γ 9 31), .int p221987, .int p221988, .int p221989, .ref q221974]) := (hfr222297 q221967 hm221971 (nm_c (rn_oa he222264 he222263) nm_n)).trans he222264
          have he222300 : F222295 q221968 = .inr (20, [.int p222023, .int p222024, .int p222025, .int p222026, .int p222027, .int p222028, .int p222029]) := (hfr222297 q221968 hm222021 (nm_c (rn_oa he222265 he222263) nm_n)).trans he222265
          have hfr222301 : rFr [(γ 9 2)] P221965 F222260 F222295 := rFr_call (rSub_rf (P := P221965)) (rFr_rf (W := []) (P := P221965) (F := F222260)) hfr222297 (fun b hb hn => ⟨nm_n, (nm_c (fun e => hn (e ▸ List.mem_cons_self)) nm_n)⟩)
          change G _ _ _ _ _ _ _ _ _ _ _
          refine G_widen (cs' := 0) (sl' := 0) (by omega) (by omega) ?_
          have hT222302 : RS D I P221965 F222295 γ el := RS_fr hT222267 hfr222301 ht221994 (by decide) ⟨f222291, he222298, x222292⟩
          have hs222303 : rStr γ [] F221966 F222295 := rStr_fr hT222267 hs222268 hfr222301 ht221994 (by decide)
          have lv222304 : rLv γ F221966 F222295 := rLv_fr hT222267 ht221992 lv222269 hfr222301 ht221994 (by decide)
          have kp222305 : F222295 q221967 = F221966 q221967 := (hfr222301 q221967 (RS_m hT222267 htq221967 (by decide)) (nm_c (rn_ty htq221967 ht221994 (by decide)) nm_n)).trans kp222270
          exact G_vretA dr_cX17_back_79 rfl (Nat.le_of_ble_eq_true rfl) (Nat.le_of_ble_eq_true rfl) ⟨F222295, rfl, rfl, hT222302, hs222303, (Nat.le_of_ble_eq_true rfl), (Nat.le_of_ble_eq_true rfl), (fun k => by rw [cL_of he222298, cL_of he222019, bkS_of he222022, (decide_eq_false (show ¬ (p221969.toInt = 1) by omega))]; exact bk_n true true true (decide_eq_true (show (p222023.toInt ≤ 21) by omega)) (decide_eq_true (show (p222023.toInt ≠ 20 ∧ p222023.toInt ≠ 21 ∧ p222023.toInt ≠ 30 ∧ p222028.toInt = 1) by omega)) (decide_eq_true (show (0 < p222023.toInt ∧ p222023.toInt < 20 ∧ p222029.toInt = 1) by omega)) (by rw [x222293 k, x222258 k, x222187 k, show o222043.toInt = p222024.toInt by omega]; simp)), lv222304, kp222305, (fun R c1 c2 c3 c4 c5 c6 c7 c8 c9 c10 c11 c12 => c10 p222023 p222024 p222027 o222043 f222020 f222185 F222189 p222028 o222209 p222025 f222256 F222260 p222029 o222278 p222026 f222291 F222295 fq222035 fq222036 fq222037 bo222043 ht222045 r222178 fq222179 he222019 ht222188 hfr222195 he222192 hT222196 r222201 fq222202 fq222203 bo222209 ht222211 r222248 fq222249 fq222250 he222192 ht222259 hfr222266 he222263 hT222267 fq222271 fq222272 bo222278 ht222280 r222283 fq222284 fq222285 he222263 ht222294 hfr222301 he222298 hT222302)⟩
    · have r222306 : p221969.toInt ≠ 0 := gj_neq hc222200 (show Int32.toInt 0 = 0 by decide)
      have bp221969' : gB p221969 1 1 := ⟨by omega, by omega⟩
      refine G_aload_n 2 dr_cX17_back_22 rfl ?_
      have fq222307 : fI (F222189 q221968) 0 = p222023 := by rw [he222194]; rfl
      refine Gp_get 0 hm222021 he222194 dr_cX17_back_23 (gk_X15 D I) (Nat.le_of_ble_eq_true rfl) wr_9_177 rfl ?_
      refine G_bipush 21 dr_cX17_back_26 (by decide +kernel) ?_
      refine G_icmp_ne 42 dr_cX17_back_28 (by decide +kernel) (fun hc222308 => ?_) (fun hc222308 => ?_)
      · have r222309 : p222023.toInt ≠ 21 := gj_neq hc222308 (show Int32.toInt 21 = 21 by decide)
        exact G_vretA dr_cX17_back_42 rfl (Nat.le_of_ble_eq_true rfl) (Nat.le_of_ble_eq_true rfl) ⟨F222189, rfl, rfl, hT222196, hs222197, (Nat.le_of_ble_eq_true rfl), (Nat.le_of_ble_eq_true rfl), (fun k => by rw [cL_of he222192, cL_of he222019, bkS_of he222022, (decide_eq_true (show (p221969.toInt = 1) by omega))]; exact bk_s true false (decide_eq_true (show (p222023.toInt = 23) by omega)) (decide_eq_false (show ¬ (p222023.toInt = 21) by omega)) (by rw [x222187 k, show o222043.toInt = p222027.toInt by omega]; simp)), lv222198, kp222199, (fun R c1 c2 c3 c4 c5 c6 c7 c8 c9 c10 c11 c12 => c11 p222023 p222024 p222027 o222043 f222020 f222185 F222189 fq222035 fq222036 fq222037 bo222043 ht222045 r222178 fq222179 he222019 ht222188 hfr222195 he222192 hT222196 r222306 fq222307 r222309)⟩
      · have r222310 : p222023.toInt = 21 := gj_eq hc222308 (show Int32.toInt 21 = 21 by decide)
        have bp222023' : gB p222023 21 21 := ⟨by omega, by omega⟩
        refine G_aload_n 1 dr_cX17_back_31 rfl ?_
        have fq222311 : fR (F222189 q221967) 2 = (γ 9 2) := by rw [he222193]; rfl
        refine Gp_get 2 hm221971 he222193 dr_cX17_back_32 (gk_X17 D I) (Nat.le_of_ble_eq_true rfl) wr_7_76 rfl ?_
        refine G_aload_n 2 dr_cX17_back_35 rfl ?_
        have fq222312 : fI (F222189 q221968) 4 = p222027 := by rw [he222194]; rfl
        refine Gp_get 4 hm222021 he222194 dr_cX17_back_36 (gk_X15 D I) (Nat.le_of_ble_eq_true rfl) wr_9_193 rfl ?_
        refine Gw_callS (As := [.ref (γ 9 2), .int p222027]) (gV_ok D I) (cp_221840_SpillForgeModel_set l hl0 D I P221965 F222189 (γ 9 2) p222027 f222185 hm222018 he222192 bp222027 x222186) dr_cX17_back_39 ⟨wr_10_189, wr_1_14, wr_10_191, by decide, rfl, (Nat.le_of_ble_eq_true rfl), (Nat.le_of_ble_eq_true rfl)⟩ wr_10_190 (show 0 + 0 ≤ 0 by first | omega | decide) (show 0 + 0 ≤ 0 by first | omega | decide) (Nat.le_of_ble_eq_true rfl) (fun r222316 w222317 dc222313 ds222314 hp222315 => ?_) (fun _ _ _ _ _ z => z.elim)
        obtain ⟨F222322, f222318, rfl, rfl, hfr222324, he222325, hdc, hds, x222319, x222320, ht222321⟩ := hp222315
        have he222326 : F222322 q221967 = .inr (22, [.ref (γ 9 0), .ref (γ 9 1), .ref (γ 9 2), .ref (γ 9 3), .ref (γ 9 4), .ref (γ 9 5), .ref (γ 9 6), .ref (γ 9 7), .ref (γ 9 8), .int p221975, .int p221976, .int p221977, .int p221978, .int p221979, .int p221980, .ref (γ 9 15), .ref (γ 9 16), .ref (γ 9 17), .ref (γ 9 18), .ref (γ 9 19), .ref (γ 9 20), .ref (γ 9 21), .ref (γ 9 22), .int p221981, .int p221982, .int p221983, .int p221984, .int p221985, .ref q221973, .ref (γ 9 29), .int p221986, .ref (γ 9 31), .int p221987, .int p221988, .int p221989, .ref q221974]) := (hfr222324 q221967 hm221971 (nm_c (rn_oa he222193 he222192) nm_n)).trans he222193
        have he222327 : F222322 q221968 = .inr (20, [.int p222023, .int p222024, .int p222025, .int p222026, .int p222027, .int p222028, .int p222029]) := (hfr222324 q221968 hm222021 (nm_c (rn_oa he222194 he222192) nm_n)).trans he222194
        have hfr222328 : rFr [(γ 9 2)] P221965 F222189 F222322 := rFr_call (rSub_rf (P := P221965)) (rFr_rf (W := []) (P := P221965) (F := F222189)) hfr222324 (fun b hb hn => ⟨nm_n, (nm_c (fun e => hn (e ▸ List.mem_cons_self)) nm_n)⟩)
        change G _ _ _ _ _ _ _ _ _ _ _
        refine G_widen (cs' := 0) (sl' := 0) (by omega) (by omega) ?_
        have hT222329 : RS D I P221965 F222322 γ el := RS_fr hT222196 hfr222328 ht221994 (by decide) ⟨f222318, he222325, x222319⟩
        have hs222330 : rStr γ [] F221966 F222322 := rStr_fr hT222196 hs222197 hfr222328 ht221994 (by decide)
        have lv222331 : rLv γ F221966 F222322 := rLv_fr hT222196 ht221992 lv222198 hfr222328 ht221994 (by decide)
        have kp222332 : F222322 q221967 = F221966 q221967 := (hfr222328 q221967 (RS_m hT222196 htq221967 (by decide)) (nm_c (rn_ty htq221967 ht221994 (by decide)) nm_n)).trans kp222199
        exact G_vretA dr_cX17_back_42 rfl (Nat.le_of_ble_eq_true rfl) (Nat.le_of_ble_eq_true rfl) ⟨F222322, rfl, rfl, hT222329, hs222330, (Nat.le_of_ble_eq_true rfl), (Nat.le_of_ble_eq_true rfl), (fun k => by rw [cL_of he222325, cL_of he222019, bkS_of he222022, (decide_eq_true (show (p221969.toInt = 1) by omega))]; exact bk_s true true (decide_eq_true (show (p222023.toInt = 23) by omega)) (decide_eq_true (show (p222023.toInt = 21) by omega)) (by rw [x222320 k, x222187 k, show o222043.toInt = p222027.toInt by omega]; simp)), lv222331, kp222332, (fun R c1 c2 c3 c4 c5 c6 c7 c8 c9 c10 c11 c12 => c12 p222023 p222024 p222027 o222043 f222020 f222185 F222189 f222318 F222322 fq222035 fq222036 fq222037 bo222043 ht222045 r222178 fq222179 he222019 ht222188 hfr222195 he222192 hT222196 r222306 fq222307 r222310 fq222311 fq222312 he222192 ht222321 hfr222328 he222325 hT222329)⟩
/- tr_RBlock_ways2: result -/
def tr_RBlock_ways2 (a0_first : Int32) (a0_second : Int32) (a0_end_op : Int32) (o1 : Int32) : Prop := ∀ R : (Int32) → Prop,
  (a0_end_op.toInt ≠ 32 → a0_end_op.toInt = 30 → R (1 : Int32)) →
  (a0_end_op.toInt ≠ 32 → a0_end_op.toInt ≠ 30 → a0_first.toInt ≠ a0_second.toInt → R (2 : Int32)) →
  (a0_end_op.toInt ≠ 32 → a0_end_op.toInt ≠ 30 → a0_first.toInt = a0_second.toInt → R (1 : Int32)) →
  (a0_end_op.toInt = 32 → R (0 : Int32)) →
  R o1
