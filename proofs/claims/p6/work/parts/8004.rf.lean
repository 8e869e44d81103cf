abbrev ky_409800_SpillForgeModel_load : gKey := (cX17_load, 6, "SpillForgeModel", (some FieldType.int), [], "load", fun _ _ => True)
def pg_409800_SpillForgeModel_load (D : va_G) (I : FieldType → ClassId) (γ0 el0 : Nat → Nat → Nat) (f : Nat) (B : Nat) (P409787 : List Nat) (F409788 : Nat → va_E) (q409789 : Nat) (q409790 : Nat) (q409791 : Nat) (p409792 : Int32) (p409793 : Int32) (jx409794 : Nat) : Option Value → va_W → Nat → Nat → Prop := fun r w dc ds => ∃ (P410161 : List Nat) (F410162 : Nat → va_E) (γ el : Nat → Nat → Nat) (o410160 : Int32), r = some (.int o410160) ∧ w = va_pl P410161 F410162 ∧ rSk f [101] ([3, 5, 6, 8, 9, 10, 101]) D I P409787 F409788 γ0 el0 P410161 F410162 γ el ∧ (18 * dc + rPh γ0 el0 f ≤ rPh γ el f ∧ ds + rPh γ0 el0 f ≤ rPh γ el f) ∧ rBd γ el f B ∧ gB o410160 (-1) 1999 ∧ γ 6 f = γ0 6 f ∧ γ 7 f = γ0 7 f ∧ γ 18 f = γ0 18 f ∧ (γ 14 q409791 = γ0 14 q409791 ∧ jx409794 < γ 2 (γ 14 q409790) ∧ el (γ 14 q409790) jx409794 = q409791) ∧ (o410160.toInt < 0 ∨ (o410160.toInt = (fI (F409788 q409789) 14).toInt ∧ o410160.toInt < 2000 ∧ (fI (F410162 q409789) 14).toInt = o410160.toInt + 1 ∧ γ 16 f = γ0 16 f + 1 ∧ γ 2 (γ 14 q409791) = γ0 2 (γ0 14 q409791) + 1)) ∧ (fI (F410162 q409789) 11).toInt = (fI (F409788 q409789) 11).toInt ∧ (o410160.toInt < 0 ∨ rInsP γ0 el0 F409788 γ el F410162 q409790 f jx409794 (p409792.toInt : Int).toNat (o410160.toInt : Int).toNat) ∧ (o410160.toInt < 0 ∨ ∀ j : Nat, (p409792.toInt : Int).toNat ≤ j → rAt γ el q409790 jx409794 (j + 1) = rAt γ0 el0 q409790 jx409794 j) ∧ mKp (F409788 q409789) (F410162 q409789) ∧ tr_RModel_load D I γ0 el0 f P409787 F409788 q409789 q409790 q409791 p409792 p409793 o410160 P410161 F410162 γ el
set_option maxRecDepth 100000 in
set_option maxHeartbeats 1500000 in
theorem cg_409800_SpillForgeModel_load (l : Launch) (hl0 : l.stackTraces = false) (D : va_G) (I : FieldType → ClassId) (γ0 el0 : Nat → Nat → Nat) (f : Nat) (B : Nat) (P409787 : List Nat) (F409788 : Nat → va_E) (q409789 : Nat) (q409790 : Nat) (q409791 : Nat) (p409792 : Int32) (p409793 : Int32) (jx409794 : Nat) (hT0 : RS D I P409787 F409788 γ0 el0) (hzq409789 : rKd γ0 q409789 10) (hzq409790 : rKd γ0 q409790 9) (hzq409791 : rKd γ0 q409791 2) (hf0 : γ0 1 q409790 = f) (hB0 : rBd γ0 el0 f B) (hBk : B ≤ 100000) (hqjjx409794 : jx409794 < γ0 2 (γ0 14 q409790)) (hqejx409794 : el0 (γ0 14 q409790) jx409794 = q409791) (hqfjx409794 : γ0 1 q409791 = f) (bp409792 : gB p409792 0 1000000) (bp409793 : gB p409793 0 1999) (x409795 : p409792.toInt ≤ γ0 2 (γ0 14 q409791)) (x409796 : p409793.toInt < γ0 7 f) (x409797 : γ0 16 f + 1 ≤ B) (x409798 : 0 < γ0 6 f) (x409799 : jx409794 < γ0 6 f) : CtA (gV D I) l yX17_load cX17_load 6 (some FieldType.int) 8 170 (((387 * B + 6000) - rPh γ0 el0 f) / 18) ((387 * B + 6000) - rPh γ0 el0 f) [.ref q409789, .ref q409790, .ref q409791, .int p409792, .int p409793] (va_pl P409787 F409788) (pg_409800_SpillForgeModel_load D I γ0 el0 f B P409787 F409788 q409789 q409790 q409791 p409792 p409793 jx409794) gNA := by
  refine CtA_of hl0 (by decide) (Nat.le_of_ble_eq_true rfl) ?_
  obtain ⟨gm_0, hγ0⟩ : ∃ z, z = γ0 := ⟨_, rfl⟩
  obtain ⟨el_0, hel0⟩ : ∃ z, z = el0 := ⟨_, rfl⟩
  have hT : RS D I P409787 F409788 gm_0 el_0 := by rw [hγ0, hel0]; exact hT0
  have hst : rSk f [101] ([3, 5, 6, 8, 9, 10, 101]) D I P409787 F409788 γ0 el0 P409787 F409788 gm_0 el_0 := by rw [hγ0, hel0]; exact rSk_rf hT0
  have hph : rPh γ0 el0 f ≤ rPh gm_0 el_0 f := by rw [hγ0, hel0]; exact Nat.le_refl _
  have hB : rBd gm_0 el_0 f B := by rw [hγ0, hel0]; exact hB0
  have htq409789 : rKd gm_0 q409789 10 := by rw [hγ0]; exact hzq409789
  have htq409790 : rKd gm_0 q409790 9 := by rw [hγ0]; exact hzq409790
  have htq409791 : rKd gm_0 q409791 2 := by rw [hγ0]; exact hzq409791
  have hf1 : gm_0 1 q409790 = f := by rw [hγ0]; exact hf0
  have hpjjx409794 : jx409794 < gm_0 2 (gm_0 14 q409790) := by rw [hγ0]; exact hqjjx409794
  have hpejx409794 : el_0 (gm_0 14 q409790) jx409794 = q409791 := by rw [hγ0, hel0]; exact hqejx409794
  have hpfjx409794 : gm_0 1 q409791 = f := by rw [hγ0]; exact hqfjx409794
  have x409795n : p409792.toInt ≤ gm_0 2 (gm_0 14 q409791) := by rw [hγ0]; exact x409795
  have x409796n : p409793.toInt < gm_0 7 f := by rw [hγ0]; exact x409796
  have x409797n : gm_0 16 f + 1 ≤ B := by rw [hγ0]; exact x409797
  have x409798n : 0 < gm_0 6 f := by rw [hγ0]; exact x409798
  have x409799n : jx409794 < gm_0 6 f := by rw [hγ0]; exact x409799
  have pk409801 : rPh gm_0 el_0 f ≤ 387 * B + 6000 := rm_pk (rM_ge hT htq409790 hf1).1 (rM_bd hB)
  refine G_widen (cs' := ((rPh gm_0 el_0 f - rPh γ0 el0 f) / 18)) (sl' := (rPh gm_0 el_0 f - rPh γ0 el0 f)) (Nat.zero_le _) (Nat.zero_le _) ?_
  have r409802 : 0 < gm_0 6 (gm_0 1 q409790) := by rw [hf1]; omega
  have lz0 : Int32.toInt 0 = 0 := by decide
  have r409803 : gm_0 6 f = γ0 6 f := by rw [hγ0]
  have r409804 : gm_0 7 f = γ0 7 f := by rw [hγ0]
  have r409805 : gm_0 16 f = γ0 16 f := by rw [hγ0]
  have r409806 : gm_0 18 f = γ0 18 f := by rw [hγ0]
  have r409807 : gm_0 19 f = γ0 19 f := by rw [hγ0]
  have sz409808 : gm_0 2 (gm_0 14 q409791) = γ0 2 (γ0 14 q409791) := by rw [hγ0]
  have hm409809 : q409789 ∈ P409787 := RS_m hT htq409789 (by decide)
  obtain ⟨q409811, q409812, p409813, p409814, p409815, p409816, p409817, p409818, p409819, p409820, p409821, p409822, p409823, p409824, p409825, p409826, p409827, he409810, hB409854, ht409828, ht409829, ht409830, ht409831, ht409832, ht409833, ht409834, ht409835, ht409836, ht409837, ht409838, ht409839, ht409840, ht409841, ht409842, ht409843, ht409844, ht409845, ht409846, ht409847, ht409848, ht409849, ht409850, ht409851, hB409855⟩ := show rk_10 gm_0 (F409788 q409789) from RS_o hT htq409789
  have ac0_11 : (fI (F409788 q409789) 11).toInt = p409815.toInt := by rw [he409810]; rfl
  have ac0_14 : (fI (F409788 q409789) 14).toInt = p409818.toInt := by rw [he409810]; rfl
  have bp409815 : gB p409815 0 100 := (hB409854.2.2.1)
  have bp409818 : gB p409818 0 2000 := (hB409854.2.2.2.1)
  refine G_aload_n 0 dr_cX17_load_0 rfl ?_
  have fq409856 : fI (F409788 q409789) 14 = p409818 := by rw [he409810]; rfl
  refine Gp_get 14 hm409809 he409810 dr_cX17_load_1 (gk_X17 D I) (Nat.le_of_ble_eq_true rfl) wr_7_88 rfl ?_
  refine G_sipush 2000 dr_cX17_load_4 (by decide +kernel) ?_
  refine G_icmp_ne 12 dr_cX17_load_7 (by decide +kernel) (fun hc409857 => ?_) (fun hc409857 => ?_)
  · have r409858 : p409818.toInt ≠ 2000 := gj_neq hc409857 (show Int32.toInt 2000 = 2000 by decide)
    have bp409818' : gB p409818 0 1999 := ⟨by omega, by omega⟩
    refine G_aload_n 1 dr_cX17_load_12 rfl ?_
    have rg409859 := rM_ge hT htq409790 hf1
    have rm409860 := rM_bd hB
    have bd409861 := rBd_c hT htq409790 hf1 hB
    have rc409862 := rc_at hT htq409790 hf1
    obtain ⟨q409869, hl409870⟩ : ∃ z, z = gm_0 14 q409791 := ⟨_, rfl⟩
    have hl409871 : gm_0 0 q409869 = 3 ∨ gm_0 0 q409869 = 103 := by rw [hl409870, ← hpejx409794]; exact (RS_lst hT rc409862.2.1 hpjjx409794).1
    refine Gt_row (c := q409790) (f := f) hl0 dr_cX17_load_13 ⟨wr_10_206, wr_1_15, wr_10_82, by decide, rfl, (Nat.le_of_ble_eq_true rfl), (Nat.le_of_ble_eq_true rfl)⟩ wr_10_80 wr_10_81 hT htq409790 hf1 (Nat.le_trans bd409861.2.2.1 (Nat.le_trans hBk (by decide))) (rm_cs hph rg409859.2.1 rm409860 (by decide)) (rm_sl hph rg409859.2.1 rm409860 rm_s18) (Nat.le_of_ble_eq_true rfl) (fun P409863 F409864 gm_F409864 el_F409864 q409865 dc409866 ds409867 hq409868 => ?_)
    have hq409872 := hq409868
    have ar409874 := fun j => rAt_row hT htq409790 hf1 hq409868 (show jx409794 < _ by omega) j
    rw [hγ0, hel0] at ar409874
    have pr409873 := fun (R : Nat → Nat → va_E → Prop) hN => rPl_row (R := R) hT htq409790 hf1 hq409868 hN
    rw [hγ0, hel0] at pr409873
    obtain ⟨hk409875, x0409876, x1409877, x22409878, x8409879, h16409880, h18409881, hnu409882, hot409883, h45409884, hf0409885, ⟨hr1409886, hr2409887⟩, hM409888, hBB409889⟩ := hq409868
    have hk409890 := rSk_of hk409875
    obtain ⟨nu409891, nu409892, nu409893, nu409894⟩ := hnu409882
    have hT409895 := hk409890.1
    have hs409896 := rSk_tr hst hk409890 (by decide) (by decide) (by decide)
    have r409897 := rSk_F hk409890 htq409789 (by decide) (by decide)
    have ht409898 : rKd gm_F409864 q409789 10 := rSk_k hk409890 htq409789 (by decide) (by decide)
    have ht409899 : rKd gm_F409864 q409790 9 := rSk_k hk409890 htq409790 (by decide) (by decide)
    have hf409900 : gm_F409864 1 q409790 = f := rSk_1 hk409890 htq409790 (by decide) hf1
    have ht409901 : rKd gm_F409864 q409791 2 := rSk_k hk409890 htq409791 (by decide) (by decide)
    have hf409902 : gm_F409864 1 q409791 = f := rSk_1 hk409890 htq409791 (by decide) hpfjx409794
    have mk409903 : mKp (F409788 q409789) (F409864 q409789) := mKp_tr mKp_rf (mKp_eq (rSk_F hk409890 htq409789 (by decide) (by decide)))
    have r409904 := (rSk_s hk409890 htq409790 (by decide)).2.1
    have r409905 := hot409883 _ (by rw [rc409862.2.1]; decide) (by rw [rc409862.2.1]; decide)
    have r409906 : jx409794 < gm_F409864 2 (gm_F409864 14 q409790) := by rw [r409904, r409905.1]; exact hpjjx409794
    have r409907 : el_F409864 (gm_F409864 14 q409790) jx409794 = q409791 := by rw [r409904, r409905.2]; exact hpejx409794
    clear rg409859 rm409860 bd409861 rc409862
    have r409908 : 0 < gm_F409864 6 (gm_F409864 1 q409790) := by rw [hf409900]; omega
    have hm409909 : q409789 ∈ P409863 := RS_m hT409895 ht409898 (by decide)
    obtain ⟨q409911, q409912, p409913, p409914, p409915, p409916, p409917, p409918, p409919, p409920, p409921, p409922, p409923, p409924, p409925, p409926, p409927, he409910, hB409954, ht409928, ht409929, ht409930, ht409931, ht409932, ht409933, ht409934, ht409935, ht409936, ht409937, ht409938, ht409939, ht409940, ht409941, ht409942, ht409943, ht409944, ht409945, ht409946, ht409947, ht409948, ht409949, ht409950, ht409951, hB409955⟩ := show rk_10 gm_F409864 (F409864 q409789) from RS_o hT409895 ht409898
    have r409956 : p409915.toInt = p409815.toInt := by have z : p409915 = p409815 := congrArg (fun e => fI e 11) (he409910.symm.trans (r409897.trans he409810)); rw [z]
    have bp409915 : gB p409915 0 100 := (hB409954.2.2.1)
    have r409957 : p409918.toInt = p409818.toInt := by have z : p409918 = p409818 := congrArg (fun e => fI e 14) (he409910.symm.trans (r409897.trans he409810)); rw [z]
    have bp409918 : gB p409918 0 2000 := (hB409954.2.2.2.1)
    have bp409918' : gB p409918 0 1999 := ⟨by omega, by omega⟩
    have sz409958 := (rSk_s hk409890 htq409791 (by decide)).2.1
    have sz409959 := congrArg (gm_F409864 2) sz409958
    have sz409960 := (hot409883 q409869 (by omega) (by omega)).1
    rw [hl409870] at sz409960
    clear hl409871
    have r409961 := hf0409885.2.2
    have hB409962 : rBd gm_F409864 el_F409864 f B := hBB409889 B (by omega) hB
    have ht409963 : rKd gm_F409864 q409865 101 := x0409876
    have r409964 : gm_F409864 8 q409865 < gm_F409864 16 f := rm_x8 x8409879 h16409880 rfl
    have hph409965 : rPh γ0 el0 f ≤ rPh gm_F409864 el_F409864 f := rm_ph hph hr2409887
    have pk409966 : rPh gm_F409864 el_F409864 f ≤ 387 * B + 6000 := rm_pk (rM_ge hT409895 ht409899 hf409900).1 (rM_bd hB409962)
    have hm409967 : q409865 ∈ P409863 := RS_m hT409895 ht409963 (by decide)
    obtain ⟨p409969, p409970, p409971, p409972, p409973, p409974, p409975, he409968, bp409969, bp409970, bp409973, bp409974, bp409975, r409976, r409977, r409978⟩ := show rkR (F409864 q409865) from RS_o hT409895 ht409963
    have bp409971 := gB_any p409971
    have bp409972 := gB_any p409972
    have r409979 : gm_F409864 7 (gm_F409864 1 q409865) = gm_F409864 7 f := by rw [x1409877]
    have r409980 : p409974.toInt = 0 := by have z := hf0409885.1; rw [he409968] at z; exact z
    have bp409974' : gB p409974 0 0 := ⟨by omega, by omega⟩
    have r409981 : p409975.toInt = 0 := by have z := hf0409885.2.1; rw [he409968] at z; exact z
    have bp409975' : gB p409975 0 0 := ⟨by omega, by omega⟩
    refine G_widen (cs' := ((rPh gm_F409864 el_F409864 f - rPh γ0 el0 f) / 18)) (sl' := (rPh gm_F409864 el_F409864 f - rPh γ0 el0 f)) (rm_wc hph hr1409886) (rm_ws hph hr2409887) ?_
    refine G_astore (L' := [(5, .ref q409865), (0, .ref q409789), (1, .ref q409790), (2, .ref q409791), (3, .int p409792), (4, .int p409793)]) dr_cX17_load_16 (Nat.le_of_ble_eq_true rfl) rfl ?_
    refine G_aload 0 dr_cX17_load_18 rfl ?_
    refine G_bipush 21 dr_cX17_load_20 (by decide +kernel) ?_
    refine Gp_put 0 hm409967 he409968 dr_cX17_load_22 (gk_X15 D I) (Nat.le_of_ble_eq_true rfl) wr_9_177 rfl rfl rfl (Nat.le_of_ble_eq_true rfl) (fun F409982 e409983 n409984 => ?_)
    have he409985 : F409982 q409789 = .inr (22, [.ref (gm_F409864 9 0), .ref (gm_F409864 9 1), .ref (gm_F409864 9 2), .ref (gm_F409864 9 3), .ref (gm_F409864 9 4), .ref (gm_F409864 9 5), .ref (gm_F409864 9 6), .ref (gm_F409864 9 7), .ref (gm_F409864 9 8), .int p409913, .int p409914, .int p409915, .int p409916, .int p409917, .int p409918, .ref (gm_F409864 9 15), .ref (gm_F409864 9 16), .ref (gm_F409864 9 17), .ref (gm_F409864 9 18), .ref (gm_F409864 9 19), .ref (gm_F409864 9 20), .ref (gm_F409864 9 21), .ref (gm_F409864 9 22), .int p409919, .int p409920, .int p409921, .int p409922, .int p409923, .ref q409911, .ref (gm_F409864 9 29), .int p409924, .ref (gm_F409864 9 31), .int p409925, .int p409926, .int p409927, .ref q409912]) := (n409984 q409789 (rn_oo he409910 he409968 (by decide))).trans he409910
    have he409986 : F409982 q409865 = .inr (20, [.int 21, .int p409970, .int p409971, .int p409972, .int p409973, .int p409974, .int p409975]) := e409983
    have mk409987 : mKp (F409788 q409789) (F409982 q409789) := mKp_tr mk409903 (mKp_eq (n409984 q409789 (rn_ty ht409898 ht409963 (by decide))))
    have fq409988 : F409982 q409865 = cF (F409864 q409865) 0 (.int 21) := by rw [he409986, he409968]; rfl
    refine G_aload 0 dr_cX17_load_25 rfl ?_
    refine G_aload_n 1 dr_cX17_load_27 rfl ?_
    have fq409989 : fI (F409982 q409789) 14 = p409918 := by rw [he409985]; rfl
    refine Gp_get 14 hm409909 he409985 dr_cX17_load_28 (gk_X17 D I) (Nat.le_of_ble_eq_true rfl) wr_7_88 rfl ?_
    refine Gp_put 1 hm409967 he409986 dr_cX17_load_31 (gk_X15 D I) (Nat.le_of_ble_eq_true rfl) wr_9_182 rfl rfl rfl (Nat.le_of_ble_eq_true rfl) (fun F409990 e409991 n409992 => ?_)
    have he409993 : F409990 q409789 = .inr (22, [.ref (gm_F409864 9 0), .ref (gm_F409864 9 1), .ref (gm_F409864 9 2), .ref (gm_F409864 9 3), .ref (gm_F409864 9 4), .ref (gm_F409864 9 5), .ref (gm_F409864 9 6), .ref (gm_F409864 9 7), .ref (gm_F409864 9 8), .int p409913, .int p409914, .int p409915, .int p409916, .int p409917, .int p409918, .ref (gm_F409864 9 15), .ref (gm_F409864 9 16), .ref (gm_F409864 9 17), .ref (gm_F409864 9 18), .ref (gm_F409864 9 19), .ref (gm_F409864 9 20), .ref (gm_F409864 9 21), .ref (gm_F409864 9 22), .int p409919, .int p409920, .int p409921, .int p409922, .int p409923, .ref q409911, .ref (gm_F409864 9 29), .int p409924, .ref (gm_F409864 9 31), .int p409925, .int p409926, .int p409927, .ref q409912]) := (n409992 q409789 (rn_oo he409985 he409986 (by decide))).trans he409985
    have he409994 : F409990 q409865 = .inr (20, [.int 21, .int p409918, .int p409971, .int p409972, .int p409973, .int p409974, .int p409975]) := e409991
    have mk409995 : mKp (F409788 q409789) (F409990 q409789) := mKp_tr mk409987 (mKp_eq (n409992 q409789 (rn_ty ht409898 ht409963 (by decide))))
    have n409996 : ∀ b, b ≠ q409865 → F409990 b = F409864 b := fun b hb => (n409992 b hb).trans (n409984 b hb)
    have fq409997 : F409990 q409865 = cF (F409982 q409865) 1 (.int p409918) := by rw [he409994, he409986]; rfl
    refine G_aload 0 dr_cX17_load_34 rfl ?_
    refine G_iload 5 dr_cX17_load_36 rfl ?_
    refine Gp_put 4 hm409967 he409994 dr_cX17_load_38 (gk_X15 D I) (Nat.le_of_ble_eq_true rfl) wr_9_193 rfl rfl rfl (Nat.le_of_ble_eq_true rfl) (fun F409998 e409999 n410000 => ?_)
    have he410001 : F409998 q409789 = .inr (22, [.ref (gm_F409864 9 0), .ref (gm_F409864 9 1), .ref (gm_F409864 9 2), .ref (gm_F409864 9 3), .ref (gm_F409864 9 4), .ref (gm_F409864 9 5), .ref (gm_F409864 9 6), .ref (gm_F409864 9 7), .ref (gm_F409864 9 8), .int p409913, .int p409914, .int p409915, .int p409916, .int p409917, .int p409918, .ref (gm_F409864 9 15), .ref (gm_F409864 9 16), .ref (gm_F409864 9 17), .ref (gm_F409864 9 18), .ref (gm_F409864 9 19), .ref (gm_F409864 9 20), .ref (gm_F409864 9 21), .ref (gm_F409864 9 22), .int p409919, .int p409920, .int p409921, .int p409922, .int p409923, .ref q409911, .ref (gm_F409864 9 29), .int p409924, .ref (gm_F409864 9 31), .int p409925, .int p409926, .int p409927, .ref q409912]) := (n410000 q409789 (rn_oo he409993 he409994 (by decide))).trans he409993
    have he410002 : F409998 q409865 = .inr (20, [.int 21, .int p409918, .int p409971, .int p409972, .int p409793, .int p409974, .int p409975]) := e409999
    have mk410003 : mKp (F409788 q409789) (F409998 q409789) := mKp_tr mk409995 (mKp_eq (n410000 q409789 (rn_ty ht409898 ht409963 (by decide))))
    have n410004 : ∀ b, b ≠ q409865 → F409998 b = F409864 b := fun b hb => (n410000 b hb).trans (n409996 b hb)
    have fq410005 : F409998 q409865 = cF (F409990 q409865) 4 (.int p409793) := by rw [he410002, he409994]; rfl
    refine G_aload_n 3 dr_cX17_load_41 rfl ?_
    have hT410006 : RS D I P409863 F409998 gm_F409864 el_F409864 := RS_set hT409895 n410004 ht409963 (by decide) ⟨21, p409918, p409971, p409972, p409793, p409974, p409975, he410002, (gB_w (gBl (show Int32.toInt 21 = 21 by decide)) (by decide) (by decide)), bp409918', bp409793, (gB_w bp409974' (by decide) (by decide)), (gB_w bp409975' (by decide) (by decide)), (Or.inr (by decide)), r409977, r409978⟩
    have hs410008 := rSk_put hs409896 hT410006 n410004 ht409963 (by decide) (by decide) (Or.inr (Or.inl x1409877))
    have hm410009 : q409791 ∈ P409863 := RS_m hT410006 ht409901 (by decide)
    obtain ⟨q410011, q410012, p410013, p410014, he410010, ht410021, ht410015, ht410016, ht410017, ht410018, ht410019, bp410013, bp410014, r410020, r410022, r410023⟩ := show rk_2 gm_F409864 q409791 (F409998 q409791) from RS_o hT410006 ht409901
    have hf410024 : gm_F409864 1 q410011 = f := (show gm_F409864 1 q410011 = gm_F409864 1 q409791 from ht410016).trans hf409902
    have hf410025 : gm_F409864 1 q410012 = f := (show gm_F409864 1 q410012 = gm_F409864 1 q409791 from ht410018).trans hf409902
    have r410026 : gm_F409864 6 (gm_F409864 1 q409791) = gm_F409864 6 f := by rw [hf409902]
    have r410027 : gm_F409864 7 (gm_F409864 1 q409791) = gm_F409864 7 f := by rw [hf409902]
    have r410028 : gm_F409864 19 (gm_F409864 1 q409791) = gm_F409864 19 f := by rw [hf409902]
    have r410029 := r410020.resolve_left (by omega)
    clear r410020
    have r410030 : gm_F409864 2 (gm_F409864 14 q409791) = gm_F409864 2 q410011 := by rw [ht410021.1]
    have fq410031 : fR (F409998 q409791) 0 = q410011 := by rw [he410010]; rfl
    refine Gp_get 0 hm410009 he410010 dr_cX17_load_42 (gk_X12 D I) (Nat.le_of_ble_eq_true rfl) wr_9_220 rfl ?_
    refine G_iload_n 4 dr_cX17_load_45 rfl ?_
    refine G_aload 0 dr_cX17_load_46 rfl ?_
    have pr410032 := fun (R : Nat → Nat → va_E → Prop) hN => rPl_fr (R := R) hT409895 ht409899 hf409900 (pr409873 R hN) (fun b hb _ => n410004 b (rn_ty (show rKd gm_F409864 b 1 from hb) ht409963 (by decide)))
    have rg410033 := rM_ge hT410006 ht409899 hf409900
    have rm410034 := rM_bd hB409962
    have bd410035 := rBd_c hT410006 ht409899 hf409900 hB409962
    have rc410036 := rc_at hT410006 ht409899 hf409900
    have r410038 : gm_F409864 14 (el_F409864 (gm_F409864 14 q409790) jx409794) = q410011 := by rw [r409907]; exact ht410021.1
    have r410039 := rg410033.2.2 _ r409906
    rw [r410038] at r410039
    have r410040 := bd410035.2.2.2 _ r409906
    rw [r410038] at r410040
    have r410041 : gm_F409864 7 (gm_F409864 1 q409865) = gm_F409864 7 f := by rw [x1409877]
    have hx410042 : rk_1 gm_F409864 q409865 (F409998 q409865) := ⟨21, p409918, p409971, p409972, p409793, p409974, p409975, he410002, (gB_w (gBl (show Int32.toInt 21 = 21 by decide)) (by decide) (by decide)), bp409918', bp409793, (gB_w bp409974' (by decide) (by decide)), (gB_w bp409975' (by decide) (by decide)), (Or.inr (by decide)), r409977, r409978, (Or.inr (by omega)), (Or.inl x22409878)⟩
    refine Gt_ins (c := q409790) (f := f) hl0 dr_cX17_load_48 ⟨wr_10_207, wr_1_18, wr_10_210, by decide, rfl, (Nat.le_of_ble_eq_true rfl), (Nat.le_of_ble_eq_true rfl)⟩ wr_10_208 wr_10_209 hT410006 ht410015 hf410024 ht409963 x1409877 x22409878 r409964 (by omega) ht409899 hf409900 r409906 r410038 hx410042 (by omega) (by omega) (Nat.le_trans r410040 (Nat.le_trans hBk (by decide))) (rm_cs hph409965 r410039 rm410034 (by decide)) (rm_sl hph409965 r410039 rm410034 rm_s11) (Nat.le_of_ble_eq_true rfl) (fun P410043 F410037 gm_F410037 el_F410037 dc410044 ds410045 hq410046 => ?_)
    have hq410047 := hq410046
    have ai410049 := fun (j : Nat) (hj : p409792.toInt.toNat ≤ j) => (rAt_ins hT410006 ht409899 hf409900 hq410046 r410038 (show jx409794 < _ by omega) (show p409792.toInt.toNat ≤ _ by omega) j hj).trans (ar409874 j)
    have pr410048 := fun (R R' : Nat → Nat → va_E → Prop) hN h1 h2 (h3 : ∀ e, (∀ n, nmS e n → n = p409918.toInt.toNat) → ((fI e 0).toInt = 21 → (fI e 1).toInt.toNat = p409918.toInt.toNat) → R' jx409794 p409792.toInt.toNat e) h4 => rPl_ins (R := R) (R' := R') hT410006 ht409899 hf409900 hq410046 r410038 (show jx409794 < _ by omega) (show p409792.toInt.toNat ≤ _ by omega) (pr410032 R hN) h1 h2 (h3 _ (nm_ld he410002 (by decide)).1 (nm_ld he410002 (by decide)).2) h4
    obtain ⟨hk410050, x0410051, h2410052, hel410053, hot410054, h16410055, h18410056, hnu410057, hFx410058, hr410059, hM410060, hBB410061⟩ := hq410046
    have hk410062 := rSk_of hk410050
    have r410063 : (fI (F410037 q409790) 3).toInt = (fI (F409998 q409790) 3).toInt := by rw [rSk_F hk410062 ht409899 (by decide) (by decide)]
    obtain ⟨nu410064, nu410065, nu410066, nu410067⟩ := hnu410057
    have hT410068 := hk410062.1
    have hs410069 := rSk_tr hs410008 hk410062 (by decide) (by decide) (by decide)
    have r410070 := rSk_F hk410062 ht409898 (by decide) (by decide)
    have ht410071 : rKd gm_F410037 q409789 10 := rSk_k hk410062 ht409898 (by decide) (by decide)
    have ht410072 : rKd gm_F410037 q409790 9 := rSk_k hk410062 ht409899 (by decide) (by decide)
    have hf410073 : gm_F410037 1 q409790 = f := rSk_1 hk410062 ht409899 (by decide) hf409900
    have ht410074 : rKd gm_F410037 q409791 2 := rSk_k hk410062 ht409901 (by decide) (by decide)
    have hf410075 : gm_F410037 1 q409791 = f := rSk_1 hk410062 ht409901 (by decide) hf409902
    have ht410076 : rKd gm_F410037 q410011 3 := rSk_k hk410062 ht410015 (by decide) (by decide)
    have hf410077 : gm_F410037 1 q410011 = f := rSk_1 hk410062 ht410015 (by decide) hf410024
    have mk410078 : mKp (F409788 q409789) (F410037 q409789) := mKp_tr mk410003 (mKp_eq (rSk_F hk410062 ht409898 (by decide) (by decide)))
    have r410079 := (rSk_s hk410062 ht409899 (by decide)).2.1
    have r410080 := hot410054 _ (by rw [rc410036.2.1]; decide) (fun q => by rw [q, show _ = 3 from ht410015] at rc410036; exact absurd rc410036.2.1 (by decide))
    have r410081 : jx409794 < gm_F410037 2 (gm_F410037 14 q409790) := by rw [r410079, r410080.1]; exact r409906
    have r410082 : el_F410037 (gm_F410037 14 q409790) jx409794 = q409791 := by rw [r410079, r410080.2]; exact r409907
    clear bp409969 bp409970 bp409973 bp409974 bp409975 bp409971 bp409972 bp410013 bp410014 r410022 r410023 rg410033 rm410034 bd410035 rc410036 r410039 r410040
    clear r409976 r409977 r409978
    have r410083 : 0 < gm_F410037 6 (gm_F410037 1 q409790) := by rw [hf410073]; omega
    have hm410084 : q409789 ∈ P410043 := RS_m hT410068 ht410071 (by decide)
    obtain ⟨q410086, q410087, p410088, p410089, p410090, p410091, p410092, p410093, p410094, p410095, p410096, p410097, p410098, p410099, p410100, p410101, p410102, he410085, hB410129, ht410103, ht410104, ht410105, ht410106, ht410107, ht410108, ht410109, ht410110, ht410111, ht410112, ht410113, ht410114, ht410115, ht410116, ht410117, ht410118, ht410119, ht410120, ht410121, ht410122, ht410123, ht410124, ht410125, ht410126, hB410130⟩ := show rk_10 gm_F410037 (F410037 q409789) from RS_o hT410068 ht410071
    have r410131 : p410090.toInt = p409915.toInt := by have z : p410090 = p409915 := congrArg (fun e => fI e 11) (he410085.symm.trans (r410070.trans he410001)); rw [z]
    have bp410090 : gB p410090 0 100 := (hB410129.2.2.1)
    have r410132 : p410093.toInt = p409918.toInt := by have z : p410093 = p409918 := congrArg (fun e => fI e 14) (he410085.symm.trans (r410070.trans he410001)); rw [z]
    have bp410093 : gB p410093 0 2000 := (hB410129.2.2.2.1)
    have bp410093' : gB p410093 0 1999 := ⟨by omega, by omega⟩
    have ht410133 : rKd gm_F410037 q409865 1 := x0410051
    have hB410134 : rBd gm_F410037 el_F410037 f B := hBB410061 B hB409962
    have hph410135 : rPh γ0 el0 f ≤ rPh gm_F410037 el_F410037 f := rm_ph hph409965 hr410059.2
    have pk410136 : rPh gm_F410037 el_F410037 f ≤ 387 * B + 6000 := rm_pk (rM_ge hT410068 ht410072 hf410073).1 (rM_bd hB410134)
    refine G_widen (cs' := ((rPh gm_F410037 el_F410037 f - rPh γ0 el0 f) / 18)) (sl' := (rPh gm_F410037 el_F410037 f - rPh γ0 el0 f)) (rm_wc hph409965 hr410059.1) (rm_ws hph409965 hr410059.2) ?_
    have he410137 : F410037 q409865 = .inr (20, [.int 21, .int p409918, .int p409971, .int p409972, .int p409793, .int p409974, .int p409975]) := hFx410058.trans he410002
    have hm410138 : q409865 ∈ P410043 := RS_m hT410068 ht410133 (by decide)
    have r410139 : gm_F410037 14 q409791 = q410011 := ((rSk_s (rSk_of hk410050) ht409901 (by decide)).2.1).trans ht410021.1
    have sz410140 : gm_F410037 2 (gm_F410037 14 q409791) = gm_F410037 2 q410011 := by rw [r410139]
    refine G_aload_n 1 dr_cX17_load_51 rfl ?_
    refine G_dup dr_cX17_load_52 rfl ?_
    have fq410141 : fI (F410037 q409789) 14 = p410093 := by rw [he410085]; rfl
    refine Gp_get 14 hm410084 he410085 dr_cX17_load_53 (gk_X17 D I) (Nat.le_of_ble_eq_true rfl) wr_7_88 rfl ?_
    refine G_iconst 1 dr_cX17_load_56 (by decide +kernel) ?_
    refine G_iadd dr_cX17_load_57 (G_nam fun z410142 hz410142 => ?_)
    have ez410142 : z410142.toInt = p410093.toInt + 1 := by rw [gI_add hz410142 bp410093' (gBl (show Int32.toInt 1 = 1 by decide)) (by decide) (by decide), show Int32.toInt 1 = 1 from by decide]
    have bz410142 : gB z410142 1 2000 := gB_add (gI_add hz410142 bp410093' (gBl (show Int32.toInt 1 = 1 by decide)) (by decide) (by decide)) bp410093' (gBl (show Int32.toInt 1 = 1 by decide)) (by decide) (by decide)
    refine Gp_put 14 hm410084 he410085 dr_cX17_load_58 (gk_X17 D I) (Nat.le_of_ble_eq_true rfl) wr_7_88 rfl rfl rfl (Nat.le_of_ble_eq_true rfl) (fun F410143 e410144 n410145 => ?_)
    have he410146 : F410143 q409865 = .inr (20, [.int 21, .int p409918, .int p409971, .int p409972, .int p409793, .int p409974, .int p409975]) := (n410145 q409865 (rn_oo he410137 he410085 (by decide))).trans he410137
    have he410147 : F410143 q409789 = .inr (22, [.ref (gm_F410037 9 0), .ref (gm_F410037 9 1), .ref (gm_F410037 9 2), .ref (gm_F410037 9 3), .ref (gm_F410037 9 4), .ref (gm_F410037 9 5), .ref (gm_F410037 9 6), .ref (gm_F410037 9 7), .ref (gm_F410037 9 8), .int p410088, .int p410089, .int p410090, .int p410091, .int p410092, .int z410142, .ref (gm_F410037 9 15), .ref (gm_F410037 9 16), .ref (gm_F410037 9 17), .ref (gm_F410037 9 18), .ref (gm_F410037 9 19), .ref (gm_F410037 9 20), .ref (gm_F410037 9 21), .ref (gm_F410037 9 22), .int p410094, .int p410095, .int p410096, .int p410097, .int p410098, .ref q410086, .ref (gm_F410037 9 29), .int p410099, .ref (gm_F410037 9 31), .int p410100, .int p410101, .int p410102, .ref q410087]) := e410144
    have mk410148 : mKp (F409788 q409789) (F410143 q409789) := mKp_tr mk410078 (by rw [he410085, he410147]; exact ⟨rfl, rfl⟩)
    have fq410149 : F410143 q409789 = cF (F410037 q409789) 14 (.int z410142) := by rw [he410147, he410085]; rfl
    have hT410150 : RS D I P410043 F410143 gm_F410037 el_F410037 := RS_set hT410068 n410145 ht410071 (by decide) ⟨q410086, q410087, p410088, p410089, p410090, p410091, p410092, z410142, p410094, p410095, p410096, p410097, p410098, p410099, p410100, p410101, p410102, he410147, ⟨(hB410129.1), (hB410129.2.1), bp410090, (gB_w bz410142 (by decide) (by decide)), (hB410129.2.2.2.2.1), (hB410129.2.2.2.2.2.1), (hB410129.2.2.2.2.2.2.1), (hB410129.2.2.2.2.2.2.2.1), (hB410129.2.2.2.2.2.2.2.2)⟩, ht410103, ht410104, ht410105, ht410106, ht410107, ht410108, ht410109, ht410110, ht410111, ht410112, ht410113, ht410114, ht410115, ht410116, ht410117, ht410118, ht410119, ht410120, ht410121, ht410122, ht410123, ht410124, ht410125, ht410126, hB410130⟩
    have hs410152 := rSk_put hs410069 hT410150 n410145 ht410071 (by decide) (by decide) (Or.inr (Or.inr (by decide)))
    have pr410153 := fun (R R' : Nat → Nat → va_E → Prop) hN h1 h2 h3 h4 => rPl_fr (R := R') hT410068 ht410072 hf410073 (pr410048 R R' hN h1 h2 h3 h4) (fun b hb _ => n410145 b (rn_ty (show rKd gm_F410037 b 1 from hb) ht410071 (by decide)))
    refine G_aload 0 dr_cX17_load_61 rfl ?_
    have fq410154 : fI (F410143 q409865) 1 = p409918 := by rw [he410146]; rfl
    refine Gp_get 1 hm410138 he410146 dr_cX17_load_63 (gk_X15 D I) (Nat.le_of_ble_eq_true rfl) wr_9_182 rfl ?_
    have ac410155 : (fI (F410143 q409789) 11).toInt = p410090.toInt := by rw [he410147]; rfl
    have ac410156 : (fI (F410143 q409789) 14).toInt = z410142.toInt := by rw [he410147]; rfl
    exact G_iretA dr_cX17_load_66 rfl (show ((rPh gm_F410037 el_F410037 f - rPh γ0 el0 f) / 18) ≤ (((387 * B + 6000) - rPh γ0 el0 f) / 18) by omega) (show (rPh gm_F410037 el_F410037 f - rPh γ0 el0 f) ≤ ((387 * B + 6000) - rPh γ0 el0 f) by omega) ⟨P410043, F410143, gm_F410037, el_F410037, p409918, rfl, rfl, hs410152, ⟨by omega, by omega⟩, hB410134, (gB_w bp409918' (by decide) (by decide)), (by omega), (by omega), (by omega), ⟨(rSk_s hs410152 hzq409791 (by decide)).2.1, r410081, r410082⟩, (Or.inr ⟨by omega, by omega, by omega, by omega, by omega⟩), (by omega), (Or.inr pr410153), (Or.inr ai410049), mk410148, (fun R c1 c2 => c1 gm_0 el_0 p409818 P409863 F409864 gm_F409864 el_F409864 q409865 dc409866 ds409867 F409982 p409918 F409990 F409998 q410011 P410043 F410037 gm_F410037 el_F410037 dc410044 ds410045 p410093 z410142 F410143 hγ0 hel0 fq409856 r409858 hq409872 n409984 fq409988 fq409989 n409992 fq409997 n410000 fq410005 fq410031 hq410047 fq410141 ez410142 n410145 fq410149 fq410154)⟩
  · have r410157 : p409818.toInt = 2000 := gj_eq hc409857 (show Int32.toInt 2000 = 2000 by decide)
    have bp409818' : gB p409818 2000 2000 := ⟨by omega, by omega⟩
    have ac410158 : (fI (F409788 q409789) 11).toInt = p409815.toInt := by rw [he409810]; rfl
    have ac410159 : (fI (F409788 q409789) 14).toInt = p409818.toInt := by rw [he409810]; rfl
    refine G_iconst (-1) dr_cX17_load_10 (by decide +kernel) ?_
    exact G_iretA dr_cX17_load_11 rfl (show ((rPh gm_0 el_0 f - rPh γ0 el0 f) / 18) ≤ (((387 * B + 6000) - rPh γ0 el0 f) / 18) by omega) (show (rPh gm_0 el_0 f - rPh γ0 el0 f) ≤ ((387 * B + 6000) - rPh γ0 el0 f) by omega) ⟨P409787, F409788, gm_0, el_0, (-1), rfl, rfl, hst, ⟨by omega, by omega⟩, hB, (gB_w (gBl (show Int32.toInt (-1) = (-1) by decide)) (by decide) (by decide)), (by have qa0 : Int32.toInt (-1) = (-1) := (by decide); omega), (by have qa0 : Int32.toInt (-1) = (-1) := (by decide); omega), (by have qa0 : Int32.toInt (-1) = (-1) := (by decide); omega), ⟨(rSk_s hst hzq409791 (by decide)).2.1, hpjjx409794, hpejx409794⟩, (Or.inl (by decide)), (by have qa0 : Int32.toInt (-1) = (-1) := (by decide); omega), (Or.inl (by decide)), (Or.inl (by decide)), mKp_rf, (fun R c1 c2 => c2 gm_0 el_0 p409818 hγ0 hel0 fq409856 r410157)⟩
/- tr_RRow_usesA3: result -/
def tr_RRow_usesA3 (a0_op : Int32) (a0_regA : Int32) (o1 : Int32) : Prop := ∀ R : (Int32) → Prop,
  (a0_op.toInt = 20 → R (0 : Int32)) →
  (a0_op.toInt ≠ 20 → a0_op.toInt = 21 → R (0 : Int32)) →
  (a0_op.toInt ≠ 20 → a0_op.toInt ≠ 21 → a0_op.toInt = 30 → R (0 : Int32)) →
  (a0_op.toInt ≠ 20 → a0_op.toInt ≠ 21 → a0_op.toInt ≠ 30 → a0_regA.toInt = 0 → R (0 : Int32)) →
  (a0_op.toInt ≠ 20 → a0_op.toInt ≠ 21 → a0_op.toInt ≠ 30 → a0_regA.toInt ≠ 0 → R (1 : Int32)) →
  R o1
abbrev ky_410173_Row_usesA : gKey := (cX15_usesA, 1, "SpillForgeModel$Row", (some FieldType.boolean), [], "usesA", fun _ _ => True)
def pp_410173_Row_usesA (D : va_G) (I : FieldType → ClassId) (P410163 : List Nat) (F410164 : Nat → va_E) (q410165 : Nat) (p410166 : Int32) (p410167 : Int32) (p410168 : Int32) (p410169 : Int32) (p410170 : Int32) (p410171 : Int32) (p410172 : Int32) : Option Value → va_W → Nat → Nat → Prop := fun r w dc ds => ∃ (o410186 : Int32), r = some (.int o410186) ∧ w = va_pl P410163 F410164 ∧ dc ≤ 0 ∧ ds ≤ 0 ∧ gB o410186 0 1 ∧ (uA o410186.toInt p410166.toInt p410171.toInt) ∧ tr_RRow_usesA3 p410166 p410171 o410186
set_option maxRecDepth 100000 in
set_option maxHeartbeats 4000000 in
theorem cp_410173_Row_usesA (l : Launch) (hl0 : l.stackTraces = false) (D : va_G) (I : FieldType → ClassId) (P410163 : List Nat) (F410164 : Nat → va_E) (q410165 : Nat) (p410166 : Int32) (p410167 : Int32) (p410168 : Int32) (p410169 : Int32) (p410170 : Int32) (p410171 : Int32) (p410172 : Int32) (hmq410165 : q410165 ∈ P410163) (heq410165 : F410164 q410165 = .inr (20, [.int p410166, .int p410167, .int p410168, .int p410169, .int p410170, .int p410171, .int p410172])) (bp410166 : gB p410166 0 32) (bp410167 : gB p410167 0 1999) (bp410170 : gB p410170 0 1999) (bp410171 : gB p410171 0 1) (bp410172 : gB p410172 0 1) : CtA (gV D I) l yX15_usesA cX15_usesA 1 (some FieldType.boolean) 0 0 0 0 [.ref q410165] (va_pl P410163 F410164) (pp_410173_Row_usesA D I P410163 F410164 q410165 p410166 p410167 p410168 p410169 p410170 p410171 p410172) gNA := by
  refine CtA_of hl0 (by decide) (Nat.le_of_ble_eq_true rfl) ?_
  have bp410168 := gB_any p410168
  have bp410169 := gB_any p410169
  refine G_aload_n 0 dr_cX15_usesA_0 rfl ?_
  refine Gp_get 0 hmq410165 heq410165 dr_cX15_usesA_1 (gk_X15 D I) (Nat.le_of_ble_eq_true rfl) wr_9_175 rfl ?_
  refine G_bipush 20 dr_cX15_usesA_4 (by decide +kernel) ?_
  refine G_icmp_eq 38 dr_cX15_usesA_6 (by decide +kernel) (fun hc410174 => ?_) (fun hc410174 => ?_)
  · have r410175 : p410166.toInt = 20 := gj_eq hc410174 (show Int32.toInt 20 = 20 by decide)
    have bp410166' : gB p410166 20 20 := ⟨by omega, by omega⟩
    refine G_iconst 0 dr_cX15_usesA_38 (by decide +kernel) ?_
    exact G_zretA FieldType.boolean dr_cX15_usesA_39 rfl rfl (Nat.le_of_ble_eq_true rfl) (Nat.le_of_ble_eq_true rfl) ⟨0, rfl, rfl, (Nat.le_of_ble_eq_true rfl), (Nat.le_of_ble_eq_true rfl), (gB_w (gBl (show Int32.toInt 0 = 0 by decide)) (by decide) (by decide)), (by unfold uA; first | omega | (have qa0 : Int32.toInt 0 = 0 := (by decide); have qa1 : Int32.toInt 1 = 1 := (by decide); omega)), (fun R c1 c2 c3 c4 c5 => c1 r410175)⟩
  · have r410176 : p410166.toInt ≠ 20 := gj_neq hc410174 (show Int32.toInt 20 = 20 by decide)
    refine G_aload_n 0 dr_cX15_usesA_9 rfl ?_
    refine Gp_get 0 hmq410165 heq410165 dr_cX15_usesA_10 (gk_X15 D I) (Nat.le_of_ble_eq_true rfl) wr_9_175 rfl ?_
    refine G_bipush 21 dr_cX15_usesA_13 (by decide +kernel) ?_
    refine G_icmp_eq 38 dr_cX15_usesA_15 (by decide +kernel) (fun hc410177 => ?_) (fun hc410177 => ?_)
    · have r410178 : p410166.toInt = 21 := gj_eq hc410177 (show Int32.toInt 21 = 21 by decide)
      have bp410166' : gB p410166 21 21 := ⟨by omega, by omega⟩
      refine G_iconst 0 dr_cX15_usesA_38 (by decide +kernel) ?_
      exact G_zretA FieldType.boolean dr_cX15_usesA_39 rfl rfl (Nat.le_of_ble_eq_true rfl) (Nat.le_of_ble_eq_true rfl) ⟨0, rfl, rfl, (Nat.le_of_ble_eq_true rfl), (Nat.le_of_ble_eq_true rfl), (gB_w (gBl (show Int32.toInt 0 = 0 by decide)) (by decide) (by decide)), (by unfold uA; first | omega | (have qa0 : Int32.toInt 0 = 0 := (by decide); have qa1 : Int32.toInt 1 = 1 := (by decide); omega)), (fun R c1 c2 c3 c4 c5 => c2 r410176 r410178)⟩
    · have r410179 : p410166.toInt ≠ 21 := gj_neq hc410177 (show Int32.toInt 21 = 21 by decide)
      refine G_aload_n 0 dr_cX15_usesA_18 rfl ?_
      refine Gp_get 0 hmq410165 heq410165 dr_cX15_usesA_19 (gk_X15 D I) (Nat.le_of_ble_eq_true rfl) wr_9_175 rfl ?_
      refine G_bipush 30 dr_cX15_usesA_22 (by decide +kernel) ?_
      refine G_icmp_eq 38 dr_cX15_usesA_24 (by decide +kernel) (fun hc410180 => ?_) (fun hc410180 => ?_)
      · have r410181 : p410166.toInt = 30 := gj_eq hc410180 (show Int32.toInt 30 = 30 by decide)
        have bp410166' : gB p410166 30 30 := ⟨by omega, by omega⟩
        refine G_iconst 0 dr_cX15_usesA_38 (by decide +kernel) ?_
        exact G_zretA FieldType.boolean dr_cX15_usesA_39 rfl rfl (Nat.le_of_ble_eq_true rfl) (Nat.le_of_ble_eq_true rfl) ⟨0, rfl, rfl, (Nat.le_of_ble_eq_true rfl), (Nat.le_of_ble_eq_true rfl), (gB_w (gBl (show Int32.toInt 0 = 0 by decide)) (by decide) (by decide)), (by unfold uA; first | omega | (have qa0 : Int32.toInt 0 = 0 := (by decide); have qa1 : Int32.toInt 1 = 1 := (by decide); omega)), (fun R c1 c2 c3 c4 c5 => c3 r410176 r410179 r410181)⟩
      · have r410182 : p410166.toInt ≠ 30 := gj_neq hc410180 (show Int32.toInt 30 = 30 by decide)
        refine G_aload_n 0 dr_cX15_usesA_27 rfl ?_
        refine Gp_get 5 hmq410165 heq410165 dr_cX15_usesA_28 (gk_X15 D I) (Nat.le_of_ble_eq_true rfl) wr_9_195 rfl ?_
        refine G_if_eq 38 dr_cX15_usesA_31 (by decide +kernel) (fun hc410183 => ?_) (fun hc410183 => ?_)
        · have r410184 : p410171.toInt = 0 := gj_eq hc410183 (show Int32.toInt 0 = 0 by decide)
          have bp410171' : gB p410171 0 0 := ⟨by omega, by omega⟩
          refine G_iconst 0 dr_cX15_usesA_38 (by decide +kernel) ?_
          exact G_zretA FieldType.boolean dr_cX15_usesA_39 rfl rfl (Nat.le_of_ble_eq_true rfl) (Nat.le_of_ble_eq_true rfl) ⟨0, rfl, rfl, (Nat.le_of_ble_eq_true rfl), (Nat.le_of_ble_eq_true rfl), (gB_w (gBl (show Int32.toInt 0 = 0 by decide)) (by decide) (by decide)), (by unfold uA; first | omega | (have qa0 : Int32.toInt 0 = 0 := (by decide); have qa1 : Int32.toInt 1 = 1 := (by decide); omega)), (fun R c1 c2 c3 c4 c5 => c4 r410176 r410179 r410182 r410184)⟩
        · have r410185 : p410171.toInt ≠ 0 := gj_neq hc410183 (show Int32.toInt 0 = 0 by decide)
          have bp410171' : gB p410171 1 1 := ⟨by omega, by omega⟩
          refine G_iconst 1 dr_cX15_usesA_34 (by decide +kernel) ?_
          refine G_goto 39 dr_cX15_usesA_35 (by decide +kernel) ?_
          exact G_zretA FieldType.boolean dr_cX15_usesA_39 rfl rfl (Nat.le_of_ble_eq_true rfl) (Nat.le_of_ble_eq_true rfl) ⟨1, rfl, rfl, (Nat.le_of_ble_eq_true rfl), (Nat.le_of_ble_eq_true rfl), (gB_w (gBl (show Int32.toInt 1 = 1 by decide)) (by decide) (by decide)), (by unfold uA; first | omega | (have qa0 : Int32.toInt 0 = 0 := (by decide); have qa1 : Int32.toInt 1 = 1 := (by decide); omega)), (fun R c1 c2 c3 c4 c5 => c5 r410176 r410179 r410182 r410185)⟩
/- tr_RRow_usesB3: result -/
def tr_RRow_usesB3 (a0_op : Int32) (a0_regB : Int32) (o1 : Int32) : Prop := ∀ R : (Int32) → Prop,
  (a0_op.toInt ≤ 0 → R (0 : Int32)) →
  (0 < a0_op.toInt → 20 ≤ a0_op.toInt → R (0 : Int32)) →
  (0 < a0_op.toInt → a0_op.toInt < 20 → a0_regB.toInt = 0 → R (0 : Int32)) →
  (0 < a0_op.toInt → a0_op.toInt < 20 → a0_regB.toInt ≠ 0 → R (1 : Int32)) →
  R o1
abbrev ky_410197_Row_usesB : gKey := (cX15_usesB, 1, "SpillForgeModel$Row", (some FieldType.boolean), [], "usesB", fun _ _ => True)
def pp_410197_Row_usesB (D : va_G) (I : FieldType → ClassId) (P410187 : List Nat) (F410188 : Nat → va_E) (q410189 : Nat) (p410190 : Int32) (p410191 : Int32) (p410192 : Int32) (p410193 : Int32) (p410194 : Int32) (p410195 : Int32) (p410196 : Int32) : Option Value → va_W → Nat → Nat → Prop := fun r w dc ds => ∃ (o410207 : Int32), r = some (.int o410207) ∧ w = va_pl P410187 F410188 ∧ dc ≤ 0 ∧ ds ≤ 0 ∧ gB o410207 0 1 ∧ (uB o410207.toInt p410190.toInt p410196.toInt) ∧ tr_RRow_usesB3 p410190 p410196 o410207
set_option maxRecDepth 100000 in
set_option maxHeartbeats 4000000 in
theorem cp_410197_Row_usesB (l : Launch) (hl0 : l.stackTraces = false) (D : va_G) (I : FieldType → ClassId) (P410187 : List Nat) (F410188 : Nat → va_E) (q410189 : Nat) (p410190 : Int32) (p410191 : Int32) (p410192 : Int32) (p410193 : Int32) (p410194 : Int32) (p410195 : Int32) (p410196 : Int32) (hmq410189 : q410189 ∈ P410187) (heq410189 : F410188 q410189 = .inr (20, [.int p410190, .int p410191, .int p410192, .int p410193, .int p410194, .int p410195, .int p410196])) (bp410190 : gB p410190 0 32) (bp410191 : gB p410191 0 1999) (bp410194 : gB p410194 0 1999) (bp410195 : gB p410195 0 1) (bp410196 : gB p410196 0 1) : CtA (gV D I) l yX15_usesB cX15_usesB 1 (some FieldType.boolean) 0 0 0 0 [.ref q410189] (va_pl P410187 F410188) (pp_410197_Row_usesB D I P410187 F410188 q410189 p410190 p410191 p410192 p410193 p410194 p410195 p410196) gNA := by
  refine CtA_of hl0 (by decide) (Nat.le_of_ble_eq_true rfl) ?_
  have bp410192 := gB_any p410192
  have bp410193 := gB_any p410193
  refine G_aload_n 0 dr_cX15_usesB_0 rfl ?_
  refine Gp_get 0 hmq410189 heq410189 dr_cX15_usesB_1 (gk_X15 D I) (Nat.le_of_ble_eq_true rfl) wr_9_175 rfl ?_
  refine G_if_le 27 dr_cX15_usesB_4 (by decide +kernel) (fun hc410198 => ?_) (fun hc410198 => ?_)
  · have r410199 : p410190.toInt ≤ 0 := gj_le hc410198 (show Int32.toInt 0 = 0 by decide)
    have bp410190' : gB p410190 0 0 := ⟨by omega, by omega⟩
    refine G_iconst 0 dr_cX15_usesB_27 (by decide +kernel) ?_
    exact G_zretA FieldType.boolean dr_cX15_usesB_28 rfl rfl (Nat.le_of_ble_eq_true rfl) (Nat.le_of_ble_eq_true rfl) ⟨0, rfl, rfl, (Nat.le_of_ble_eq_true rfl), (Nat.le_of_ble_eq_true rfl), (gB_w (gBl (show Int32.toInt 0 = 0 by decide)) (by decide) (by decide)), (by unfold uB; first | omega | (have qa0 : Int32.toInt 0 = 0 := (by decide); have qa1 : Int32.toInt 1 = 1 := (by decide); omega)), (fun R c1 c2 c3 c4 => c1 r410199)⟩
  · have r410200 : 0 < p410190.toInt := gj_nle hc410198 (show Int32.toInt 0 = 0 by decide)
    have bp410190' : gB p410190 1 32 := ⟨by omega, by omega⟩
    refine G_aload_n 0 dr_cX15_usesB_7 rfl ?_
    refine Gp_get 0 hmq410189 heq410189 dr_cX15_usesB_8 (gk_X15 D I) (Nat.le_of_ble_eq_true rfl) wr_9_175 rfl ?_
    refine G_bipush 20 dr_cX15_usesB_11 (by decide +kernel) ?_
    refine G_icmp_ge 27 dr_cX15_usesB_13 (by decide +kernel) (fun hc410201 => ?_) (fun hc410201 => ?_)
    · have r410202 : 20 ≤ p410190.toInt := gj_leL hc410201 (show Int32.toInt 20 = 20 by decide)
      have bp410190'' : gB p410190 20 32 := ⟨by omega, by omega⟩
      refine G_iconst 0 dr_cX15_usesB_27 (by decide +kernel) ?_
      exact G_zretA FieldType.boolean dr_cX15_usesB_28 rfl rfl (Nat.le_of_ble_eq_true rfl) (Nat.le_of_ble_eq_true rfl) ⟨0, rfl, rfl, (Nat.le_of_ble_eq_true rfl), (Nat.le_of_ble_eq_true rfl), (gB_w (gBl (show Int32.toInt 0 = 0 by decide)) (by decide) (by decide)), (by unfold uB; first | omega | (have qa0 : Int32.toInt 0 = 0 := (by decide); have qa1 : Int32.toInt 1 = 1 := (by decide); omega)), (fun R c1 c2 c3 c4 => c2 r410200 r410202)⟩
    · have r410203 : p410190.toInt < 20 := gj_nleL hc410201 (show Int32.toInt 20 = 20 by decide)
      have bp410190'' : gB p410190 1 19 := ⟨by omega, by omega⟩
      refine G_aload_n 0 dr_cX15_usesB_16 rfl ?_
      refine Gp_get 6 hmq410189 heq410189 dr_cX15_usesB_17 (gk_X15 D I) (Nat.le_of_ble_eq_true rfl) wr_9_199 rfl ?_
      refine G_if_eq 27 dr_cX15_usesB_20 (by decide +kernel) (fun hc410204 => ?_) (fun hc410204 => ?_)
      · have r410205 : p410196.toInt = 0 := gj_eq hc410204 (show Int32.toInt 0 = 0 by decide)
        have bp410196' : gB p410196 0 0 := ⟨by omega, by omega⟩
        refine G_iconst 0 dr_cX15_usesB_27 (by decide +kernel) ?_
        exact G_zretA FieldType.boolean dr_cX15_usesB_28 rfl rfl (Nat.le_of_ble_eq_true rfl) (Nat.le_of_ble_eq_true rfl) ⟨0, rfl, rfl, (Nat.le_of_ble_eq_true rfl), (Nat.le_of_ble_eq_true rfl), (gB_w (gBl (show Int32.toInt 0 = 0 by decide)) (by decide) (by decide)), (by unfold uB; first | omega | (have qa0 : Int32.toInt 0 = 0 := (by decide); have qa1 : Int32.toInt 1 = 1 := (by decide); omega)), (fun R c1 c2 c3 c4 => c3 r410200 r410203 r410205)⟩
      · have r410206 : p410196.toInt ≠ 0 := gj_neq hc410204 (show Int32.toInt 0 = 0 by decide)
        have bp410196' : gB p410196 1 1 := ⟨by omega, by omega⟩
        refine G_iconst 1 dr_cX15_usesB_23 (by decide +kernel) ?_
        refine G_goto 28 dr_cX15_usesB_24 (by decide +kernel) ?_
        exact G_zretA FieldType.boolean dr_cX15_usesB_28 rfl rfl (Nat.le_of_ble_eq_true rfl) (Nat.le_of_ble_eq_true rfl) ⟨1, rfl, rfl, (Nat.le_of_ble_eq_true rfl), (Nat.le_of_ble_eq_true rfl), (gB_w (gBl (show Int32.toInt 1 = 1 by decide)) (by decide) (by decide)), (by unfold uB; first | omega | (have qa0 : Int32.toInt 0 = 0 := (by decide); have qa1 : Int32.toInt 1 = 1 := (by decide); omega)), (fun R c1 c2 c3 c4 => c4 r410200 r410203 r410206)⟩
/- tr_RRow_sets3: result -/
def tr_RRow_sets3 (a0_op : Int32) (o1 : Int32) : Prop := ∀ R : (Int32) → Prop,
  (21 < a0_op.toInt → R (0 : Int32)) →
  (a0_op.toInt ≤ 21 → R (1 : Int32)) →
  R o1
abbrev ky_410218_Row_sets : gKey := (cX15_sets, 1, "SpillForgeModel$Row", (some FieldType.boolean), [], "sets", fun _ _ => True)
def pp_410218_Row_sets (D : va_G) (I : FieldType → ClassId) (P410208 : List Nat) (F410209 : Nat → va_E) (q410210 : Nat) (p410211 : Int32) (p410212 : Int32) (p410213 : Int32) (p410214 : Int32) (p410215 : Int32) (p410216 : Int32) (p410217 : Int32) : Option Value → va_W → Nat → Nat → Prop := fun r w dc ds => ∃ (o410222 : Int32), r = some (.int o410222) ∧ w = va_pl P410208 F410209 ∧ dc ≤ 0 ∧ ds ≤ 0 ∧ gB o410222 0 1 ∧ (uS o410222.toInt p410211.toInt) ∧ tr_RRow_sets3 p410211 o410222
set_option maxRecDepth 100000 in
set_option maxHeartbeats 4000000 in
theorem cp_410218_Row_sets (l : Launch) (hl0 : l.stackTraces = false) (D : va_G) (I : FieldType → ClassId) (P410208 : List Nat) (F410209 : Nat → va_E) (q410210 : Nat) (p410211 : Int32) (p410212 : Int32) (p410213 : Int32) (p410214 : Int32) (p410215 : Int32) (p410216 : Int32) (p410217 : Int32) (hmq410210 : q410210 ∈ P410208) (heq410210 : F410209 q410210 = .inr (20, [.int p410211, .int p410212, .int p410213, .int p410214, .int p410215, .int p410216, .int p410217])) (bp410211 : gB p410211 0 32) (bp410212 : gB p410212 0 1999) (bp410215 : gB p410215 0 1999) (bp410216 : gB p410216 0 1) (bp410217 : gB p410217 0 1) : CtA (gV D I) l yX15_sets cX15_sets 1 (some FieldType.boolean) 0 0 0 0 [.ref q410210] (va_pl P410208 F410209) (pp_410218_Row_sets D I P410208 F410209 q410210 p410211 p410212 p410213 p410214 p410215 p410216 p410217) gNA := by
  refine CtA_of hl0 (by decide) (Nat.le_of_ble_eq_true rfl) ?_
  have bp410213 := gB_any p410213
  have bp410214 := gB_any p410214
  refine G_aload_n 0 dr_cX15_sets_0 rfl ?_
  refine Gp_get 0 hmq410210 heq410210 dr_cX15_sets_1 (gk_X15 D I) (Nat.le_of_ble_eq_true rfl) wr_9_175 rfl ?_
  refine G_bipush 21 dr_cX15_sets_4 (by decide +kernel) ?_
  refine G_icmp_gt 13 dr_cX15_sets_6 (by decide +kernel) (fun hc410219 => ?_) (fun hc410219 => ?_)
  · have r410220 : 21 < p410211.toInt := gj_ltL hc410219 (show Int32.toInt 21 = 21 by decide)
    have bp410211' : gB p410211 22 32 := ⟨by omega, by omega⟩
    refine G_iconst 0 dr_cX15_sets_13 (by decide +kernel) ?_
    exact G_zretA FieldType.boolean dr_cX15_sets_14 rfl rfl (Nat.le_of_ble_eq_true rfl) (Nat.le_of_ble_eq_true rfl) ⟨0, rfl, rfl, (Nat.le_of_ble_eq_true rfl), (Nat.le_of_ble_eq_true rfl), (gB_w (gBl (show Int32.toInt 0 = 0 by decide)) (by decide) (by decide)), (by unfold uS; first | omega | (have qa0 : Int32.toInt 0 = 0 := (by decide); have qa1 : Int32.toInt 1 = 1 := (by decide); omega)), (fun R c1 c2 => c1 r410220)⟩
  · have r410221 : p410211.toInt ≤ 21 := gj_nltL hc410219 (show Int32.toInt 21 = 21 by decide)
    have bp410211' : gB p410211 0 21 := ⟨by omega, by omega⟩
    refine G_iconst 1 dr_cX15_sets_9 (by decide +kernel) ?_
    refine G_goto 14 dr_cX15_sets_10 (by decide +kernel) ?_
    exact G_zretA FieldType.boolean dr_cX15_sets_14 rfl rfl (Nat.le_of_ble_eq_true rfl) (Nat.le_of_ble_eq_true rfl) ⟨1, rfl, rfl, (Nat.le_of_ble_eq_true rfl), (Nat.le_of_ble_eq_true rfl), (gB_w (gBl (show Int32.toInt 1 = 1 by decide)) (by decide) (by decide)), (by unfold uS; first | omega | (have qa0 : Int32.toInt 0 = 0 := (by decide); have qa1 : Int32.toInt 1 = 1 := (by decide); omega)), (fun R c1 c2 => c2 r410221)⟩
/- tl_RModel_findDepth2_342: F, l4; out: F -/
def tl_RModel_findDepth2_342 (D : va_G) (I : FieldType → ClassId) (γ el : Nat → Nat → Nat) (P : List Nat) (F : Nat → va_E) (q0 : Nat) (q1 : Nat) (s1 : Nat → va_E) (s2 : Int32) (k : Nat) (e1 : Nat → va_E) : Prop := ∀ R : (Nat → va_E) → (Int32) → Nat → (Nat → va_E) → Prop,
  (∀ (F_1 : Nat → va_E) (l4_1 : Int32) (x1 : Int32), gB l4_1 0 1000000 → RS D I P F_1 γ el → rStr γ [] F F_1 → (F_1 q0 = F q0) → (F_1 (γ 9 3) = F (γ 9 3)) → fI (F_1 q1) 3 = x1 → x1.toInt ≤ l4_1.toInt → R F_1 l4_1 375 F_1) →
  (∀ (F_1 : Nat → va_E) (l4_1 : Int32) (x1 : Int32) (x2 : Nat → Int32) (x3 : Int32) (x4 : Int32) (x5 : Nat → Int32) (x6 : Nat → va_E) (x7 : Int32) (k : Nat) (e1 : Nat → va_E), gB l4_1 0 1000000 → RS D I P F_1 γ el → rStr γ [] F F_1 → (F_1 q0 = F q0) → (F_1 (γ 9 3) = F (γ 9 3)) → fI (F_1 q1) 3 = x1 → l4_1.toInt < x1.toInt → fR (F_1 q0) 4 = (γ 9 4) → F_1 (γ 9 4) = .inl (I .int, 40, .inl x2) → x3 = x2 l4_1.toNatClampNeg → (x3.toInt ≥ x4.toInt ∧ 4 ≥ x4.toInt ∧ (x4.toInt = x3.toInt ∨ x4.toInt = 4)) → x5 = upd x2 l4_1.toNatClampNeg x4 → (∀ b, b ≠ (γ 9 4) → x6 b = F_1 b) → x6 (γ 9 4) = .inl (I .int, 40, .inl x5) → x7.toInt = l4_1.toInt + 1 → R x6 x7 k e1 → R F_1 l4_1 k e1) →
  R s1 s2 k e1
/- tl_RModel_findDepth2_300: F, l10; out: F -/
def tl_RModel_findDepth2_300 (D : va_G) (I : FieldType → ClassId) (γ el : Nat → Nat → Nat) (P : List Nat) (F : Nat → va_E) (q0 : Nat) (q1 : Nat) (l7_2 : Int64) (s1 : Nat → va_E) (s2 : Int32) (k : Nat) (e1 : Nat → va_E) : Prop := ∀ R : (Nat → va_E) → (Int32) → Nat → (Nat → va_E) → Prop,
  (∀ (F_2 : Nat → va_E) (l10_2 : Int32) (x1 : Int32), gB l10_2 0 1000000 → RS D I P F_2 γ el → rStr γ [] F F_2 → (F_2 q0 = F q0) → (F_2 (γ 9 3) = F (γ 9 3)) → fI (F_2 q1) 3 = x1 → x1.toInt ≤ l10_2.toInt → R F_2 l10_2 333 F_2) →
  (∀ (F_2 : Nat → va_E) (l10_2 : Int32) (x1 : Int32) (x2 : Nat → Int32) (x3 : Int32) (x4 : Int64) (x5 : Int64) (x6 : Int32) (x7 : Int32) (x8 : Nat → Int32) (x9 : Nat → va_E) (x10 : Int32) (k : Nat) (e1 : Nat → va_E), gB l10_2 0 1000000 → RS D I P F_2 γ el → rStr γ [] F F_2 → (F_2 q0 = F q0) → (F_2 (γ 9 3) = F (γ 9 3)) → fI (F_2 q1) 3 = x1 → l10_2.toInt < x1.toInt → fR (F_2 q0) 4 = (γ 9 4) → F_2 (γ 9 4) = .inl (I .int, 40, .inl x2) → x3 = x2 l10_2.toNatClampNeg → x4 = (l7_2.toUInt64 >>> (l10_2.toInt64.toUInt64 &&& Int64.toUInt64 63)).toInt64 → x5 = x4 &&& (1 : Int64) → x6 = x5.toInt32 → x7 = x3 + x6 → x8 = upd x2 l10_2.toNatClampNeg x7 → (∀ b, b ≠ (γ 9 4) → x9 b = F_2 b) → x9 (γ 9 4) = .inl (I .int, 40, .inl x8) → x10.toInt = l10_2.toInt + 1 → R x9 x10 k e1 → R F_2 l10_2 k e1) →
  R s1 s2 k e1
/- tl_RModel_findDepth2_199: l12, l11; out: l11 -/
def tl_RModel_findDepth2_199 (D : va_G) (I : FieldType → ClassId) (γ el : Nat → Nat → Nat) (F_1 : Nat → va_E) (q1 : Nat) (l10_3 : Int32) (l4_1 : Int32) (l7_3 : Int64) (s1 : Int32) (s2 : Int32) (k : Nat) (e1 : Int32) : Prop := ∀ R : (Int32) → (Int32) → Nat → (Int32) → Prop,
  (∀ (l12_4 : Int32) (l11_4 : Int32) (x1 : Nat) (x2 : Nat) (x3 : Int32) (x4 : Int32) (x5 : Int32) (x6 : Nat) (x7 : Int32) (x8 : Int32), gB l12_4 0 2 → gB l11_4 0 1 → fR (F_1 q1) 0 = x1 → x2 = el x1 l10_3.toInt.toNat → fI (F_1 x1) 2 = x3 → tr_RCode_get l10_3 x3 → fI (F_1 x2) 2 = x4 → fI (F_1 x2) 3 = x5 → fR (F_1 x2) 1 = x6 → fI (F_1 x6) 0 = x7 → gB x8 0 2 → tr_RBlock_ways x4 x5 x7 x8 → x8.toInt ≤ l12_4.toInt → R l12_4 l11_4 268 l11_4) →
  (∀ (l12_4 : Int32) (l11_4 : Int32) (x1 : Nat) (x2 : Nat) (x3 : Int32) (x4 : Int32) (x5 : Int32) (x6 : Nat) (x7 : Int32) (x8 : Int32) (x9 : Int32) (k : Nat) (e1 : Int32), gB l12_4 0 2 → gB l11_4 0 1 → fR (F_1 q1) 0 = x1 → x2 = el x1 l10_3.toInt.toNat → fI (F_1 x1) 2 = x3 → tr_RCode_get l10_3 x3 → fI (F_1 x2) 2 = x4 → fI (F_1 x2) 3 = x5 → fR (F_1 x2) 1 = x6 → fI (F_1 x6) 0 = x7 → gB x8 0 2 → tr_RBlock_ways x4 x5 x7 x8 → l12_4.toInt < x8.toInt → l11_4.toInt ≠ 0 → x9.toInt = l12_4.toInt + 1 → R x9 (1 : Int32) k e1 → R l12_4 l11_4 k e1) →
  (∀ (l12_4 : Int32) (l11_4 : Int32) (x1 : Nat) (x2 : Nat) (x3 : Int32) (x4 : Int32) (x5 : Int32) (x6 : Nat) (x7 : Int32) (x8 : Int32) (x9 : Int32) (x10 : Int32) (k : Nat) (e1 : Int32), gB l12_4 0 2 → gB l11_4 0 1 → fR (F_1 q1) 0 = x1 → x2 = el x1 l10_3.toInt.toNat → fI (F_1 x1) 2 = x3 → tr_RCode_get l10_3 x3 → fI (F_1 x2) 2 = x4 → fI (F_1 x2) 3 = x5 → fR (F_1 x2) 1 = x6 → fI (F_1 x6) 0 = x7 → gB x8 0 2 → tr_RBlock_ways x4 x5 x7 x8 → l12_4.toInt < x8.toInt → l11_4.toInt = 0 → tr_RCode_get l10_3 x3 → gB x9 0 39 → tr_RBlock_way2 l12_4 x4 x5 x9 → x9.toInt = l4_1.toInt → x10.toInt = l12_4.toInt + 1 → R x10 (0 : Int32) k e1 → R l12_4 l11_4 k e1) →
  (∀ (l12_4 : Int32) (l11_4 : Int32) (x1 : Nat) (x2 : Nat) (x3 : Int32) (x4 : Int32) (x5 : Int32) (x6 : Nat) (x7 : Int32) (x8 : Int32) (x9 : Int32) (x10 : Int32) (x11 : Int64) (x12 : Int64) (x13 : Int32) (k : Nat) (e1 : Int32), gB l12_4 0 2 → gB l11_4 0 1 → fR (F_1 q1) 0 = x1 → x2 = el x1 l10_3.toInt.toNat → fI (F_1 x1) 2 = x3 → tr_RCode_get l10_3 x3 → fI (F_1 x2) 2 = x4 → fI (F_1 x2) 3 = x5 → fR (F_1 x2) 1 = x6 → fI (F_1 x6) 0 = x7 → gB x8 0 2 → tr_RBlock_ways x4 x5 x7 x8 → l12_4.toInt < x8.toInt → l11_4.toInt = 0 → tr_RCode_get l10_3 x3 → gB x9 0 39 → tr_RBlock_way2 l12_4 x4 x5 x9 → x9.toInt ≠ l4_1.toInt → tr_RCode_get l10_3 x3 → gB x10 0 39 → tr_RBlock_way2 l12_4 x4 x5 x10 → x11 = (l7_3.toUInt64 >>> (x10.toInt64.toUInt64 &&& Int64.toUInt64 63)).toInt64 → x12 = x11 &&& (1 : Int64) → x12 = (0 : Int64) → x13.toInt = l12_4.toInt + 1 → R x13 (0 : Int32) k e1 → R l12_4 l11_4 k e1) →
  (∀ (l12_4 : Int32) (l11_4 : Int32) (x1 : Nat) (x2 : Nat) (x3 : Int32) (x4 : Int32) (x5 : Int32) (x6 : Nat) (x7 : Int32) (x8 : Int32) (x9 : Int32) (x10 : Int32) (x11 : Int64) (x12 : Int64) (x13 : Int32) (k : Nat) (e1 : Int32), gB l12_4 0 2 → gB l11_4 0 1 → fR (F_1 q1) 0 = x1 → x2 = el x1 l10_3.toInt.toNat → fI (F_1 x1) 2 = x3 → tr_RCode_get l10_3 x3 → fI (F_1 x2) 2 = x4 → fI (F_1 x2) 3 = x5 → fR (F_1 x2) 1 = x6 → fI (F_1 x6) 0 = x7 → gB x8 0 2 → tr_RBlock_ways x4 x5 x7 x8 → l12_4.toInt < x8.toInt → l11_4.toInt = 0 → tr_RCode_get l10_3 x3 → gB x9 0 39 → tr_RBlock_way2 l12_4 x4 x5 x9 → x9.toInt ≠ l4_1.toInt → tr_RCode_get l10_3 x3 → gB x10 0 39 → tr_RBlock_way2 l12_4 x4 x5 x10 → x11 = (l7_3.toUInt64 >>> (x10.toInt64.toUInt64 &&& Int64.toUInt64 63)).toInt64 → x12 = x11 &&& (1 : Int64) → (¬ x12 = (0 : Int64)) → x13.toInt = l12_4.toInt + 1 → R x13 (1 : Int32) k e1 → R l12_4 l11_4 k e1) →
  R s1 s2 k e1
/- tl_RModel_findDepth2_158: l10, l9, l7; out: l9, l7 -/
def tl_RModel_findDepth2_158 (D : va_G) (I : FieldType → ClassId) (γ el : Nat → Nat → Nat) (l7_2 : Int64) (F_1 : Nat → va_E) (q1 : Nat) (c1 : Int64) (l4_1 : Int32) (s1 : Int32) (s2 : Int32) (s3 : Int64) (k : Nat) (e1 : Int32) (e2 : Int64) : Prop := ∀ R : (Int32) → (Int32) → (Int64) → Nat → (Int32) → (Int64) → Prop,
  (∀ (l10_3 : Int32) (l9_3 : Int32) (l7_3 : Int64) (x1 : Int32), gB l10_3 0 1000000 → gB l9_3 0 1 → rpop l7_3 ≤ 64 → rpop l7_2 + ((l9_3.toInt : Int)).toNat ≤ rpop l7_3 → fI (F_1 q1) 3 = x1 → x1.toInt ≤ l10_3.toInt → R l10_3 l9_3 l7_3 294 l9_3 l7_3) →
  (∀ (l10_3 : Int32) (l9_3 : Int32) (l7_3 : Int64) (x1 : Int32) (x2 : Int64) (x3 : Int64) (x4 : Int32) (k : Nat) (e1 : Int32) (e2 : Int64), gB l10_3 0 1000000 → gB l9_3 0 1 → rpop l7_3 ≤ 64 → rpop l7_2 + ((l9_3.toInt : Int)).toNat ≤ rpop l7_3 → fI (F_1 q1) 3 = x1 → l10_3.toInt < x1.toInt → x2 = (l7_3.toUInt64 >>> (l10_3.toInt64.toUInt64 &&& Int64.toUInt64 63)).toInt64 → x3 = x2 &&& (1 : Int64) → (¬ x3 = (0 : Int64)) → x4.toInt = l10_3.toInt + 1 → R x4 l9_3 l7_3 k e1 e2 → R l10_3 l9_3 l7_3 k e1 e2) →
  (∀ (l10_3 : Int32) (l9_3 : Int32) (l7_3 : Int64) (x1 : Int32) (x2 : Int64) (x3 : Int64) (x4 : Int64) (x5 : Int64) (x6 : Int32) (x7 : Int64) (x8 : Int64) (x9 : Int32) (k : Nat) (e1 : Int32) (e2 : Int64), gB l10_3 0 1000000 → gB l9_3 0 1 → rpop l7_3 ≤ 64 → rpop l7_2 + ((l9_3.toInt : Int)).toNat ≤ rpop l7_3 → fI (F_1 q1) 3 = x1 → l10_3.toInt < x1.toInt → x2 = (l7_3.toUInt64 >>> (l10_3.toInt64.toUInt64 &&& Int64.toUInt64 63)).toInt64 → x3 = x2 &&& (1 : Int64) → x3 = (0 : Int64) → x4 = (c1.toUInt64 >>> (l10_3.toInt64.toUInt64 &&& Int64.toUInt64 63)).toInt64 → x5 = x4 &&& (1 : Int64) → (¬ x5 = (0 : Int64)) → tl_RModel_findDepth2_199 D I γ el F_1 q1 l10_3 l4_1 l7_3 (0 : Int32) (0 : Int32) 268 x6 → x6.toInt ≠ 0 → x7 = (1 : Int64) <<< (l10_3.toInt64 &&& 63) → x8 = l7_3 ||| x7 → x9.toInt = l10_3.toInt + 1 → R x9 (1 : Int32) x8 k e1 e2 → R l10_3 l9_3 l7_3 k e1 e2) →
  (∀ (l10_3 : Int32) (l9_3 : Int32) (l7_3 : Int64) (x1 : Int32) (x2 : Int64) (x3 : Int64) (x4 : Int64) (x5 : Int64) (x6 : Int32) (x7 : Int32) (k : Nat) (e1 : Int32) (e2 : Int64), gB l10_3 0 1000000 → gB l9_3 0 1 → rpop l7_3 ≤ 64 → rpop l7_2 + ((l9_3.toInt : Int)).toNat ≤ rpop l7_3 → fI (F_1 q1) 3 = x1 → l10_3.toInt < x1.toInt → x2 = (l7_3.toUInt64 >>> (l10_3.toInt64.toUInt64 &&& Int64.toUInt64 63)).toInt64 → x3 = x2 &&& (1 : Int64) → x3 = (0 : Int64) → x4 = (c1.toUInt64 >>> (l10_3.toInt64.toUInt64 &&& Int64.toUInt64 63)).toInt64 → x5 = x4 &&& (1 : Int64) → (¬ x5 = (0 : Int64)) → tl_RModel_findDepth2_199 D I γ el F_1 q1 l10_3 l4_1 l7_3 (0 : Int32) (0 : Int32) 268 x6 → x6.toInt = 0 → x7.toInt = l10_3.toInt + 1 → R x7 l9_3 l7_3 k e1 e2 → R l10_3 l9_3 l7_3 k e1 e2) →
  (∀ (l10_3 : Int32) (l9_3 : Int32) (l7_3 : Int64) (x1 : Int32) (x2 : Int64) (x3 : Int64) (x4 : Int64) (x5 : Int64) (x6 : Int32) (k : Nat) (e1 : Int32) (e2 : Int64), gB l10_3 0 1000000 → gB l9_3 0 1 → rpop l7_3 ≤ 64 → rpop l7_2 + ((l9_3.toInt : Int)).toNat ≤ rpop l7_3 → fI (F_1 q1) 3 = x1 → l10_3.toInt < x1.toInt → x2 = (l7_3.toUInt64 >>> (l10_3.toInt64.toUInt64 &&& Int64.toUInt64 63)).toInt64 → x3 = x2 &&& (1 : Int64) → x3 = (0 : Int64) → x4 = (c1.toUInt64 >>> (l10_3.toInt64.toUInt64 &&& Int64.toUInt64 63)).toInt64 → x5 = x4 &&& (1 : Int64) → x5 = (0 : Int64) → x6.toInt = l10_3.toInt + 1 → R x6 l9_3 l7_3 k e1 e2 → R l10_3 l9_3 l7_3 k e1 e2) →
  R s1 s2 s3 k e1 e2
/- tl_RModel_findDepth2_147: l9, l7; out: l7 -/
def tl_RModel_findDepth2_147 (D : va_G) (I : FieldType → ClassId) (γ el : Nat → Nat → Nat) (F_1 : Nat → va_E) (q1 : Nat) (c1 : Int64) (l4_1 : Int32) (s1 : Int32) (s2 : Int64) (k : Nat) (e1 : Int64) : Prop := ∀ R : (Int32) → (Int64) → Nat → (Int64) → Prop,
  (∀ (l9_2 : Int32) (l7_2 : Int64), gB l9_2 0 1 → rpop l7_2 ≤ 64 → l9_2.toInt = 0 → R l9_2 l7_2 297 l7_2) →
  (∀ (l9_2 : Int32) (l7_2 : Int64) (x1 : Int32) (x2 : Int64) (k : Nat) (e1 : Int64), gB l9_2 0 1 → rpop l7_2 ≤ 64 → l9_2.toInt ≠ 0 → tl_RModel_findDepth2_158 D I γ el l7_2 F_1 q1 c1 l4_1 (0 : Int32) (0 : Int32) l7_2 294 x1 x2 → R x1 x2 k e1 → R l9_2 l7_2 k e1) →
  R s1 s2 k e1
/- tl_RModel_findDepth2_75: l9, l7; out: l7 -/
def tl_RModel_findDepth2_75 (D : va_G) (I : FieldType → ClassId) (γ el : Nat → Nat → Nat) (F_1 : Nat → va_E) (q1 : Nat) (c1 : Int64) (l4_1 : Int32) (s1 : Int32) (s2 : Int64) (k : Nat) (e1 : Int64) : Prop := ∀ R : (Int32) → (Int64) → Nat → (Int64) → Prop,
  (∀ (l9_2 : Int32) (l7_2 : Int64) (x1 : Int32), gB l9_2 0 1000000 → fI (F_1 q1) 3 = x1 → x1.toInt ≤ l9_2.toInt → R l9_2 l7_2 125 l7_2) →
  (∀ (l9_2 : Int32) (l7_2 : Int64) (x1 : Int32) (x2 : Int64) (x3 : Int64) (x4 : Int32) (k : Nat) (e1 : Int64), gB l9_2 0 1000000 → fI (F_1 q1) 3 = x1 → l9_2.toInt < x1.toInt → x2 = (c1.toUInt64 >>> (l9_2.toInt64.toUInt64 &&& Int64.toUInt64 63)).toInt64 → x3 = x2 &&& (1 : Int64) → x3 = (0 : Int64) → x4.toInt = l9_2.toInt + 1 → R x4 l7_2 k e1 → R l9_2 l7_2 k e1) →
  (∀ (l9_2 : Int32) (l7_2 : Int64) (x1 : Int32) (x2 : Int64) (x3 : Int64) (x4 : Nat) (x5 : Nat) (x6 : Int32) (x7 : Int32) (x8 : Int32) (k : Nat) (e1 : Int64), gB l9_2 0 1000000 → fI (F_1 q1) 3 = x1 → l9_2.toInt < x1.toInt → x2 = (c1.toUInt64 >>> (l9_2.toInt64.toUInt64 &&& Int64.toUInt64 63)).toInt64 → x3 = x2 &&& (1 : Int64) → (¬ x3 = (0 : Int64)) → fR (F_1 q1) 0 = x4 → x5 = el x4 l9_2.toInt.toNat → fI (F_1 x4) 2 = x6 → tr_RCode_get l9_2 x6 → gB x7 0 1 → tr_RModel_leads D I γ el F_1 x5 l4_1 x7 → x7.toInt = 0 → x8.toInt = l9_2.toInt + 1 → R x8 l7_2 k e1 → R l9_2 l7_2 k e1) →
  (∀ (l9_2 : Int32) (l7_2 : Int64) (x1 : Int32) (x2 : Int64) (x3 : Int64) (x4 : Nat) (x5 : Nat) (x6 : Int32) (x7 : Int32) (x8 : Int64) (x9 : Int64) (x10 : Int32) (k : Nat) (e1 : Int64), gB l9_2 0 1000000 → fI (F_1 q1) 3 = x1 → l9_2.toInt < x1.toInt → x2 = (c1.toUInt64 >>> (l9_2.toInt64.toUInt64 &&& Int64.toUInt64 63)).toInt64 → x3 = x2 &&& (1 : Int64) → (¬ x3 = (0 : Int64)) → fR (F_1 q1) 0 = x4 → x5 = el x4 l9_2.toInt.toNat → fI (F_1 x4) 2 = x6 → tr_RCode_get l9_2 x6 → gB x7 0 1 → tr_RModel_leads D I γ el F_1 x5 l4_1 x7 → x7.toInt ≠ 0 → x8 = (1 : Int64) <<< (l9_2.toInt64 &&& 63) → x9 = l7_2 ||| x8 → x10.toInt = l9_2.toInt + 1 → R x10 x9 k e1 → R l9_2 l7_2 k e1) →
  R s1 s2 k e1
/- tl_RModel_findDepth2_32: F, l4; out: F -/
def tl_RModel_findDepth2_32 (D : va_G) (I : FieldType → ClassId) (γ el : Nat → Nat → Nat) (P : List Nat) (F : Nat → va_E) (q0 : Nat) (q1 : Nat) (c1 : Int64) (s1 : Nat → va_E) (s2 : Int32) (k : Nat) (e1 : Nat → va_E) : Prop := ∀ R : (Nat → va_E) → (Int32) → Nat → (Nat → va_E) → Prop,
  (∀ (F_1 : Nat → va_E) (l4_1 : Int32) (x1 : Int32), gB l4_1 0 1000000 → RS D I P F_1 γ el → rStr γ [] F F_1 → (F_1 q0 = F q0) → (F_1 (γ 9 3) = F (γ 9 3)) → fI (F_1 q1) 3 = x1 → x1.toInt ≤ l4_1.toInt → R F_1 l4_1 339 F_1) →
  (∀ (F_1 : Nat → va_E) (l4_1 : Int32) (x1 : Int32) (x2 : Int64) (x3 : Int64) (x4 : Int64) (x5 : Int64) (x6 : Int64) (x7 : Int64) (x8 : Int64) (x9 : Int64) (x10 : Int64) (x11 : Nat → va_E) (x12 : Int32) (k : Nat) (e1 : Nat → va_E), gB l4_1 0 1000000 → RS D I P F_1 γ el → rStr γ [] F F_1 → (F_1 q0 = F q0) → (F_1 (γ 9 3) = F (γ 9 3)) → fI (F_1 q1) 3 = x1 → l4_1.toInt < x1.toInt → x2 = (c1.toUInt64 >>> (l4_1.toInt64.toUInt64 &&& Int64.toUInt64 63)).toInt64 → x3 = x2 &&& (1 : Int64) → (¬ x3 = (0 : Int64)) → tr_RModel_reached D I γ el F_1 q1 l4_1 x4 → x5 = x4 ^^^ (-1 : Int64) → x6 = c1 &&& x5 → tl_RModel_findDepth2_75 D I γ el F_1 q1 x6 l4_1 (0 : Int32) (0 : Int64) 125 x7 → (¬ x7 = (0 : Int64)) → x8 = (1 : Int64) <<< (l4_1.toInt64 &&& 63) → x9 = x7 ||| x8 → tl_RModel_findDepth2_147 D I γ el F_1 q1 c1 l4_1 (1 : Int32) x9 297 x10 → tl_RModel_findDepth2_300 D I γ el P F q0 q1 x10 F_1 (0 : Int32) 333 x11 → x12.toInt = l4_1.toInt + 1 → R x11 x12 k e1 → R F_1 l4_1 k e1) →
  (∀ (F_1 : Nat → va_E) (l4_1 : Int32) (x1 : Int32) (x2 : Int64) (x3 : Int64) (x4 : Int64) (x5 : Int64) (x6 : Int64) (x7 : Int64) (x8 : Int32) (k : Nat) (e1 : Nat → va_E), gB l4_1 0 1000000 → RS D I P F_1 γ el → rStr γ [] F F_1 → (F_1 q0 = F q0) → (F_1 (γ 9 3) = F (γ 9 3)) → fI (F_1 q1) 3 = x1 → l4_1.toInt < x1.toInt → x2 = (c1.toUInt64 >>> (l4_1.toInt64.toUInt64 &&& Int64.toUInt64 63)).toInt64 → x3 = x2 &&& (1 : Int64) → (¬ x3 = (0 : Int64)) → tr_RModel_reached D I γ el F_1 q1 l4_1 x4 → x5 = x4 ^^^ (-1 : Int64) → x6 = c1 &&& x5 → tl_RModel_findDepth2_75 D I γ el F_1 q1 x6 l4_1 (0 : Int32) (0 : Int64) 125 x7 → x7 = (0 : Int64) → x8.toInt = l4_1.toInt + 1 → R F_1 x8 k e1 → R F_1 l4_1 k e1) →
  (∀ (F_1 : Nat → va_E) (l4_1 : Int32) (x1 : Int32) (x2 : Int64) (x3 : Int64) (x4 : Int32) (k : Nat) (e1 : Nat → va_E), gB l4_1 0 1000000 → RS D I P F_1 γ el → rStr γ [] F F_1 → (F_1 q0 = F q0) → (F_1 (γ 9 3) = F (γ 9 3)) → fI (F_1 q1) 3 = x1 → l4_1.toInt < x1.toInt → x2 = (c1.toUInt64 >>> (l4_1.toInt64.toUInt64 &&& Int64.toUInt64 63)).toInt64 → x3 = x2 &&& (1 : Int64) → x3 = (0 : Int64) → x4.toInt = l4_1.toInt + 1 → R F_1 x4 k e1 → R F_1 l4_1 k e1) →
  R s1 s2 k e1
/- tl_RModel_findDepth2_2: F, l2; out: F -/
def tl_RModel_findDepth2_2 (D : va_G) (I : FieldType → ClassId) (γ el : Nat → Nat → Nat) (P : List Nat) (F : Nat → va_E) (q0 : Nat) (q1 : Nat) (s1 : Nat → va_E) (s2 : Int32) (k : Nat) (e1 : Nat → va_E) : Prop := ∀ R : (Nat → va_E) → (Int32) → Nat → (Nat → va_E) → Prop,
  (∀ (F_1 : Nat → va_E) (l2_1 : Int32) (x1 : Int32), gB l2_1 0 1000000 → RS D I P F_1 γ el → rStr γ [] F F_1 → (F_1 q0 = F q0) → (F_1 (γ 9 3) = F (γ 9 3)) → fI (F_1 q1) 3 = x1 → x1.toInt ≤ l2_1.toInt → R F_1 l2_1 23 F_1) →
  (∀ (F_1 : Nat → va_E) (l2_1 : Int32) (x1 : Int32) (x2 : Nat → Int32) (x3 : Nat → Int32) (x4 : Nat → va_E) (x5 : Int32) (k : Nat) (e1 : Nat → va_E), gB l2_1 0 1000000 → RS D I P F_1 γ el → rStr γ [] F F_1 → (F_1 q0 = F q0) → (F_1 (γ 9 3) = F (γ 9 3)) → fI (F_1 q1) 3 = x1 → l2_1.toInt < x1.toInt → fR (F_1 q0) 4 = (γ 9 4) → F_1 (γ 9 4) = .inl (I .int, 40, .inl x2) → x3 = upd x2 l2_1.toNatClampNeg 0 → (∀ b, b ≠ (γ 9 4) → x4 b = F_1 b) → x4 (γ 9 4) = .inl (I .int, 40, .inl x3) → x5.toInt = l2_1.toInt + 1 → R x4 x5 k e1 → R F_1 l2_1 k e1) →
  R s1 s2 k e1
/- tr_RModel_findDepth2: F -/
def tr_RModel_findDepth2 (D : va_G) (I : FieldType → ClassId) (γ el : Nat → Nat → Nat) (P : List Nat) (F : Nat → va_E) (q0 : Nat) (q1 : Nat) (o1 : Nat → va_E) : Prop := ∀ R : (Nat → va_E) → Prop,
  (∀ (x1 : Nat → va_E) (x2 : Int64) (x3 : Nat → va_E) (x4 : Nat → va_E), tl_RModel_findDepth2_2 D I γ el P F q0 q1 F (0 : Int32) 23 x1 → tr_RModel_reached D I γ el x1 q1 (-1 : Int32) x2 → tl_RModel_findDepth2_32 D I γ el P F q0 q1 x2 x1 (0 : Int32) 339 x3 → tl_RModel_findDepth2_342 D I γ el P F q0 q1 x3 (0 : Int32) 375 x4 → R x4) →
  R o1
