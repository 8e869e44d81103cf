theorem dr_cX14_init_0 : decode cX14_init 0 = .ok (.aload_n 0, 1) := by decide +kernel
theorem dr_cX14_init_1 : decode cX14_init 1 = .ok (.invokespecial 3, 3) := by decide +kernel
theorem wr_7_213 : (Jvm.Cond.methodLink "SpillForgeModel$Reader" (3 : Nat) ({ cls := "java/lang/Object", name := "<init>", desc := "()V" } : Jvm.MethodName)) ∈ gw := gw_7 213 rfl rfl
theorem dr_cX14_init_4 : decode cX14_init 4 = .ok (.aload_n 0, 1) := by decide +kernel
theorem dr_cX14_init_5 : decode cX14_init 5 = .ok (.ldc 9, 2) := by decide +kernel
theorem dr_cX14_init_7 : decode cX14_init 7 = .ok (.putfield 11, 3) := by decide +kernel
theorem dr_cX14_init_10 : decode cX14_init 10 = .ok (.aload_n 0, 1) := by decide +kernel
theorem dr_cX14_init_11 : decode cX14_init 11 = .ok (.iconst (-1), 1) := by decide +kernel
theorem dr_cX14_init_12 : decode cX14_init 12 = .ok (.putfield 17, 3) := by decide +kernel
theorem dr_cX14_init_15 : decode cX14_init 15 = .ok (.aload_n 0, 1) := by decide +kernel
theorem dr_cX14_init_16 : decode cX14_init 16 = .ok (.bipush 16, 2) := by decide +kernel
theorem dr_cX14_init_18 : decode cX14_init 18 = .ok (.newarray .int, 2) := by decide +kernel
theorem dr_cX14_init_20 : decode cX14_init 20 = .ok (.putfield 21, 3) := by decide +kernel
theorem dr_cX14_init_23 : decode cX14_init 23 = .ok (.aload_n 0, 1) := by decide +kernel
theorem dr_cX14_init_24 : decode cX14_init 24 = .ok (.bipush 16, 2) := by decide +kernel
theorem dr_cX14_init_26 : decode cX14_init 26 = .ok (.newarray .int, 2) := by decide +kernel
theorem dr_cX14_init_28 : decode cX14_init 28 = .ok (.putfield 25, 3) := by decide +kernel
theorem dr_cX14_init_31 : decode cX14_init 31 = .ok (.aload_n 0, 1) := by decide +kernel
theorem dr_cX14_init_32 : decode cX14_init 32 = .ok (.aload_n 1, 1) := by decide +kernel
theorem dr_cX14_init_33 : decode cX14_init 33 = .ok (.putfield 28, 3) := by decide +kernel
theorem dr_cX14_init_36 : decode cX14_init 36 = .ok (.aload_n 0, 1) := by decide +kernel
theorem dr_cX14_init_37 : decode cX14_init 37 = .ok (.iload_n 2, 1) := by decide +kernel
theorem dr_cX14_init_38 : decode cX14_init 38 = .ok (.putfield 32, 3) := by decide +kernel
theorem dr_cX14_init_41 : decode cX14_init 41 = .ok (.aload_n 0, 1) := by decide +kernel
theorem dr_cX14_init_42 : decode cX14_init 42 = .ok (.invokevirtual 35, 3) := by decide +kernel
theorem dr_cX14_init_45 : decode cX14_init 45 = .ok (.return_, 1) := by decide +kernel
abbrev ky_673847_Reader_init : gKey := (cX14_init, 3, "SpillForgeModel$Reader", none, [], "<init>", fun _ _ => True)
def pp_673847_Reader_init (D : va_G) (I : FieldType → ClassId) (P673841 : List Nat) (F673842 : Nat → va_E) (q673843 : Nat) (q673844 : Nat) (p673845 : Int32) (f673846 : Nat → Int32) : Option Value → va_W → Nat → Nat → Prop := fun r w dc ds => ∃ (P673966 : List Nat) (F673967 : Nat → va_E) (o673959 : Int32) (o673960 : Int32) (o673961 : Int32) (o673962 : Int32) (q673963 : Nat) (q673964 : Nat) (q673965 : Nat) (xt673968 : gTx), r = none ∧ w = va_pl P673966 F673967 ∧ rSub P673841 P673966 ∧ rFr [q673843] P673841 F673842 F673967 ∧ F673967 q673964 = .inl (I .int, 16, .inl (fun _ => 0)) ∧ F673967 q673965 = .inl (I .int, 16, .inl (fun _ => 0)) ∧ F673967 q673843 = .inr (19, [.ref q673844, .int p673845, .int o673959, .int o673960, .int o673961, .int o673962, .int 0, .ref q673963, .int (-1), .int 0, .int 0, .ref q673964, .ref q673965, .int 0]) ∧ F673967 q673844 = .inl (I .byte, 8192, .inl f673846) ∧ q673964 ∈ P673966 ∧ q673964 ∉ P673841 ∧ q673965 ∈ P673966 ∧ q673965 ∉ P673841 ∧ dc ≤ (16 * o673959.toInt : Int).toNat + 2 ∧ ds ≤ (160 * o673959.toInt : Int).toNat + 32 ∧ gB o673959 0 8192 ∧ gB o673960 0 6 ∧ gB o673961 0 8192 ∧ 0 ≤ o673959.toInt ∧ o673959.toInt ≤ p673845.toInt ∧ p673845.toInt = p673845.toInt ∧ tP I P673966 F673967 o673960 q673963 q673965 q673964 xt673968 ∧ vP o673960 o673962 ∧ q673965 ≠ q673964 ∧ (16 : Int) = 16 ∧ (16 : Int) = 16 ∧ glP (fun _ => 0) ∧ 0 = 0 ∧ (-1) = -1 ∧ 0 = 0 ∧ tr_RReader_init p673845 f673846 o673959 o673960 o673961 o673962 xt673968
set_option maxRecDepth 100000 in
set_option maxHeartbeats 4000000 in
theorem cp_673847_Reader_init (l : Launch) (hl0 : l.stackTraces = false) (D : va_G) (I : FieldType → ClassId) (P673841 : List Nat) (F673842 : Nat → va_E) (q673843 : Nat) (q673844 : Nat) (p673845 : Int32) (f673846 : Nat → Int32) (hmq673843 : q673843 ∈ P673841) (hmq673844 : q673844 ∈ P673841) (heq673843 : F673842 q673843 = .inr (19, [.null, .int 0, .int 0, .int 0, .int 0, .int 0, .int 0, .null, .int 0, .int 0, .int 0, .null, .null, .int 0])) (heq673844 : F673842 q673844 = .inl (I .byte, 8192, .inl f673846)) (bp673845 : gB p673845 0 8192) (bf673846 : gF f673846 (-128) 127) : CtA (gV D I) l yX14_init cX14_init 3 none 8 177 ((16 * p673845.toInt : Int).toNat + 2) ((160 * p673845.toInt : Int).toNat + 32) [.ref q673843, .ref q673844, .int p673845] (va_pl P673841 F673842) (pp_673847_Reader_init D I P673841 F673842 q673843 q673844 p673845 f673846) gNA := by
  refine CtA_of hl0 (by decide) (Nat.le_of_ble_eq_true rfl) ?_
  refine G_aload_n 0 dr_cX14_init_0 rfl ?_
  refine G_obj dr_cX14_init_1 wr_7_213 wr_1_51 wr_1_52 (Nat.le_of_ble_eq_true rfl) (Nat.le_of_ble_eq_true rfl) ?_
  refine G_aload_n 0 dr_cX14_init_4 rfl ?_
  refine G_ldcK (a := D.2 1000 32) dr_cX14_init_5 (fun _ _ _ h => gx_vk 32 rfl rfl h) ?_
  have hl32_673847 : (sb_32.length : Int) = 0 := rfl
  refine Gp_put 7 hmq673843 heq673843 dr_cX14_init_7 (gk_X14 D I) (Nat.le_of_ble_eq_true rfl) wr_9_43 rfl rfl rfl (Nat.le_of_ble_eq_true rfl) (fun F673849 e673850 n673851 => ?_)
  have he673852 : F673849 q673844 = .inl (I .byte, 8192, .inl f673846) := (n673851 q673844 (rn_ao heq673844 heq673843)).trans heq673844
  have he673853 : F673849 q673843 = .inr (19, [.null, .int 0, .int 0, .int 0, .int 0, .int 0, .int 0, .ref (D.2 1000 32), .int 0, .int 0, .int 0, .null, .null, .int 0]) := e673850
  have hfr673854 : rFr [q673843] P673841 F673842 F673849 := rFr_put (rFr_rf (W := []) (P := P673841) (F := F673842)) n673851
  refine G_aload_n 0 dr_cX14_init_10 rfl ?_
  refine G_iconst (-1) dr_cX14_init_11 (by decide +kernel) ?_
  refine Gp_put 8 hmq673843 he673853 dr_cX14_init_12 (gk_X14 D I) (Nat.le_of_ble_eq_true rfl) wr_9_44 rfl rfl rfl (Nat.le_of_ble_eq_true rfl) (fun F673855 e673856 n673857 => ?_)
  have he673858 : F673855 q673844 = .inl (I .byte, 8192, .inl f673846) := (n673857 q673844 (rn_ao he673852 he673853)).trans he673852
  have he673859 : F673855 q673843 = .inr (19, [.null, .int 0, .int 0, .int 0, .int 0, .int 0, .int 0, .ref (D.2 1000 32), .int (-1), .int 0, .int 0, .null, .null, .int 0]) := e673856
  have hfr673860 : rFr [q673843] P673841 F673842 F673855 := rFr_put' List.mem_cons_self hfr673854 n673857
  refine G_aload_n 0 dr_cX14_init_15 rfl ?_
  refine G_bipush 16 dr_cX14_init_16 (by decide +kernel) ?_
  refine G_newa 0 (16, .inl (fun _ => 0)) dr_cX14_init_18 rfl rfl (by intro C h; cases h) wr_1_95 (fun _ => ga_int _ _) (by decide) (by decide) (by decide) (show 0 + 1 ≤ ((16 * p673845.toInt : Int).toNat + 2) by first | omega | decide) (show 0 + 16 ≤ ((160 * p673845.toInt : Int).toNat + 32) by first | omega | decide) (fun q673861 => Gp_in (fun P673862 F673863 hq673864 hP673865 e673866 n673867 => ?_))
  refine G_widen (cs' := 1) (sl' := 16) (by omega) (by omega) ?_
  have he673868 : F673863 q673843 = .inr (19, [.null, .int 0, .int 0, .int 0, .int 0, .int 0, .int 0, .ref (D.2 1000 32), .int (-1), .int 0, .int 0, .null, .null, .int 0]) := (n673867 q673843 (fun h => hq673864 (h ▸ hmq673843))).trans he673859
  have he673869 : F673863 q673844 = .inl (I .byte, 8192, .inl f673846) := (n673867 q673844 (fun h => hq673864 (h ▸ hmq673844))).trans he673858
  have he673870 : F673863 q673861 = .inl (I .int, 16, .inl (fun _ => 0)) := e673866
  have hm673871 : q673843 ∈ P673862 := (hP673865 q673843).mpr (Or.inl hmq673843)
  have hm673872 : q673844 ∈ P673862 := (hP673865 q673844).mpr (Or.inl hmq673844)
  have hm673873 : q673861 ∈ P673862 := (hP673865 q673861).mpr (Or.inr rfl)
  have hq673874 : q673861 ∉ P673841 := fun z => hq673864 ((rSub_rf (P := P673841)) q673861 z)
  have hfr673875 : rFr [q673843] P673841 F673842 F673863 := rFr_new (rSub_rf (P := P673841)) hq673864 hfr673860 n673867
  have hsb673876 : rSub P673841 P673862 := rSub_new (rSub_rf (P := P673841)) hP673865
  refine Gp_put 11 hm673871 he673868 dr_cX14_init_20 (gk_X14 D I) (Nat.le_of_ble_eq_true rfl) wr_9_49 rfl rfl rfl (Nat.le_of_ble_eq_true rfl) (fun F673877 e673878 n673879 => ?_)
  have he673880 : F673877 q673844 = .inl (I .byte, 8192, .inl f673846) := (n673879 q673844 (rn_ao he673869 he673868)).trans he673869
  have he673881 : F673877 q673861 = .inl (I .int, 16, .inl (fun _ => 0)) := (n673879 q673861 (fun h => hq673874 (h ▸ hmq673843))).trans he673870
  have he673882 : F673877 q673843 = .inr (19, [.null, .int 0, .int 0, .int 0, .int 0, .int 0, .int 0, .ref (D.2 1000 32), .int (-1), .int 0, .int 0, .ref q673861, .null, .int 0]) := e673878
  have hfr673883 : rFr [q673843] P673841 F673842 F673877 := rFr_put' List.mem_cons_self hfr673875 n673879
  refine G_aload_n 0 dr_cX14_init_23 rfl ?_
  refine G_bipush 16 dr_cX14_init_24 (by decide +kernel) ?_
  refine G_newa 0 (16, .inl (fun _ => 0)) dr_cX14_init_26 rfl rfl (by intro C h; cases h) wr_1_95 (fun _ => ga_int _ _) (by decide) (by decide) (by decide) (show 1 + 1 ≤ ((16 * p673845.toInt : Int).toNat + 2) by first | omega | decide) (show 16 + 16 ≤ ((160 * p673845.toInt : Int).toNat + 32) by first | omega | decide) (fun q673884 => Gp_in (fun P673885 F673886 hq673887 hP673888 e673889 n673890 => ?_))
  refine G_widen (cs' := 2) (sl' := 32) (by omega) (by omega) ?_
  have he673891 : F673886 q673843 = .inr (19, [.null, .int 0, .int 0, .int 0, .int 0, .int 0, .int 0, .ref (D.2 1000 32), .int (-1), .int 0, .int 0, .ref q673861, .null, .int 0]) := (n673890 q673843 (fun h => hq673887 (h ▸ hm673871))).trans he673882
  have he673892 : F673886 q673844 = .inl (I .byte, 8192, .inl f673846) := (n673890 q673844 (fun h => hq673887 (h ▸ hm673872))).trans he673880
  have he673893 : F673886 q673861 = .inl (I .int, 16, .inl (fun _ => 0)) := (n673890 q673861 (fun h => hq673887 (h ▸ hm673873))).trans he673881
  have he673894 : F673886 q673884 = .inl (I .int, 16, .inl (fun _ => 0)) := e673889
  have hm673895 : q673843 ∈ P673885 := (hP673888 q673843).mpr (Or.inl hm673871)
  have hm673896 : q673844 ∈ P673885 := (hP673888 q673844).mpr (Or.inl hm673872)
  have hm673897 : q673861 ∈ P673885 := (hP673888 q673861).mpr (Or.inl hm673873)
  have hm673898 : q673884 ∈ P673885 := (hP673888 q673884).mpr (Or.inr rfl)
  have hq673899 : q673884 ∉ P673841 := fun z => hq673887 (hsb673876 q673884 z)
  have hfr673900 : rFr [q673843] P673841 F673842 F673886 := rFr_new hsb673876 hq673887 hfr673883 n673890
  have hsb673901 : rSub P673841 P673885 := rSub_new hsb673876 hP673888
  have hne673902 : q673861 ≠ q673884 := fun h => hq673887 (h ▸ hm673873)
  refine Gp_put 12 hm673895 he673891 dr_cX14_init_28 (gk_X14 D I) (Nat.le_of_ble_eq_true rfl) wr_9_50 rfl rfl rfl (Nat.le_of_ble_eq_true rfl) (fun F673903 e673904 n673905 => ?_)
  have he673906 : F673903 q673844 = .inl (I .byte, 8192, .inl f673846) := (n673905 q673844 (rn_ao he673892 he673891)).trans he673892
  have he673907 : F673903 q673861 = .inl (I .int, 16, .inl (fun _ => 0)) := (n673905 q673861 (fun h => hq673874 (h ▸ hmq673843))).trans he673893
  have he673908 : F673903 q673884 = .inl (I .int, 16, .inl (fun _ => 0)) := (n673905 q673884 (fun h => hq673899 (h ▸ hmq673843))).trans he673894
  have he673909 : F673903 q673843 = .inr (19, [.null, .int 0, .int 0, .int 0, .int 0, .int 0, .int 0, .ref (D.2 1000 32), .int (-1), .int 0, .int 0, .ref q673861, .ref q673884, .int 0]) := e673904
  have hfr673910 : rFr [q673843] P673841 F673842 F673903 := rFr_put' List.mem_cons_self hfr673900 n673905
  refine G_aload_n 0 dr_cX14_init_31 rfl ?_
  refine G_aload_n 1 dr_cX14_init_32 rfl ?_
  refine Gp_putF 0 hm673895 he673909 dr_cX14_init_33 (gk_X14 D I) (Nat.le_of_ble_eq_true rfl) wr_9_36 rfl rfl rfl rfl rfl (Nat.le_of_ble_eq_true rfl) (fun F673911 e673912 n673913 => ?_)
  have he673914 : F673911 q673844 = .inl (I .byte, 8192, .inl f673846) := (n673913 q673844 (rn_ao he673906 he673909)).trans he673906
  have he673915 : F673911 q673861 = .inl (I .int, 16, .inl (fun _ => 0)) := (n673913 q673861 (fun h => hq673874 (h ▸ hmq673843))).trans he673907
  have he673916 : F673911 q673884 = .inl (I .int, 16, .inl (fun _ => 0)) := (n673913 q673884 (fun h => hq673899 (h ▸ hmq673843))).trans he673908
  have he673917 : F673911 q673843 = .inr (19, [.ref q673844, .int 0, .int 0, .int 0, .int 0, .int 0, .int 0, .ref (D.2 1000 32), .int (-1), .int 0, .int 0, .ref q673861, .ref q673884, .int 0]) := e673912
  have hfr673918 : rFr [q673843] P673841 F673842 F673911 := rFr_put' List.mem_cons_self hfr673910 n673913
  refine G_aload_n 0 dr_cX14_init_36 rfl ?_
  refine G_iload_n 2 dr_cX14_init_37 rfl ?_
  refine Gp_putF 1 hm673895 he673917 dr_cX14_init_38 (gk_X14 D I) (Nat.le_of_ble_eq_true rfl) wr_9_37 rfl rfl rfl rfl rfl (Nat.le_of_ble_eq_true rfl) (fun F673919 e673920 n673921 => ?_)
  have he673922 : F673919 q673844 = .inl (I .byte, 8192, .inl f673846) := (n673921 q673844 (rn_ao he673914 he673917)).trans he673914
  have he673923 : F673919 q673861 = .inl (I .int, 16, .inl (fun _ => 0)) := (n673921 q673861 (fun h => hq673874 (h ▸ hmq673843))).trans he673915
  have he673924 : F673919 q673884 = .inl (I .int, 16, .inl (fun _ => 0)) := (n673921 q673884 (fun h => hq673899 (h ▸ hmq673843))).trans he673916
  have he673925 : F673919 q673843 = .inr (19, [.ref q673844, .int p673845, .int 0, .int 0, .int 0, .int 0, .int 0, .ref (D.2 1000 32), .int (-1), .int 0, .int 0, .ref q673861, .ref q673884, .int 0]) := e673920
  have hfr673926 : rFr [q673843] P673841 F673842 F673919 := rFr_put' List.mem_cons_self hfr673918 n673921
  refine G_aload_n 0 dr_cX14_init_41 rfl ?_
  refine Gw_callV (As := []) (gV_ok D I) (cp_669296_Reader_next l hl0 D I P673885 F673919 q673843 q673844 p673845 0 0 0 0 0 (D.2 1000 32) (-1) 0 0 q673861 q673884 0 f673846 hm673895 hm673896 he673925 he673922 bp673845 (gB_w (gBl (show Int32.toInt 0 = 0 by decide)) (by decide) (by decide)) (gB_w (gBl (show Int32.toInt 0 = 0 by decide)) (by decide) (by decide)) (gB_w (gBl (show Int32.toInt 0 = 0 by decide)) (by decide) (by decide)) (gB_w (gBl (show Int32.toInt 0 = 0 by decide)) (by decide) (by decide)) (gB_w (gBl (show Int32.toInt (-1) = (-1) by decide)) (by decide) (by decide)) (gB_w (gBl (show Int32.toInt 0 = 0 by decide)) (by decide) (by decide)) (gB_w (gBl (show Int32.toInt 0 = 0 by decide)) (by decide) (by decide)) (gB_w (gBl (show Int32.toInt 0 = 0 by decide)) (by decide) (by decide)) bf673846 (by have qa0 : Int32.toInt (-1) = (-1) := (by decide); have qa1 : Int32.toInt 0 = 0 := (by decide); omega) hm673898 hm673897) dr_cX14_init_42 ⟨wr_7_215, wr_1_32, wr_7_218, by decide, rfl, (Nat.le_of_ble_eq_true rfl), (Nat.le_of_ble_eq_true rfl)⟩ wr_7_217 wr_p_75 hm673895 he673925 rfl (show 2 + ((16 * (p673845.toInt - 0)).toNat) ≤ ((16 * p673845.toInt : Int).toNat + 2) by first | omega | decide) (show 32 + ((160 * (p673845.toInt - 0)).toNat) ≤ ((160 * p673845.toInt : Int).toNat + 32) by first | omega | decide) (Nat.le_of_ble_eq_true rfl) (fun r673930 w673931 dc673927 ds673928 hp673929 => ?_) (fun _ _ _ _ _ z => z.elim)
  obtain ⟨P673944, F673945, o673932, o673933, o673934, o673935, q673936, xt673943, rfl, rfl, hsb673946, hfr673947, he673948, he673949, hdc, hds, bo673932, bo673933, bo673934, x673937, x673938, x673939, x673940, x673941, ht673942⟩ := hp673929
  have hm673950 : q673843 ∈ P673944 := hsb673946 q673843 hm673895
  have hm673951 : q673844 ∈ P673944 := hsb673946 q673844 hm673896
  have hm673952 : q673861 ∈ P673944 := hsb673946 q673861 hm673897
  have hm673953 : q673884 ∈ P673944 := hsb673946 q673884 hm673898
  have hsb673954 : rSub P673841 P673944 := rSub_tr hsb673901 hsb673946
  have he673955 : F673945 q673861 = .inl (I .int, 16, .inl (fun _ => 0)) := (hfr673947 q673861 hm673897 (nm_c (fun h => hq673874 (h ▸ hmq673843)) nm_n)).trans he673923
  have he673956 : F673945 q673884 = .inl (I .int, 16, .inl (fun _ => 0)) := (hfr673947 q673884 hm673898 (nm_c (fun h => hq673899 (h ▸ hmq673843)) nm_n)).trans he673924
  have hfr673957 : rFr [q673843] P673841 F673842 F673945 := rFr_call hsb673901 hfr673926 hfr673947 (fun b hb hn => ⟨(nm_c (fun e => hn (e ▸ List.mem_cons_self)) nm_n), (nm_c (fun e => hn (e ▸ List.mem_cons_self)) nm_n)⟩)
  have bo673935 := gB_any o673935
  rw [show Int32.toInt 0 = 0 from by decide] at x673937
  change G _ _ _ _ _ _ _ _ _ _ _
  have qz673958 : Int32.toInt 0 = 0 := by decide
  refine G_widen (cs' := 2 + ((16 * (o673932.toInt - 0)).toNat)) (sl' := 32 + ((160 * (o673932.toInt - 0)).toNat)) (by omega) (by omega) ?_
  exact G_vretA dr_cX14_init_45 rfl (show 2 + ((16 * (o673932.toInt - 0)).toNat) ≤ ((16 * p673845.toInt : Int).toNat + 2) by omega) (show 32 + ((160 * (o673932.toInt - 0)).toNat) ≤ ((160 * p673845.toInt : Int).toNat + 32) by omega) ⟨P673944, F673945, o673932, o673933, o673934, o673935, q673936, q673861, q673884, xt673943, rfl, rfl, hsb673954, hfr673957, he673955, he673956, he673948, he673949, hm673952, hq673874, hm673953, hq673899, (by omega), (by omega), bo673932, bo673933, bo673934, (by have qa0 : Int32.toInt (-1) = (-1) := (by decide); have qa1 : Int32.toInt 0 = 0 := (by decide); omega), (by have qa0 : Int32.toInt (-1) = (-1) := (by decide); have qa1 : Int32.toInt 0 = 0 := (by decide); omega), (by have qa0 : Int32.toInt (-1) = (-1) := (by decide); have qa1 : Int32.toInt 0 = 0 := (by decide); omega), x673940, x673941, (Ne.symm hne673902), (by have qa0 : Int32.toInt (-1) = (-1) := (by decide); have qa1 : Int32.toInt 0 = 0 := (by decide); omega), (by have qa0 : Int32.toInt (-1) = (-1) := (by decide); have qa1 : Int32.toInt 0 = 0 := (by decide); omega), glP_0, (by have qa0 : Int32.toInt (-1) = (-1) := (by decide); have qa1 : Int32.toInt 0 = 0 := (by decide); omega), (by have qa0 : Int32.toInt (-1) = (-1) := (by decide); have qa1 : Int32.toInt 0 = 0 := (by decide); omega), (by have qa0 : Int32.toInt (-1) = (-1) := (by decide); have qa1 : Int32.toInt 0 = 0 := (by decide); omega), (fun R c1 => c1 xt673943 o673932 o673933 o673934 o673935 bo673932 bo673933 bo673934 ht673942)⟩
