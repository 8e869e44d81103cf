theorem dr_cX12_init_0 : decode cX12_init 0 = .ok (.aload_n 0, 1) := by decide +kernel
theorem dr_cX12_init_1 : decode cX12_init 1 = .ok (.invokespecial 3, 3) := by decide +kernel
theorem wr_9_162 : (Jvm.Cond.methodLink "SpillForgeModel$Block" (3 : Nat) ({ cls := "java/lang/Object", name := "<init>", desc := "()V" } : Jvm.MethodName)) ∈ gw := gw_9 162 rfl rfl
theorem dr_cX12_init_4 : decode cX12_init 4 = .ok (.aload_n 0, 1) := by decide +kernel
theorem dr_cX12_init_5 : decode cX12_init 5 = .ok (.new 9, 3) := by decide +kernel
theorem wr_9_163 : (Jvm.Cond.classLink "SpillForgeModel$Block" (9 : Nat) "java/util/ArrayList") ∈ gw := gw_9 163 rfl rfl
theorem wr_7_4 : (Jvm.Cond.instantiable "java/util/ArrayList" (3 : Nat)) ∈ gw := gw_7 4 rfl rfl
theorem dr_cX12_init_8 : decode cX12_init 8 = .ok (.dup, 1) := by decide +kernel
theorem dr_cX12_init_9 : decode cX12_init 9 = .ok (.invokespecial 11, 3) := by decide +kernel
theorem wr_9_164 : (Jvm.Cond.methodLink "SpillForgeModel$Block" (11 : Nat) ({ cls := "java/util/ArrayList", name := "<init>", desc := "()V" } : Jvm.MethodName)) ∈ gw := gw_9 164 rfl rfl
theorem wr_7_7 : (Jvm.Cond.code ({ cls := "java/util/ArrayList", name := "<init>", desc := "()V" } : Jvm.MethodName) prog_43_method_2_code (1 : Nat) (Option.none : Option Jvm.ClassFile.FieldType)) ∈ gw := gw_7 7 rfl rfl
theorem wr_7_6 : (Jvm.Cond.instanceMethod ({ cls := "java/util/ArrayList", name := "<init>", desc := "()V" } : Jvm.MethodName)) ∈ gw := gw_7 6 rfl rfl
theorem dr_cX12_init_12 : decode cX12_init 12 = .ok (.putfield 12, 3) := by decide +kernel
theorem wr_9_214 : (Jvm.Cond.fieldLink "SpillForgeModel$Block" (12 : Nat) "SpillForgeModel$Block" "rows" "Ljava/util/ArrayList;") ∈ gw := gw_9 214 rfl rfl
theorem dr_cX12_init_15 : decode cX12_init 15 = .ok (.aload_n 0, 1) := by decide +kernel
theorem dr_cX12_init_16 : decode cX12_init 16 = .ok (.new 18, 3) := by decide +kernel
theorem wr_9_165 : (Jvm.Cond.classLink "SpillForgeModel$Block" (18 : Nat) "SpillForgeModel$Row") ∈ gw := gw_9 165 rfl rfl
theorem dr_cX12_init_19 : decode cX12_init 19 = .ok (.dup, 1) := by decide +kernel
theorem dr_cX12_init_20 : decode cX12_init 20 = .ok (.invokespecial 20, 3) := by decide +kernel
theorem dr_cX12_init_23 : decode cX12_init 23 = .ok (.putfield 21, 3) := by decide +kernel
theorem dr_cX12_init_26 : decode cX12_init 26 = .ok (.return_, 1) := by decide +kernel
theorem dr_cX13_block_14 : decode cX13_block 14 = .ok (.aload_n 0, 1) := by decide +kernel
theorem dr_cX13_block_15 : decode cX13_block 15 = .ok (.getfield 10, 3) := by decide +kernel
theorem dr_cX13_block_18 : decode cX13_block 18 = .ok (.new 30, 3) := by decide +kernel
theorem wr_9_158 : (Jvm.Cond.instantiable "SpillForgeModel$Block" (4 : Nat)) ∈ gw := gw_9 158 rfl rfl
theorem wr_1_38 : (Jvm.Cond.initialized "SpillForgeModel$Block") ∈ gw := gw_1 38 rfl rfl
theorem dr_cX13_block_21 : decode cX13_block 21 = .ok (.dup, 1) := by decide +kernel
theorem dr_cX13_block_22 : decode cX13_block 22 = .ok (.invokespecial 32, 3) := by decide +kernel
theorem wr_9_161 : (Jvm.Cond.code ({ cls := "SpillForgeModel$Block", name := "<init>", desc := "()V" } : Jvm.MethodName) prog_15_method_1_code (1 : Nat) (Option.none : Option Jvm.ClassFile.FieldType)) ∈ gw := gw_9 161 rfl rfl
theorem wr_9_160 : (Jvm.Cond.instanceMethod ({ cls := "SpillForgeModel$Block", name := "<init>", desc := "()V" } : Jvm.MethodName)) ∈ gw := gw_9 160 rfl rfl
theorem dr_cX13_block_25 : decode cX13_block 25 = .ok (.invokevirtual 33, 3) := by decide +kernel
theorem dr_cX13_block_28 : decode cX13_block 28 = .ok (.pop, 1) := by decide +kernel
abbrev ky_2914_Code_block : gKey := (cX13_block, 2, "SpillForgeModel$Code", (some (FieldType.object "SpillForgeModel$Block")), [], "block", fun _ _ => True)
def pp_2914_Code_block (D : va_G) (I : FieldType → ClassId) (P2890 : List Nat) (F2891 : Nat → va_E) (q2892 : Nat) (q2893 : Nat) (q2894 : Nat) (qo2895 : Nat) (p2896 : Int32) (p2897 : Int32) (p2898 : Int32) (p2899 : Int32) (f2900 : Nat → Option Nat) (n2901 : Nat) (y2902 : Nat) (x2903 : Nat) (p2904 : Int32) (p2905 : Int32) (qo2906 : Nat) (p2907 : Int32) (p2908 : Int32) : Option Value → va_W → Nat → Nat → Prop := fun r w dc ds => ∃ (F2956 : Nat → va_E) (o2953 : Int32) (o2954 : Int32), r = some (.ref x2903) ∧ w = va_pl P2890 F2956 ∧ rFr [q2892, y2902] P2890 F2891 F2956 ∧ F2956 q2892 = .inr (18, [.ref q2893, .ref qo2895, .int p2896, .int o2953]) ∧ F2956 q2893 = .inr (4, [.int p2898, .ref q2894, .int p2899]) ∧ F2956 q2894 = .inl (I (.object "java/lang/Object"), n2901, .inr (.inr (.inr (.inr f2900)))) ∧ F2956 x2903 = .inr (17, [.ref y2902, .ref qo2906, .int p2907, .int p2908]) ∧ F2956 y2902 = .inr (4, [.int o2954, .ref (D.2 1002 1), .int 0]) ∧ dc ≤ 0 ∧ ds ≤ 0 ∧ gB o2953 1 1000001 ∧ o2953.toInt = p2897.toInt + 1
set_option maxRecDepth 100000 in
set_option maxHeartbeats 4000000 in
theorem cp_2914_Code_block (l : Launch) (hl0 : l.stackTraces = false) (D : va_G) (I : FieldType → ClassId) (P2890 : List Nat) (F2891 : Nat → va_E) (q2892 : Nat) (q2893 : Nat) (q2894 : Nat) (qo2895 : Nat) (p2896 : Int32) (p2897 : Int32) (p2898 : Int32) (p2899 : Int32) (f2900 : Nat → Option Nat) (n2901 : Nat) (y2902 : Nat) (x2903 : Nat) (p2904 : Int32) (p2905 : Int32) (qo2906 : Nat) (p2907 : Int32) (p2908 : Int32) (hmq2892 : q2892 ∈ P2890) (hmq2893 : q2893 ∈ P2890) (hmq2894 : q2894 ∈ P2890) (hmy2902 : y2902 ∈ P2890) (hmx2903 : x2903 ∈ P2890) (heq2892 : F2891 q2892 = .inr (18, [.ref q2893, .ref qo2895, .int p2896, .int p2897])) (heq2893 : F2891 q2893 = .inr (4, [.int p2898, .ref q2894, .int p2899])) (heq2894 : F2891 q2894 = .inl (I (.object "java/lang/Object"), n2901, .inr (.inr (.inr (.inr f2900))))) (hey2902 : F2891 y2902 = .inr (4, [.int p2904, .ref (D.2 1002 1), .int p2905])) (hex2903 : F2891 x2903 = .inr (17, [.ref y2902, .ref qo2906, .int p2907, .int p2908])) (hneq2893y2902 : q2893 ≠ y2902) (bp2896 : gB p2896 0 1000000) (bp2897 : gB p2897 0 1000000) (bp2899 : gB p2899 0 1000000) (bp2905 : gB p2905 0 1000000) (bp2907 : gB p2907 0 39) (bp2908 : gB p2908 0 39) (x2909 : p2897.toInt < p2899.toInt) (x2910 : p2899.toInt ≤ (n2901 : Int)) (x2911 : f2900 p2897.toNatClampNeg = some x2903) (x2912 : p2905.toInt = 0) (x2913 : ((n2901 : Int) ≤ 16777216)) : CtA (gV D I) l yX13_block cX13_block 2 (some (FieldType.object "SpillForgeModel$Block")) 3 64 0 0 [.ref q2892] (va_pl P2890 F2891) (pp_2914_Code_block D I P2890 F2891 q2892 q2893 q2894 qo2895 p2896 p2897 p2898 p2899 f2900 n2901 y2902 x2903 p2904 p2905 qo2906 p2907 p2908) gNA := by
  refine CtA_of hl0 (by decide) (Nat.le_of_ble_eq_true rfl) ?_
  have bp2898 := gB_any p2898
  have bp2904 := gB_any p2904
  refine G_aload_n 0 dr_cX13_block_0 rfl ?_
  refine Gp_get 3 hmq2892 heq2892 dr_cX13_block_1 (gk_X13 D I) (Nat.le_of_ble_eq_true rfl) wr_7_33 rfl ?_
  refine G_aload_n 0 dr_cX13_block_4 rfl ?_
  refine Gp_get 0 hmq2892 heq2892 dr_cX13_block_5 (gk_X13 D I) (Nat.le_of_ble_eq_true rfl) wr_7_30 rfl ?_
  refine Gw_callV (As := []) (gV_ok D I) (cp_2281_ArrayList_size l hl0 D I P2890 F2891 q2893 q2894 p2898 p2899 f2900 n2901 hmq2893 hmq2894 heq2893 heq2894 (gB_w bp2899 (by decide) (by decide)) (by omega)) dr_cX13_block_8 ⟨wr_9_153, wr_1_18, wr_9_156, by decide, rfl, (Nat.le_of_ble_eq_true rfl), (Nat.le_of_ble_eq_true rfl)⟩ wr_9_154 wr_9_155 hmq2893 heq2893 rfl (show 0 + 0 ≤ 0 by first | omega | decide) (show 0 + 0 ≤ 0 by first | omega | decide) (Nat.le_of_ble_eq_true rfl) (fun r2918 w2919 dc2915 ds2916 hp2917 => ?_) (fun _ _ _ _ _ z => z.elim)
  obtain ⟨rfl, rfl, hdc, hds⟩ := hp2917
  change G _ _ _ _ _ _ _ (.int p2899 :: _) _ _ _
  refine G_widen (cs' := 0) (sl' := 0) (by omega) (by omega) ?_
  refine G_icmp_ne 29 dr_cX13_block_11 (by decide +kernel) (fun hc2920 => ?_) (fun hc => absurd (show False by have := gC_eq hc; omega) not_false)
  have r2922 : p2897.toInt ≠ p2899.toInt := gC_ne hc2920
  refine G_aload_n 0 dr_cX13_block_29 rfl ?_
  refine Gp_get 0 hmq2892 heq2892 dr_cX13_block_30 (gk_X13 D I) (Nat.le_of_ble_eq_true rfl) wr_7_30 rfl ?_
  refine G_aload_n 0 dr_cX13_block_33 rfl ?_
  refine Gp_get 3 hmq2892 heq2892 dr_cX13_block_34 (gk_X13 D I) (Nat.le_of_ble_eq_true rfl) wr_7_33 rfl ?_
  refine Gw_callV (As := [.int p2897]) (gV_ok D I) (cp_22_ArrayList_get l hl0 D I P2890 F2891 q2893 q2894 p2897 p2898 p2899 f2900 n2901 x2903 hmq2893 hmq2894 heq2893 heq2894 (gB_w bp2897 (by decide) (by decide)) (gB_w bp2899 (by decide) (by decide)) (by omega) (by omega) (by assumption) (by omega)) dr_cX13_block_37 ⟨wr_10_58, wr_1_18, wr_10_61, by decide, rfl, (Nat.le_of_ble_eq_true rfl), (Nat.le_of_ble_eq_true rfl)⟩ wr_10_59 wr_10_60 hmq2893 heq2893 rfl (show 0 + 0 ≤ 0 by first | omega | decide) (show 0 + 0 ≤ 0 by first | omega | decide) (Nat.le_of_ble_eq_true rfl) (fun r2926 w2927 dc2923 ds2924 hp2925 => ?_) (fun _ _ _ _ _ z => z.elim)
  obtain ⟨rfl, rfl, hdc, hds⟩ := hp2925
  change G _ _ _ _ _ _ _ (.ref x2903 :: _) _ _ _
  refine G_widen (cs' := 0) (sl' := 0) (by omega) (by omega) ?_
  refine Gp_cast hmx2903 hex2903 rfl dr_cX13_block_40 wr_9_157 (gr_cast 0 rfl) ?_
  refine G_astore_n (L' := [(1, .ref x2903), (0, .ref q2892)]) dr_cX13_block_43 (Nat.le_of_ble_eq_true rfl) rfl ?_
  refine G_aload_n 1 dr_cX13_block_44 rfl ?_
  refine G_dup dr_cX13_block_45 rfl ?_
  refine Gp_get 3 hmq2892 heq2892 dr_cX13_block_46 (gk_X13 D I) (Nat.le_of_ble_eq_true rfl) wr_7_33 rfl ?_
  refine G_iconst 1 dr_cX13_block_49 (by decide +kernel) ?_
  refine G_iadd dr_cX13_block_50 (G_nam fun z2928 hz2928 => ?_)
  have ez2928 : z2928.toInt = p2897.toInt + 1 := by rw [gI_add hz2928 bp2897 (gBl (show Int32.toInt 1 = 1 by decide)) (by decide) (by decide), show Int32.toInt 1 = 1 from by decide]
  have bz2928 : gB z2928 1 1000001 := gB_add (gI_add hz2928 bp2897 (gBl (show Int32.toInt 1 = 1 by decide)) (by decide) (by decide)) bp2897 (gBl (show Int32.toInt 1 = 1 by decide)) (by decide) (by decide)
  refine Gp_put 3 hmq2892 heq2892 dr_cX13_block_51 (gk_X13 D I) (Nat.le_of_ble_eq_true rfl) wr_7_33 rfl rfl rfl (Nat.le_of_ble_eq_true rfl) (fun F2929 e2930 n2931 => ?_)
  have he2932 : F2929 q2893 = .inr (4, [.int p2898, .ref q2894, .int p2899]) := (n2931 q2893 (rn_oo heq2893 heq2892 (by decide))).trans heq2893
  have he2933 : F2929 q2894 = .inl (I (.object "java/lang/Object"), n2901, .inr (.inr (.inr (.inr f2900)))) := (n2931 q2894 (rn_ao heq2894 heq2892)).trans heq2894
  have he2934 : F2929 y2902 = .inr (4, [.int p2904, .ref (D.2 1002 1), .int p2905]) := (n2931 y2902 (rn_oo hey2902 heq2892 (by decide))).trans hey2902
  have he2935 : F2929 x2903 = .inr (17, [.ref y2902, .ref qo2906, .int p2907, .int p2908]) := (n2931 x2903 (rn_oo hex2903 heq2892 (by decide))).trans hex2903
  have he2936 : F2929 q2892 = .inr (18, [.ref q2893, .ref qo2895, .int p2896, .int z2928]) := e2930
  have hfr2937 : rFr [q2892] P2890 F2891 F2929 := rFr_put (rFr_rf (W := []) (P := P2890) (F := F2891)) n2931
  refine G_aload_n 0 dr_cX13_block_54 rfl ?_
  refine Gp_get 0 hmx2903 he2935 dr_cX13_block_55 (gk_X12 D I) (Nat.le_of_ble_eq_true rfl) wr_9_215 rfl ?_
  refine Gw_callV (As := []) (gV_ok D I) (cp_1466_ArrayList_clear l hl0 D I P2890 F2929 y2902 p2904 p2905 hmy2902 he2934 (gB_w bp2905 (by decide) (by decide)) (by omega)) dr_cX13_block_58 ⟨wr_10_70, wr_1_18, wr_10_73, by decide, rfl, (Nat.le_of_ble_eq_true rfl), (Nat.le_of_ble_eq_true rfl)⟩ wr_10_71 wr_10_72 hmy2902 he2934 rfl (show 0 + 0 ≤ 0 by first | omega | decide) (show 0 + 0 ≤ 0 by first | omega | decide) (Nat.le_of_ble_eq_true rfl) (fun r2941 w2942 dc2938 ds2939 hp2940 => ?_) (fun _ _ _ _ _ z => z.elim)
  obtain ⟨F2944, o2943, rfl, rfl, hfr2946, he2947, hdc, hds⟩ := hp2940
  have he2948 : F2944 q2892 = .inr (18, [.ref q2893, .ref qo2895, .int p2896, .int z2928]) := (hfr2946 q2892 hmq2892 (nm_c (rn_oo he2936 he2934 (by decide)) nm_n)).trans he2936
  have he2949 : F2944 q2893 = .inr (4, [.int p2898, .ref q2894, .int p2899]) := (hfr2946 q2893 hmq2893 (nm_c hneq2893y2902 nm_n)).trans he2932
  have he2950 : F2944 q2894 = .inl (I (.object "java/lang/Object"), n2901, .inr (.inr (.inr (.inr f2900)))) := (hfr2946 q2894 hmq2894 (nm_c (rn_ao he2933 he2934) nm_n)).trans he2933
  have he2951 : F2944 x2903 = .inr (17, [.ref y2902, .ref qo2906, .int p2907, .int p2908]) := (hfr2946 x2903 hmx2903 (nm_c (rn_oo he2935 he2934 (by decide)) nm_n)).trans he2935
  have hfr2952 : rFr [q2892, y2902] P2890 F2891 F2944 := rFr_call (rSub_rf (P := P2890)) hfr2937 hfr2946 (fun b hb hn => ⟨(nm_c (fun e => hn (e ▸ List.mem_cons_self)) nm_n), (nm_c (fun e => hn (e ▸ (List.mem_cons_of_mem _ List.mem_cons_self))) nm_n)⟩)
  have bo2943 := gB_any o2943
  change G _ _ _ _ _ _ _ _ _ _ _
  refine G_widen (cs' := 0) (sl' := 0) (by omega) (by omega) ?_
  refine G_aload_n 0 dr_cX13_block_61 rfl ?_
  exact G_aretA (FieldType.object "SpillForgeModel$Block") dr_cX13_block_62 rfl (by first | exact Or.inl ⟨_, rfl⟩ | exact Or.inr ⟨_, rfl⟩) (Or.inr ⟨_, rfl⟩) (Nat.le_of_ble_eq_true rfl) (Nat.le_of_ble_eq_true rfl) ⟨F2944, z2928, o2943, rfl, rfl, hfr2952, he2948, he2949, he2950, he2951, he2947, (Nat.le_of_ble_eq_true rfl), (Nat.le_of_ble_eq_true rfl), bz2928, (by have qa0 : Int32.toInt 0 = 0 := (by decide); omega)⟩
abbrev ky_3005_Block_init : gKey := (cX12_init, 1, "SpillForgeModel$Block", none, [], "<init>", fun _ _ => True)
def pp_3005_Block_init (D : va_G) (I : FieldType → ClassId) (P3000 : List Nat) (F3001 : Nat → va_E) (q3002 : Nat) (p3003 : Int32) (p3004 : Int32) : Option Value → va_W → Nat → Nat → Prop := fun r w dc ds => ∃ (P3067 : List Nat) (F3068 : Nat → va_E) (q3065 : Nat) (q3066 : Nat), r = none ∧ w = va_pl P3067 F3068 ∧ rSub P3000 P3067 ∧ rFr [q3002] P3000 F3001 F3068 ∧ F3068 q3002 = .inr (17, [.ref q3065, .ref q3066, .int p3003, .int p3004]) ∧ F3068 q3065 = .inr (4, [.int 0, .ref (D.2 1002 1), .int 0]) ∧ F3068 q3066 = .inr (20, [.int 0, .int 0, .int 0, .int 0, .int 0, .int 0, .int 0]) ∧ q3065 ∈ P3067 ∧ q3065 ∉ P3000 ∧ q3066 ∈ P3067 ∧ q3066 ∉ P3000 ∧ dc ≤ 2 ∧ ds ≤ 10
set_option maxRecDepth 100000 in
set_option maxHeartbeats 4000000 in
theorem cp_3005_Block_init (l : Launch) (hl0 : l.stackTraces = false) (D : va_G) (I : FieldType → ClassId) (P3000 : List Nat) (F3001 : Nat → va_E) (q3002 : Nat) (p3003 : Int32) (p3004 : Int32) (hmq3002 : q3002 ∈ P3000) (heq3002 : F3001 q3002 = .inr (17, [.null, .null, .int p3003, .int p3004])) (bp3003 : gB p3003 0 39) (bp3004 : gB p3004 0 39) : CtA (gV D I) l yX12_init cX12_init 1 none 4 72 2 10 [.ref q3002] (va_pl P3000 F3001) (pp_3005_Block_init D I P3000 F3001 q3002 p3003 p3004) gNA := by
  refine CtA_of hl0 (by decide) (Nat.le_of_ble_eq_true rfl) ?_
  refine G_aload_n 0 dr_cX12_init_0 rfl ?_
  refine G_obj dr_cX12_init_1 wr_9_162 wr_1_51 wr_1_52 (Nat.le_of_ble_eq_true rfl) (Nat.le_of_ble_eq_true rfl) ?_
  refine G_aload_n 0 dr_cX12_init_4 rfl ?_
  refine G_new [.int 0, .null, .int 0] dr_cX12_init_5 (gk_Jx4a65c D I) wr_9_163 wr_7_4 wr_1_18 (gfs_Jx4a65c) (show 0 + 1 ≤ 2 by first | omega | decide) (show 0 + 3 ≤ 10 by first | omega | decide) (fun q3006 => Gp_in (fun P3007 F3008 hq3009 hP3010 e3011 n3012 => ?_))
  refine G_widen (cs' := 1) (sl' := 3) (by omega) (by omega) ?_
  have he3013 : F3008 q3002 = .inr (17, [.null, .null, .int p3003, .int p3004]) := (n3012 q3002 (fun h => hq3009 (h ▸ hmq3002))).trans heq3002
  have he3014 : F3008 q3006 = .inr (4, [.int 0, .null, .int 0]) := e3011
  have hm3015 : q3002 ∈ P3007 := (hP3010 q3002).mpr (Or.inl hmq3002)
  have hm3016 : q3006 ∈ P3007 := (hP3010 q3006).mpr (Or.inr rfl)
  have hq3017 : q3006 ∉ P3000 := fun z => hq3009 ((rSub_rf (P := P3000)) q3006 z)
  have hfr3018 : rFr [] P3000 F3001 F3008 := rFr_new (rSub_rf (P := P3000)) hq3009 (rFr_rf (W := []) (P := P3000) (F := F3001)) n3012
  have hsb3019 : rSub P3000 P3007 := rSub_new (rSub_rf (P := P3000)) hP3010
  refine G_dup dr_cX12_init_8 rfl ?_
  refine Gw_callI (As := []) (gV_ok D I) (cp_1600_ArrayList_init l hl0 D I P3007 F3008 q3006 0 0 hm3016 he3014) dr_cX12_init_9 ⟨wr_9_164, wr_1_18, wr_7_7, by decide, rfl, (Nat.le_of_ble_eq_true rfl), (Nat.le_of_ble_eq_true rfl)⟩ wr_7_6 rfl (show 1 + 0 ≤ 2 by first | omega | decide) (show 3 + 0 ≤ 10 by first | omega | decide) (Nat.le_of_ble_eq_true rfl) (fun r3023 w3024 dc3020 ds3021 hp3022 => ?_)
  obtain ⟨F3025, rfl, rfl, hfr3027, he3028, hdc, hds⟩ := hp3022
  have he3029 : F3025 q3002 = .inr (17, [.null, .null, .int p3003, .int p3004]) := (hfr3027 q3002 hm3015 (nm_c (fun h => hq3017 (h ▸ hmq3002)) nm_n)).trans he3013
  have hfr3030 : rFr [] P3000 F3001 F3025 := rFr_call hsb3019 hfr3018 hfr3027 (fun b hb hn => ⟨nm_n, (nm_c (fun e => hq3017 (e ▸ hb)) nm_n)⟩)
  change G _ _ _ _ _ _ _ _ _ _ _
  refine G_widen (cs' := 1) (sl' := 3) (by omega) (by omega) ?_
  refine Gp_putF 0 hm3015 he3029 dr_cX12_init_12 (gk_X12 D I) (Nat.le_of_ble_eq_true rfl) wr_9_214 rfl rfl rfl rfl rfl (Nat.le_of_ble_eq_true rfl) (fun F3031 e3032 n3033 => ?_)
  have he3034 : F3031 q3006 = .inr (4, [.int 0, .ref (D.2 1002 1), .int 0]) := (n3033 q3006 (fun h => hq3017 (h ▸ hmq3002))).trans he3028
  have he3035 : F3031 q3002 = .inr (17, [.ref q3006, .null, .int p3003, .int p3004]) := e3032
  have hfr3036 : rFr [q3002] P3000 F3001 F3031 := rFr_put hfr3030 n3033
  refine G_aload_n 0 dr_cX12_init_15 rfl ?_
  refine G_new [.int 0, .int 0, .int 0, .int 0, .int 0, .int 0, .int 0] dr_cX12_init_16 (gk_X15 D I) wr_9_165 wr_9_166 wr_1_39 (gfs_X15) (show 1 + 1 ≤ 2 by first | omega | decide) (show 3 + 7 ≤ 10 by first | omega | decide) (fun q3037 => Gp_in (fun P3038 F3039 hq3040 hP3041 e3042 n3043 => ?_))
  refine G_widen (cs' := 2) (sl' := 10) (by omega) (by omega) ?_
  have he3044 : F3039 q3002 = .inr (17, [.ref q3006, .null, .int p3003, .int p3004]) := (n3043 q3002 (fun h => hq3040 (h ▸ hm3015))).trans he3035
  have he3045 : F3039 q3006 = .inr (4, [.int 0, .ref (D.2 1002 1), .int 0]) := (n3043 q3006 (fun h => hq3040 (h ▸ hm3016))).trans he3034
  have he3046 : F3039 q3037 = .inr (20, [.int 0, .int 0, .int 0, .int 0, .int 0, .int 0, .int 0]) := e3042
  have hm3047 : q3002 ∈ P3038 := (hP3041 q3002).mpr (Or.inl hm3015)
  have hm3048 : q3006 ∈ P3038 := (hP3041 q3006).mpr (Or.inl hm3016)
  have hm3049 : q3037 ∈ P3038 := (hP3041 q3037).mpr (Or.inr rfl)
  have hq3050 : q3037 ∉ P3000 := fun z => hq3040 (hsb3019 q3037 z)
  have hfr3051 : rFr [q3002] P3000 F3001 F3039 := rFr_new hsb3019 hq3040 hfr3036 n3043
  have hsb3052 : rSub P3000 P3038 := rSub_new hsb3019 hP3041
  refine G_dup dr_cX12_init_19 rfl ?_
  refine Gw_callIN (As := []) (gV_ok D I) (cp_2408_Row_init l hl0 D I P3038 F3039 q3037 0 0 0 0 0 0 0 hm3049 he3046 (gB_w (gBl (show Int32.toInt 0 = 0 by decide)) (by decide) (by decide)) (gB_w (gBl (show Int32.toInt 0 = 0 by decide)) (by decide) (by decide)) (gB_w (gBl (show Int32.toInt 0 = 0 by decide)) (by decide) (by decide)) (gB_w (gBl (show Int32.toInt 0 = 0 by decide)) (by decide) (by decide)) (gB_w (gBl (show Int32.toInt 0 = 0 by decide)) (by decide) (by decide))) dr_cX12_init_20 ⟨(fun _ _ _ h => gn_w 79 rfl h), wr_1_39, wr_9_169, by decide, rfl, (Nat.le_of_ble_eq_true rfl), (Nat.le_of_ble_eq_true rfl)⟩ wr_9_168 rfl (show 2 + 0 ≤ 2 by first | omega | decide) (show 10 + 0 ≤ 10 by first | omega | decide) (Nat.le_of_ble_eq_true rfl) (fun r3056 w3057 dc3053 ds3054 hp3055 => ?_)
  obtain ⟨rfl, rfl, hdc, hds⟩ := hp3055
  change G _ _ _ _ _ _ _ _ _ _ _
  refine G_widen (cs' := 2) (sl' := 10) (by omega) (by omega) ?_
  refine Gp_putF 1 hm3047 he3044 dr_cX12_init_23 (gk_X12 D I) (Nat.le_of_ble_eq_true rfl) wr_9_218 rfl rfl rfl rfl rfl (Nat.le_of_ble_eq_true rfl) (fun F3058 e3059 n3060 => ?_)
  have he3061 : F3058 q3006 = .inr (4, [.int 0, .ref (D.2 1002 1), .int 0]) := (n3060 q3006 (fun h => hq3017 (h ▸ hmq3002))).trans he3045
  have he3062 : F3058 q3037 = .inr (20, [.int 0, .int 0, .int 0, .int 0, .int 0, .int 0, .int 0]) := (n3060 q3037 (fun h => hq3050 (h ▸ hmq3002))).trans he3046
  have he3063 : F3058 q3002 = .inr (17, [.ref q3006, .ref q3037, .int p3003, .int p3004]) := e3059
  have hfr3064 : rFr [q3002] P3000 F3001 F3058 := rFr_put' List.mem_cons_self hfr3051 n3060
  exact G_vretA dr_cX12_init_26 rfl (Nat.le_of_ble_eq_true rfl) (Nat.le_of_ble_eq_true rfl) ⟨P3038, F3058, q3006, q3037, rfl, rfl, hsb3052, hfr3064, he3063, he3061, he3062, hm3048, hq3017, hm3049, hq3050, (Nat.le_of_ble_eq_true rfl), (Nat.le_of_ble_eq_true rfl)⟩
abbrev ky_3161_ArrayList_add : gKey := (cJx4a65c_add_72be8, 4, "java/util/ArrayList", none, [], "add", fun _ _ => True)
def pp_3161_ArrayList_add (D : va_G) (I : FieldType → ClassId) (P3134 : List Nat) (F3135 : Nat → va_E) (q3136 : Nat) (q3137 : Nat) (q3138 : Nat) (q3139 : Nat) (q3140 : Nat) (p3141 : Int32) (p3142 : Int32) (p3143 : Int32) (p3144 : Int32) (p3145 : Int32) (f3146 : Nat → Option Nat) (n3147 : Nat) (p3148 : Int32) (p3149 : Int32) (p3150 : Int32) (p3151 : Int32) (p3152 : Int32) (p3153 : Int32) (p3154 : Int32) (p3155 : Int32) (p3156 : Int32) : Option Value → va_W → Nat → Nat → Prop := fun r w dc ds => ∃ (F3189 : Nat → va_E) (o3186 : Int32) (f3187 : Nat → Option Nat), r = none ∧ w = va_pl P3134 F3189 ∧ rFr [q3136, q3138] P3134 F3135 F3189 ∧ F3189 q3136 = .inr (4, [.int p3142, .ref q3138, .int o3186]) ∧ F3189 q3137 = .inr (17, [.ref q3139, .ref q3140, .int p3144, .int p3145]) ∧ F3189 q3138 = .inl (I (.object "java/lang/Object"), n3147, .inr (.inr (.inr (.inr f3187)))) ∧ F3189 q3139 = .inr (4, [.int p3148, .ref (D.2 1002 1), .int p3149]) ∧ F3189 q3140 = .inr (20, [.int p3150, .int p3151, .int p3152, .int p3153, .int p3154, .int p3155, .int p3156]) ∧ dc ≤ 0 ∧ ds ≤ 0 ∧ gB o3186 1 16777217 ∧ o3186.toInt = p3143.toInt + 1 ∧ ((∀ j : Nat, (j : Int) < p3143.toInt → f3187 j = f3146 j) ∧ f3187 p3141.toInt.toNat = some q3137) ∧ rSrcX f3187 f3146 q3137
set_option maxRecDepth 100000 in
set_option maxHeartbeats 4000000 in
theorem cp_3161_ArrayList_add (l : Launch) (hl0 : l.stackTraces = false) (D : va_G) (I : FieldType → ClassId) (P3134 : List Nat) (F3135 : Nat → va_E) (q3136 : Nat) (q3137 : Nat) (q3138 : Nat) (q3139 : Nat) (q3140 : Nat) (p3141 : Int32) (p3142 : Int32) (p3143 : Int32) (p3144 : Int32) (p3145 : Int32) (f3146 : Nat → Option Nat) (n3147 : Nat) (p3148 : Int32) (p3149 : Int32) (p3150 : Int32) (p3151 : Int32) (p3152 : Int32) (p3153 : Int32) (p3154 : Int32) (p3155 : Int32) (p3156 : Int32) (hmq3136 : q3136 ∈ P3134) (hmq3137 : q3137 ∈ P3134) (hmq3138 : q3138 ∈ P3134) (hmq3139 : q3139 ∈ P3134) (hmq3140 : q3140 ∈ P3134) (heq3136 : F3135 q3136 = .inr (4, [.int p3142, .ref q3138, .int p3143])) (heq3137 : F3135 q3137 = .inr (17, [.ref q3139, .ref q3140, .int p3144, .int p3145])) (heq3138 : F3135 q3138 = .inl (I (.object "java/lang/Object"), n3147, .inr (.inr (.inr (.inr f3146))))) (heq3139 : F3135 q3139 = .inr (4, [.int p3148, .ref (D.2 1002 1), .int p3149])) (heq3140 : F3135 q3140 = .inr (20, [.int p3150, .int p3151, .int p3152, .int p3153, .int p3154, .int p3155, .int p3156])) (hneq3136q3139 : q3136 ≠ q3139) (bp3141 : gB p3141 0 16777216) (bp3143 : gB p3143 0 16777216) (bp3144 : gB p3144 0 39) (bp3145 : gB p3145 0 39) (bp3149 : gB p3149 0 16777216) (bp3150 : gB p3150 0 32) (bp3151 : gB p3151 0 1999) (bp3154 : gB p3154 0 1999) (bp3155 : gB p3155 0 1) (bp3156 : gB p3156 0 1) (x3157 : p3143.toInt < (n3147 : Int)) (x3158 : p3141.toInt = p3143.toInt) (x3159 : rEl P3134 F3135 f3146) (x3160 : ((n3147 : Int) ≤ 16777216)) : CtA (gV D I) l yJx4a65c_add_72be8 cJx4a65c_add_72be8 4 none 0 0 0 0 [.ref q3136, .ref q3137, .ref q3138, .int p3141] (va_pl P3134 F3135) (pp_3161_ArrayList_add D I P3134 F3135 q3136 q3137 q3138 q3139 q3140 p3141 p3142 p3143 p3144 p3145 f3146 n3147 p3148 p3149 p3150 p3151 p3152 p3153 p3154 p3155 p3156) gNA := by
  refine CtA_ofF hl0 (by decide +kernel) (Nat.le_of_ble_eq_true rfl) ?_
  have bp3142 := gB_any p3142
  have bp3148 := gB_any p3148
  have bp3152 := gB_any p3152
  have bp3153 := gB_any p3153
  refine G_iload_n 3 dr_cJx4a65c_add_72be8_0 rfl ?_
  refine G_aload_n 2 dr_cJx4a65c_add_72be8_1 rfl ?_
  refine Gp_alen (Int32.ofNat n3147) 4 hmq3138 heq3138 dr_cJx4a65c_add_72be8_2 rfl rfl (G_nam fun z3162 hz3162 => ?_)
  have ez3162 : z3162.toInt = (n3147 : Nat) := gI_ofM hz3162 (by omega)
  have bz3162 : gB z3162 0 16777216 := ⟨by omega, by omega⟩
  refine G_icmp_ne 11 dr_cJx4a65c_add_72be8_3 (by decide +kernel) (fun hc3163 => ?_) (fun hc => absurd (show False by have := gC_eq hc; omega) not_false)
  have r3165 : p3141.toInt ≠ z3162.toInt := gC_ne hc3163
  refine G_aload_n 2 dr_cJx4a65c_add_72be8_11 rfl ?_
  refine G_iload_n 3 dr_cJx4a65c_add_72be8_12 rfl ?_
  refine G_aload_n 1 dr_cJx4a65c_add_72be8_13 rfl ?_
  refine Gp_aast 4 hmq3138 heq3138 dr_cJx4a65c_add_72be8_14 rfl ⟨hmq3137, _, _, _, _, _, heq3137, rfl, gr_cast 2 rfl⟩ (gB_inr (by omega) (by omega)) (fun F3166 e3167 n3168 => ?_)
  obtain ⟨f3169, hf3169⟩ : ∃ z, z = va_up f3146 p3141.toNatClampNeg (some q3137) := ⟨_, rfl⟩
  rw [← hf3169] at e3167
  have he3170 : F3166 q3136 = .inr (4, [.int p3142, .ref q3138, .int p3143]) := (n3168 q3136 (rn_oa heq3136 heq3138)).trans heq3136
  have he3171 : F3166 q3137 = .inr (17, [.ref q3139, .ref q3140, .int p3144, .int p3145]) := (n3168 q3137 (rn_oa heq3137 heq3138)).trans heq3137
  have he3172 : F3166 q3139 = .inr (4, [.int p3148, .ref (D.2 1002 1), .int p3149]) := (n3168 q3139 (rn_oa heq3139 heq3138)).trans heq3139
  have he3173 : F3166 q3140 = .inr (20, [.int p3150, .int p3151, .int p3152, .int p3153, .int p3154, .int p3155, .int p3156]) := (n3168 q3140 (rn_oa heq3140 heq3138)).trans heq3140
  have he3174 : F3166 q3138 = .inl (I (.object "java/lang/Object"), n3147, .inr (.inr (.inr (.inr f3169)))) := e3167
  have hfr3175 : rFr [q3138] P3134 F3135 F3166 := rFr_put (rFr_rf (W := []) (P := P3134) (F := F3135)) n3168
  refine G_aload_n 0 dr_cJx4a65c_add_72be8_15 rfl ?_
  refine G_iload_n 3 dr_cJx4a65c_add_72be8_16 rfl ?_
  refine G_iconst 1 dr_cJx4a65c_add_72be8_17 (by decide +kernel) ?_
  refine G_iadd dr_cJx4a65c_add_72be8_18 (G_nam fun z3176 hz3176 => ?_)
  have ez3176 : z3176.toInt = p3141.toInt + 1 := by rw [gI_add hz3176 bp3141 (gBl (show Int32.toInt 1 = 1 by decide)) (by decide) (by decide), show Int32.toInt 1 = 1 from by decide]
  have bz3176 : gB z3176 1 16777217 := gB_add (gI_add hz3176 bp3141 (gBl (show Int32.toInt 1 = 1 by decide)) (by decide) (by decide)) bp3141 (gBl (show Int32.toInt 1 = 1 by decide)) (by decide) (by decide)
  refine Gp_put 2 hmq3136 he3170 dr_cJx4a65c_add_72be8_19 (gk_Jx4a65c D I) (Nat.le_of_ble_eq_true rfl) wr_7_18 rfl rfl rfl (Nat.le_of_ble_eq_true rfl) (fun F3177 e3178 n3179 => ?_)
  have he3180 : F3177 q3137 = .inr (17, [.ref q3139, .ref q3140, .int p3144, .int p3145]) := (n3179 q3137 (rn_oo he3171 he3170 (by decide))).trans he3171
  have he3181 : F3177 q3138 = .inl (I (.object "java/lang/Object"), n3147, .inr (.inr (.inr (.inr f3169)))) := (n3179 q3138 (rn_ao he3174 he3170)).trans he3174
  have he3182 : F3177 q3139 = .inr (4, [.int p3148, .ref (D.2 1002 1), .int p3149]) := (n3179 q3139 (Ne.symm hneq3136q3139)).trans he3172
  have he3183 : F3177 q3140 = .inr (20, [.int p3150, .int p3151, .int p3152, .int p3153, .int p3154, .int p3155, .int p3156]) := (n3179 q3140 (rn_oo he3173 he3170 (by decide))).trans he3173
  have he3184 : F3177 q3136 = .inr (4, [.int p3142, .ref q3138, .int z3176]) := e3178
  have hfr3185 : rFr [q3136, q3138] P3134 F3135 F3177 := rFr_put hfr3175 n3179
  exact G_vretA dr_cJx4a65c_add_72be8_22 rfl (Nat.le_of_ble_eq_true rfl) (Nat.le_of_ble_eq_true rfl) ⟨F3177, z3176, f3169, rfl, rfl, hfr3185, he3184, he3180, he3181, he3182, he3183, (Nat.le_of_ble_eq_true rfl), (Nat.le_of_ble_eq_true rfl), bz3176, (by omega), (rI_add (fun _ _ => rfl) hf3169 (by omega) (by omega)), (rSrcX_up hf3169 rSrc_rf)⟩
abbrev ky_3123_ArrayList_add : gKey := (cJx4a65c_add_9ea2d, 2, "java/util/ArrayList", (some FieldType.boolean), [], "add", fun _ _ => True)
def pp_3123_ArrayList_add (D : va_G) (I : FieldType → ClassId) (P3098 : List Nat) (F3099 : Nat → va_E) (q3100 : Nat) (q3101 : Nat) (q3102 : Nat) (q3103 : Nat) (q3104 : Nat) (p3105 : Int32) (p3106 : Int32) (p3107 : Int32) (p3108 : Int32) (f3109 : Nat → Option Nat) (n3110 : Nat) (p3111 : Int32) (p3112 : Int32) (p3113 : Int32) (p3114 : Int32) (p3115 : Int32) (p3116 : Int32) (p3117 : Int32) (p3118 : Int32) (p3119 : Int32) : Option Value → va_W → Nat → Nat → Prop := fun r w dc ds => ∃ (F3213 : Nat → va_E) (o3209 : Int32) (o3210 : Int32) (f3211 : Nat → Option Nat), r = some (.int 1) ∧ w = va_pl P3098 F3213 ∧ rFr [q3100, q3102] P3098 F3099 F3213 ∧ F3213 q3100 = .inr (4, [.int o3209, .ref q3102, .int o3210]) ∧ F3213 q3101 = .inr (17, [.ref q3103, .ref q3104, .int p3107, .int p3108]) ∧ F3213 q3102 = .inl (I (.object "java/lang/Object"), n3110, .inr (.inr (.inr (.inr f3211)))) ∧ F3213 q3103 = .inr (4, [.int p3111, .ref (D.2 1002 1), .int p3112]) ∧ F3213 q3104 = .inr (20, [.int p3113, .int p3114, .int p3115, .int p3116, .int p3117, .int p3118, .int p3119]) ∧ dc ≤ 0 ∧ ds ≤ 0 ∧ gB o3210 1 16777217 ∧ o3210.toInt = p3106.toInt + 1 ∧ ((∀ j : Nat, (j : Int) < p3106.toInt → f3211 j = f3109 j) ∧ f3211 p3106.toInt.toNat = some q3101) ∧ rSrcX f3211 f3109 q3101
set_option maxRecDepth 100000 in
set_option maxHeartbeats 4000000 in
theorem cp_3123_ArrayList_add (l : Launch) (hl0 : l.stackTraces = false) (D : va_G) (I : FieldType → ClassId) (P3098 : List Nat) (F3099 : Nat → va_E) (q3100 : Nat) (q3101 : Nat) (q3102 : Nat) (q3103 : Nat) (q3104 : Nat) (p3105 : Int32) (p3106 : Int32) (p3107 : Int32) (p3108 : Int32) (f3109 : Nat → Option Nat) (n3110 : Nat) (p3111 : Int32) (p3112 : Int32) (p3113 : Int32) (p3114 : Int32) (p3115 : Int32) (p3116 : Int32) (p3117 : Int32) (p3118 : Int32) (p3119 : Int32) (hmq3100 : q3100 ∈ P3098) (hmq3101 : q3101 ∈ P3098) (hmq3102 : q3102 ∈ P3098) (hmq3103 : q3103 ∈ P3098) (hmq3104 : q3104 ∈ P3098) (heq3100 : F3099 q3100 = .inr (4, [.int p3105, .ref q3102, .int p3106])) (heq3101 : F3099 q3101 = .inr (17, [.ref q3103, .ref q3104, .int p3107, .int p3108])) (heq3102 : F3099 q3102 = .inl (I (.object "java/lang/Object"), n3110, .inr (.inr (.inr (.inr f3109))))) (heq3103 : F3099 q3103 = .inr (4, [.int p3111, .ref (D.2 1002 1), .int p3112])) (heq3104 : F3099 q3104 = .inr (20, [.int p3113, .int p3114, .int p3115, .int p3116, .int p3117, .int p3118, .int p3119])) (hneq3100q3103 : q3100 ≠ q3103) (bp3106 : gB p3106 0 16777216) (bp3107 : gB p3107 0 39) (bp3108 : gB p3108 0 39) (bp3112 : gB p3112 0 16777216) (bp3113 : gB p3113 0 32) (bp3114 : gB p3114 0 1999) (bp3117 : gB p3117 0 1999) (bp3118 : gB p3118 0 1) (bp3119 : gB p3119 0 1) (x3120 : p3106.toInt < (n3110 : Int)) (x3121 : rEl P3098 F3099 f3109) (x3122 : ((n3110 : Int) ≤ 16777216)) : CtA (gV D I) l yJx4a65c_add_9ea2d cJx4a65c_add_9ea2d 2 (some FieldType.boolean) 1 23 0 0 [.ref q3100, .ref q3101] (va_pl P3098 F3099) (pp_3123_ArrayList_add D I P3098 F3099 q3100 q3101 q3102 q3103 q3104 p3105 p3106 p3107 p3108 f3109 n3110 p3111 p3112 p3113 p3114 p3115 p3116 p3117 p3118 p3119) gNA := by
  refine CtA_ofF hl0 (by decide +kernel) (Nat.le_of_ble_eq_true rfl) ?_
  have bp3105 := gB_any p3105
  have bp3111 := gB_any p3111
  have bp3115 := gB_any p3115
  have bp3116 := gB_any p3116
  refine G_aload_n 0 dr_cJx4a65c_add_9ea2d_0 rfl ?_
  refine G_dup dr_cJx4a65c_add_9ea2d_1 rfl ?_
  refine Gp_getS 0 hmq3100 heq3100 dr_cJx4a65c_add_9ea2d_2 (gk_Jx4a65c D I) (Nat.le_of_ble_eq_true rfl) wr_7_20 wr_7_21 rfl ?_
  refine G_iconst 1 dr_cJx4a65c_add_9ea2d_5 (by decide +kernel) ?_
  refine G_iadd dr_cJx4a65c_add_9ea2d_6 (G_nam fun z3124 hz3124 => ?_)
  have bz3124 : gB z3124 (-2147483648) 2147483647 := gB_any z3124
  refine Gp_putS 0 hmq3100 heq3100 dr_cJx4a65c_add_9ea2d_7 (gk_Jx4a65c D I) (Nat.le_of_ble_eq_true rfl) wr_7_20 wr_7_21 rfl rfl rfl (Nat.le_of_ble_eq_true rfl) (fun F3125 e3126 n3127 => ?_)
  have he3128 : F3125 q3101 = .inr (17, [.ref q3103, .ref q3104, .int p3107, .int p3108]) := (n3127 q3101 (rn_oo heq3101 heq3100 (by decide))).trans heq3101
  have he3129 : F3125 q3102 = .inl (I (.object "java/lang/Object"), n3110, .inr (.inr (.inr (.inr f3109)))) := (n3127 q3102 (rn_ao heq3102 heq3100)).trans heq3102
  have he3130 : F3125 q3103 = .inr (4, [.int p3111, .ref (D.2 1002 1), .int p3112]) := (n3127 q3103 (Ne.symm hneq3100q3103)).trans heq3103
  have he3131 : F3125 q3104 = .inr (20, [.int p3113, .int p3114, .int p3115, .int p3116, .int p3117, .int p3118, .int p3119]) := (n3127 q3104 (rn_oo heq3104 heq3100 (by decide))).trans heq3104
  have he3132 : F3125 q3100 = .inr (4, [.int z3124, .ref q3102, .int p3106]) := e3126
  have hfr3133 : rFr [q3100] P3098 F3099 F3125 := rFr_put (rFr_rf (W := []) (P := P3098) (F := F3099)) n3127
  refine G_aload_n 0 dr_cJx4a65c_add_9ea2d_10 rfl ?_
  refine G_aload_n 1 dr_cJx4a65c_add_9ea2d_11 rfl ?_
  refine G_aload_n 0 dr_cJx4a65c_add_9ea2d_12 rfl ?_
  refine Gp_get 1 hmq3100 he3132 dr_cJx4a65c_add_9ea2d_13 (gk_Jx4a65c D I) (Nat.le_of_ble_eq_true rfl) wr_7_17 rfl ?_
  refine G_aload_n 0 dr_cJx4a65c_add_9ea2d_16 rfl ?_
  refine Gp_get 2 hmq3100 he3132 dr_cJx4a65c_add_9ea2d_17 (gk_Jx4a65c D I) (Nat.le_of_ble_eq_true rfl) wr_7_18 rfl ?_
  refine Gw_callV (As := [.ref q3101, .ref q3102, .int p3106]) (gV_ok D I) (cp_3161_ArrayList_add l hl0 D I P3098 F3125 q3100 q3101 q3102 q3103 q3104 p3106 z3124 p3106 p3107 p3108 f3109 n3110 p3111 p3112 p3113 p3114 p3115 p3116 p3117 p3118 p3119 hmq3100 hmq3101 hmq3102 hmq3103 hmq3104 he3132 he3128 he3129 he3130 he3131 hneq3100q3103 bp3106 bp3106 bp3107 bp3108 bp3112 bp3113 bp3114 bp3117 bp3118 bp3119 (by omega) (by omega) (rEl_frG (rEl_src x3121 rSrc_rf) (rSub_rf (P := P3098)) hfr3133 (rNg_c (rNg_o heq3100 (by decide) (by decide)) rNg_n)) (by omega)) dr_cJx4a65c_add_9ea2d_20 ⟨wr_10_3, wr_1_18, wr_10_6, by decide, rfl, (Nat.le_of_ble_eq_true rfl), (Nat.le_of_ble_eq_true rfl)⟩ wr_10_5 wr_p_85 hmq3100 he3132 rfl (show 0 + 0 ≤ 0 by first | omega | decide) (show 0 + 0 ≤ 0 by first | omega | decide) (Nat.le_of_ble_eq_true rfl) (fun r3193 w3194 dc3190 ds3191 hp3192 => ?_) (fun _ _ _ _ _ z => z.elim)
  obtain ⟨F3200, o3195, f3196, rfl, rfl, hfr3202, he3203, he3204, he3205, he3206, he3207, hdc, hds, bo3195, x3197, x3198, x3199⟩ := hp3192
  have hfr3208 : rFr [q3100, q3102] P3098 F3099 F3200 := rFr_call (rSub_rf (P := P3098)) hfr3133 hfr3202 (fun b hb hn => ⟨(nm_c (fun e => hn (e ▸ List.mem_cons_self)) nm_n), (nm_c (fun e => hn (e ▸ List.mem_cons_self)) (nm_c (fun e => hn (e ▸ (List.mem_cons_of_mem _ List.mem_cons_self))) nm_n))⟩)
  change G _ _ _ _ _ _ _ _ _ _ _
  refine G_widen (cs' := 0) (sl' := 0) (by omega) (by omega) ?_
  refine G_iconst 1 dr_cJx4a65c_add_9ea2d_23 (by decide +kernel) ?_
  exact G_zretA FieldType.boolean dr_cJx4a65c_add_9ea2d_24 rfl rfl (Nat.le_of_ble_eq_true rfl) (Nat.le_of_ble_eq_true rfl) ⟨F3200, z3124, o3195, f3196, rfl, rfl, hfr3208, he3203, he3204, he3205, he3206, he3207, (Nat.le_of_ble_eq_true rfl), (Nat.le_of_ble_eq_true rfl), bo3195, (by omega), (by assumption), (by assumption)⟩
abbrev ky_2973_Code_block : gKey := (cX13_block, 2, "SpillForgeModel$Code", (some (FieldType.object "SpillForgeModel$Block")), [], "block", fun _ _ => True)
def pp_2973_Code_block (D : va_G) (I : FieldType → ClassId) (P2957 : List Nat) (F2958 : Nat → va_E) (q2959 : Nat) (q2960 : Nat) (q2961 : Nat) (qo2962 : Nat) (p2963 : Int32) (p2964 : Int32) (p2965 : Int32) (p2966 : Int32) (f2967 : Nat → Option Nat) (n2968 : Nat) : Option Value → va_W → Nat → Nat → Prop := fun r w dc ds => ∃ (P3276 : List Nat) (F3277 : Nat → va_E) (o3268 : Int32) (q3269 : Nat) (o3270 : Int32) (o3271 : Int32) (q3272 : Nat) (o3273 : Int32) (q3274 : Nat) (f3275 : Nat → Option Nat), r = some (.ref q3269) ∧ w = va_pl P3276 F3277 ∧ rSub P2957 P3276 ∧ rFr [q2959, q2960, q2961] P2957 F2958 F3277 ∧ F3277 q2959 = .inr (18, [.ref q2960, .ref qo2962, .int p2963, .int o3268]) ∧ F3277 q2960 = .inr (4, [.int o3270, .ref q2961, .int o3271]) ∧ F3277 q3269 = .inr (17, [.ref q3272, .ref q3274, .int 0, .int 0]) ∧ F3277 q2961 = .inl (I (.object "java/lang/Object"), n2968, .inr (.inr (.inr (.inr f3275)))) ∧ F3277 q3274 = .inr (20, [.int 0, .int 0, .int 0, .int 0, .int 0, .int 0, .int 0]) ∧ F3277 q3272 = .inr (4, [.int o3273, .ref (D.2 1002 1), .int 0]) ∧ q3269 ∈ P3276 ∧ q3269 ∉ P2957 ∧ q3272 ∈ P3276 ∧ q3272 ∉ P2957 ∧ q3274 ∈ P3276 ∧ q3274 ∉ P2957 ∧ dc ≤ 3 ∧ ds ≤ 14 ∧ gB o3268 1 1000001 ∧ gB o3271 1 16777217 ∧ o3268.toInt = p2964.toInt + 1 ∧ o3271.toInt = p2966.toInt + 1 ∧ ((∀ j : Nat, (j : Int) < p2966.toInt → f3275 j = f2967 j) ∧ f3275 p2966.toInt.toNat = some q3269) ∧ rSrcX f3275 f2967 q3269
set_option maxRecDepth 100000 in
set_option maxHeartbeats 4000000 in
theorem cp_2973_Code_block (l : Launch) (hl0 : l.stackTraces = false) (D : va_G) (I : FieldType → ClassId) (P2957 : List Nat) (F2958 : Nat → va_E) (q2959 : Nat) (q2960 : Nat) (q2961 : Nat) (qo2962 : Nat) (p2963 : Int32) (p2964 : Int32) (p2965 : Int32) (p2966 : Int32) (f2967 : Nat → Option Nat) (n2968 : Nat) (hmq2959 : q2959 ∈ P2957) (hmq2960 : q2960 ∈ P2957) (hmq2961 : q2961 ∈ P2957) (heq2959 : F2958 q2959 = .inr (18, [.ref q2960, .ref qo2962, .int p2963, .int p2964])) (heq2960 : F2958 q2960 = .inr (4, [.int p2965, .ref q2961, .int p2966])) (heq2961 : F2958 q2961 = .inl (I (.object "java/lang/Object"), n2968, .inr (.inr (.inr (.inr f2967))))) (bp2963 : gB p2963 0 1000000) (bp2964 : gB p2964 0 1000000) (bp2966 : gB p2966 0 1000000) (x2969 : p2964.toInt = p2966.toInt) (x2970 : p2966.toInt < (n2968 : Int)) (x2971 : rEl P2957 F2958 f2967) (x2972 : ((n2968 : Int) ≤ 16777216)) : CtA (gV D I) l yX13_block cX13_block 2 (some (FieldType.object "SpillForgeModel$Block")) 5 92 3 14 [.ref q2959] (va_pl P2957 F2958) (pp_2973_Code_block D I P2957 F2958 q2959 q2960 q2961 qo2962 p2963 p2964 p2965 p2966 f2967 n2968) gNA := by
  refine CtA_of hl0 (by decide) (Nat.le_of_ble_eq_true rfl) ?_
  have bp2965 := gB_any p2965
  refine G_aload_n 0 dr_cX13_block_0 rfl ?_
  refine Gp_get 3 hmq2959 heq2959 dr_cX13_block_1 (gk_X13 D I) (Nat.le_of_ble_eq_true rfl) wr_7_33 rfl ?_
  refine G_aload_n 0 dr_cX13_block_4 rfl ?_
  refine Gp_get 0 hmq2959 heq2959 dr_cX13_block_5 (gk_X13 D I) (Nat.le_of_ble_eq_true rfl) wr_7_30 rfl ?_
  refine Gw_callV (As := []) (gV_ok D I) (cp_2281_ArrayList_size l hl0 D I P2957 F2958 q2960 q2961 p2965 p2966 f2967 n2968 hmq2960 hmq2961 heq2960 heq2961 (gB_w bp2966 (by decide) (by decide)) (by omega)) dr_cX13_block_8 ⟨wr_9_153, wr_1_18, wr_9_156, by decide, rfl, (Nat.le_of_ble_eq_true rfl), (Nat.le_of_ble_eq_true rfl)⟩ wr_9_154 wr_9_155 hmq2960 heq2960 rfl (show 0 + 0 ≤ 3 by first | omega | decide) (show 0 + 0 ≤ 14 by first | omega | decide) (Nat.le_of_ble_eq_true rfl) (fun r2977 w2978 dc2974 ds2975 hp2976 => ?_) (fun _ _ _ _ _ z => z.elim)
  obtain ⟨rfl, rfl, hdc, hds⟩ := hp2976
  change G _ _ _ _ _ _ _ (.int p2966 :: _) _ _ _
  refine G_widen (cs' := 0) (sl' := 0) (by omega) (by omega) ?_
  refine G_icmp_ne 29 dr_cX13_block_11 (by decide +kernel) (fun hc => absurd (show False by have := gC_ne hc; omega) not_false) (fun hc2979 => ?_)
  have r2981 : p2964.toInt = p2966.toInt := gC_eq hc2979
  refine G_aload_n 0 dr_cX13_block_14 rfl ?_
  refine Gp_get 0 hmq2959 heq2959 dr_cX13_block_15 (gk_X13 D I) (Nat.le_of_ble_eq_true rfl) wr_7_30 rfl ?_
  refine G_new [.null, .null, .int 0, .int 0] dr_cX13_block_18 (gk_X12 D I) wr_9_157 wr_9_158 wr_1_38 (gfs_X12) (show 0 + 1 ≤ 3 by first | omega | decide) (show 0 + 4 ≤ 14 by first | omega | decide) (fun q2982 => Gp_in (fun P2983 F2984 hq2985 hP2986 e2987 n2988 => ?_))
  refine G_widen (cs' := 1) (sl' := 4) (by omega) (by omega) ?_
  have he2989 : F2984 q2959 = .inr (18, [.ref q2960, .ref qo2962, .int p2963, .int p2964]) := (n2988 q2959 (fun h => hq2985 (h ▸ hmq2959))).trans heq2959
  have he2990 : F2984 q2960 = .inr (4, [.int p2965, .ref q2961, .int p2966]) := (n2988 q2960 (fun h => hq2985 (h ▸ hmq2960))).trans heq2960
  have he2991 : F2984 q2961 = .inl (I (.object "java/lang/Object"), n2968, .inr (.inr (.inr (.inr f2967)))) := (n2988 q2961 (fun h => hq2985 (h ▸ hmq2961))).trans heq2961
  have he2992 : F2984 q2982 = .inr (17, [.null, .null, .int 0, .int 0]) := e2987
  have hm2993 : q2959 ∈ P2983 := (hP2986 q2959).mpr (Or.inl hmq2959)
  have hm2994 : q2960 ∈ P2983 := (hP2986 q2960).mpr (Or.inl hmq2960)
  have hm2995 : q2961 ∈ P2983 := (hP2986 q2961).mpr (Or.inl hmq2961)
  have hm2996 : q2982 ∈ P2983 := (hP2986 q2982).mpr (Or.inr rfl)
  have hq2997 : q2982 ∉ P2957 := fun z => hq2985 ((rSub_rf (P := P2957)) q2982 z)
  have hfr2998 : rFr [] P2957 F2958 F2984 := rFr_new (rSub_rf (P := P2957)) hq2985 (rFr_rf (W := []) (P := P2957) (F := F2958)) n2988
  have hsb2999 : rSub P2957 P2983 := rSub_new (rSub_rf (P := P2957)) hP2986
  refine G_dup dr_cX13_block_21 rfl ?_
  refine Gw_callIN (As := []) (gV_ok D I) (cp_3005_Block_init l hl0 D I P2983 F2984 q2982 0 0 hm2996 he2992 (gB_w (gBl (show Int32.toInt 0 = 0 by decide)) (by decide) (by decide)) (gB_w (gBl (show Int32.toInt 0 = 0 by decide)) (by decide) (by decide))) dr_cX13_block_22 ⟨(fun _ _ _ h => gn_w 78 rfl h), wr_1_38, wr_9_161, by decide, rfl, (Nat.le_of_ble_eq_true rfl), (Nat.le_of_ble_eq_true rfl)⟩ wr_9_160 rfl (show 1 + 2 ≤ 3 by first | omega | decide) (show 4 + 10 ≤ 14 by first | omega | decide) (Nat.le_of_ble_eq_true rfl) (fun r3072 w3073 dc3069 ds3070 hp3071 => ?_)
  obtain ⟨P3076, F3077, q3074, q3075, rfl, rfl, hsb3078, hfr3079, he3080, he3081, he3082, hm3083, hq3084, hm3085, hq3086, hdc, hds⟩ := hp3071
  have hm3087 : q2959 ∈ P3076 := hsb3078 q2959 hm2993
  have hm3088 : q2960 ∈ P3076 := hsb3078 q2960 hm2994
  have hm3089 : q2961 ∈ P3076 := hsb3078 q2961 hm2995
  have hm3090 : q2982 ∈ P3076 := hsb3078 q2982 hm2996
  have hq3091 : q3074 ∉ P2957 := fun z => hq3084 (hsb2999 q3074 z)
  have hq3092 : q3075 ∉ P2957 := fun z => hq3086 (hsb2999 q3075 z)
  have hsb3093 : rSub P2957 P3076 := rSub_tr hsb2999 hsb3078
  have he3094 : F3077 q2959 = .inr (18, [.ref q2960, .ref qo2962, .int p2963, .int p2964]) := (hfr3079 q2959 hm2993 (nm_c (fun h => hq2997 (h ▸ hmq2959)) nm_n)).trans he2989
  have he3095 : F3077 q2960 = .inr (4, [.int p2965, .ref q2961, .int p2966]) := (hfr3079 q2960 hm2994 (nm_c (fun h => hq2997 (h ▸ hmq2960)) nm_n)).trans he2990
  have he3096 : F3077 q2961 = .inl (I (.object "java/lang/Object"), n2968, .inr (.inr (.inr (.inr f2967)))) := (hfr3079 q2961 hm2995 (nm_c (fun h => hq2997 (h ▸ hmq2961)) nm_n)).trans he2991
  have hfr3097 : rFr [] P2957 F2958 F3077 := rFr_call hsb2999 hfr2998 hfr3079 (fun b hb hn => ⟨nm_n, (nm_c (fun e => hq2997 (e ▸ hb)) nm_n)⟩)
  change G _ _ _ _ _ _ _ _ _ _ _
  refine G_widen (cs' := 3) (sl' := 14) (by omega) (by omega) ?_
  refine Gw_callV (As := [.ref q2982]) (gV_ok D I) (cp_3123_ArrayList_add l hl0 D I P3076 F3077 q2960 q2982 q2961 q3074 q3075 p2965 p2966 0 0 f2967 n2968 0 0 0 0 0 0 0 0 0 hm3088 hm3090 hm3089 hm3083 hm3085 he3095 he3080 he3096 he3081 he3082 (fun h => hq3091 (h ▸ hmq2960)) (gB_w bp2966 (by decide) (by decide)) (gB_w (gBl (show Int32.toInt 0 = 0 by decide)) (by decide) (by decide)) (gB_w (gBl (show Int32.toInt 0 = 0 by decide)) (by decide) (by decide)) (gB_w (gBl (show Int32.toInt 0 = 0 by decide)) (by decide) (by decide)) (gB_w (gBl (show Int32.toInt 0 = 0 by decide)) (by decide) (by decide)) (gB_w (gBl (show Int32.toInt 0 = 0 by decide)) (by decide) (by decide)) (gB_w (gBl (show Int32.toInt 0 = 0 by decide)) (by decide) (by decide)) (gB_w (gBl (show Int32.toInt 0 = 0 by decide)) (by decide) (by decide)) (gB_w (gBl (show Int32.toInt 0 = 0 by decide)) (by decide) (by decide)) (by have qa0 : Int32.toInt 0 = 0 := (by decide); omega) (rEl_frG (rEl_src x2971 rSrc_rf) hsb3093 hfr3097 rNg_n) (by have qa0 : Int32.toInt 0 = 0 := (by decide); omega)) dr_cX13_block_25 ⟨wr_9_239, wr_1_18, wr_10_2, by decide, rfl, (Nat.le_of_ble_eq_true rfl), (Nat.le_of_ble_eq_true rfl)⟩ wr_10_0 wr_10_1 hm3088 he3095 rfl (show 3 + 0 ≤ 3 by first | omega | decide) (show 14 + 0 ≤ 14 by first | omega | decide) (Nat.le_of_ble_eq_true rfl) (fun r3217 w3218 dc3214 ds3215 hp3216 => ?_) (fun _ _ _ _ _ z => z.elim)
  obtain ⟨F3225, o3219, o3220, f3221, rfl, rfl, hfr3227, he3228, he3229, he3230, he3231, he3232, hdc, hds, bo3220, x3222, x3223, x3224⟩ := hp3216
  have he3233 : F3225 q2959 = .inr (18, [.ref q2960, .ref qo2962, .int p2963, .int p2964]) := (hfr3227 q2959 hm3087 (nm_c (rn_oo he3094 he3095 (by decide)) (nm_c (rn_oa he3094 he3096) nm_n))).trans he3094
  have hfr3234 : rFr [q2960, q2961] P2957 F2958 F3225 := rFr_call hsb3093 hfr3097 hfr3227 (fun b hb hn => ⟨nm_n, (nm_c (fun e => hn (e ▸ List.mem_cons_self)) (nm_c (fun e => hn (e ▸ (List.mem_cons_of_mem _ List.mem_cons_self))) nm_n))⟩)
  have bo3219 := gB_any o3219
  change G _ _ _ _ _ _ _ (.int 1 :: _) _ _ _
  refine G_widen (cs' := 3) (sl' := 14) (by omega) (by omega) ?_
  have hx3235 : f3221 p2964.toNatClampNeg = some q2982 := by show f3221 p2964.toInt.toNat = _; rw [show p2964.toInt = p2966.toInt by omega]; exact x3223.2
  refine G_pop dr_cX13_block_28 rfl ?_
  refine G_aload_n 0 dr_cX13_block_29 rfl ?_
  refine Gp_get 0 hm3087 he3233 dr_cX13_block_30 (gk_X13 D I) (Nat.le_of_ble_eq_true rfl) wr_7_30 rfl ?_
  refine G_aload_n 0 dr_cX13_block_33 rfl ?_
  refine Gp_get 3 hm3087 he3233 dr_cX13_block_34 (gk_X13 D I) (Nat.le_of_ble_eq_true rfl) wr_7_33 rfl ?_
  refine Gw_callV (As := [.int p2964]) (gV_ok D I) (cp_22_ArrayList_get l hl0 D I P3076 F3225 q2960 q2961 p2964 o3219 o3220 f3221 n2968 q2982 hm3088 hm3089 he3228 he3230 (gB_w bp2964 (by decide) (by decide)) ⟨by omega, by omega⟩ (by have qa0 : Int32.toInt 0 = 0 := (by decide); omega) (by have qa0 : Int32.toInt 0 = 0 := (by decide); omega) (by assumption) (by have qa0 : Int32.toInt 0 = 0 := (by decide); omega)) dr_cX13_block_37 ⟨wr_10_58, wr_1_18, wr_10_61, by decide, rfl, (Nat.le_of_ble_eq_true rfl), (Nat.le_of_ble_eq_true rfl)⟩ wr_10_59 wr_10_60 hm3088 he3228 rfl (show 3 + 0 ≤ 3 by first | omega | decide) (show 14 + 0 ≤ 14 by first | omega | decide) (Nat.le_of_ble_eq_true rfl) (fun r3239 w3240 dc3236 ds3237 hp3238 => ?_) (fun _ _ _ _ _ z => z.elim)
  obtain ⟨rfl, rfl, hdc, hds⟩ := hp3238
  change G _ _ _ _ _ _ _ (.ref q2982 :: _) _ _ _
  refine G_widen (cs' := 3) (sl' := 14) (by omega) (by omega) ?_
  refine Gp_cast hm3090 he3229 rfl dr_cX13_block_40 wr_9_157 (gr_cast 0 rfl) ?_
  refine G_astore_n (L' := [(1, .ref q2982), (0, .ref q2959)]) dr_cX13_block_43 (Nat.le_of_ble_eq_true rfl) rfl ?_
  refine G_aload_n 1 dr_cX13_block_44 rfl ?_
  refine G_dup dr_cX13_block_45 rfl ?_
  refine Gp_get 3 hm3087 he3233 dr_cX13_block_46 (gk_X13 D I) (Nat.le_of_ble_eq_true rfl) wr_7_33 rfl ?_
  refine G_iconst 1 dr_cX13_block_49 (by decide +kernel) ?_
  refine G_iadd dr_cX13_block_50 (G_nam fun z3241 hz3241 => ?_)
  have ez3241 : z3241.toInt = p2964.toInt + 1 := by rw [gI_add hz3241 bp2964 (gBl (show Int32.toInt 1 = 1 by decide)) (by decide) (by decide), show Int32.toInt 1 = 1 from by decide]
  have bz3241 : gB z3241 1 1000001 := gB_add (gI_add hz3241 bp2964 (gBl (show Int32.toInt 1 = 1 by decide)) (by decide) (by decide)) bp2964 (gBl (show Int32.toInt 1 = 1 by decide)) (by decide) (by decide)
  refine Gp_put 3 hm3087 he3233 dr_cX13_block_51 (gk_X13 D I) (Nat.le_of_ble_eq_true rfl) wr_7_33 rfl rfl rfl (Nat.le_of_ble_eq_true rfl) (fun F3242 e3243 n3244 => ?_)
  have he3245 : F3242 q2960 = .inr (4, [.int o3219, .ref q2961, .int o3220]) := (n3244 q2960 (rn_oo he3228 he3233 (by decide))).trans he3228
  have he3246 : F3242 q2982 = .inr (17, [.ref q3074, .ref q3075, .int 0, .int 0]) := (n3244 q2982 (fun h => hq2997 (h ▸ hmq2959))).trans he3229
  have he3247 : F3242 q2961 = .inl (I (.object "java/lang/Object"), n2968, .inr (.inr (.inr (.inr f3221)))) := (n3244 q2961 (rn_ao he3230 he3233)).trans he3230
  have he3248 : F3242 q3074 = .inr (4, [.int 0, .ref (D.2 1002 1), .int 0]) := (n3244 q3074 (fun h => hq3091 (h ▸ hmq2959))).trans he3231
  have he3249 : F3242 q3075 = .inr (20, [.int 0, .int 0, .int 0, .int 0, .int 0, .int 0, .int 0]) := (n3244 q3075 (fun h => hq3092 (h ▸ hmq2959))).trans he3232
  have he3250 : F3242 q2959 = .inr (18, [.ref q2960, .ref qo2962, .int p2963, .int z3241]) := e3243
  have hfr3251 : rFr [q2959, q2960, q2961] P2957 F2958 F3242 := rFr_put hfr3234 n3244
  refine G_aload_n 0 dr_cX13_block_54 rfl ?_
  refine Gp_get 0 hm3090 he3246 dr_cX13_block_55 (gk_X12 D I) (Nat.le_of_ble_eq_true rfl) wr_9_215 rfl ?_
  refine Gw_callV (As := []) (gV_ok D I) (cp_1466_ArrayList_clear l hl0 D I P3076 F3242 q3074 0 0 hm3083 he3248 (gB_w (gBl (show Int32.toInt 0 = 0 by decide)) (by decide) (by decide)) (by have qa0 : Int32.toInt 0 = 0 := (by decide); omega)) dr_cX13_block_58 ⟨wr_10_70, wr_1_18, wr_10_73, by decide, rfl, (Nat.le_of_ble_eq_true rfl), (Nat.le_of_ble_eq_true rfl)⟩ wr_10_71 wr_10_72 hm3083 he3248 rfl (show 3 + 0 ≤ 3 by first | omega | decide) (show 14 + 0 ≤ 14 by first | omega | decide) (Nat.le_of_ble_eq_true rfl) (fun r3255 w3256 dc3252 ds3253 hp3254 => ?_) (fun _ _ _ _ _ z => z.elim)
  obtain ⟨F3258, o3257, rfl, rfl, hfr3260, he3261, hdc, hds⟩ := hp3254
  have he3262 : F3258 q2959 = .inr (18, [.ref q2960, .ref qo2962, .int p2963, .int z3241]) := (hfr3260 q2959 hm3087 (nm_c (fun h => hq3091 (h ▸ hmq2959)) nm_n)).trans he3250
  have he3263 : F3258 q2960 = .inr (4, [.int o3219, .ref q2961, .int o3220]) := (hfr3260 q2960 hm3088 (nm_c (fun h => hq3091 (h ▸ hmq2960)) nm_n)).trans he3245
  have he3264 : F3258 q2982 = .inr (17, [.ref q3074, .ref q3075, .int 0, .int 0]) := (hfr3260 q2982 hm3090 (nm_c (rn_oo he3246 he3248 (by decide)) nm_n)).trans he3246
  have he3265 : F3258 q2961 = .inl (I (.object "java/lang/Object"), n2968, .inr (.inr (.inr (.inr f3221)))) := (hfr3260 q2961 hm3089 (nm_c (fun h => hq3091 (h ▸ hmq2961)) nm_n)).trans he3247
  have he3266 : F3258 q3075 = .inr (20, [.int 0, .int 0, .int 0, .int 0, .int 0, .int 0, .int 0]) := (hfr3260 q3075 hm3085 (nm_c (rn_oo he3249 he3248 (by decide)) nm_n)).trans he3249
  have hfr3267 : rFr [q2959, q2960, q2961] P2957 F2958 F3258 := rFr_call hsb3093 hfr3251 hfr3260 (fun b hb hn => ⟨(nm_c (fun e => hn (e ▸ List.mem_cons_self)) (nm_c (fun e => hn (e ▸ (List.mem_cons_of_mem _ List.mem_cons_self))) (nm_c (fun e => hn (e ▸ (List.mem_cons_of_mem _ (List.mem_cons_of_mem _ List.mem_cons_self)))) nm_n))), (nm_c (fun e => hq3091 (e ▸ hb)) nm_n)⟩)
  have bo3257 := gB_any o3257
  change G _ _ _ _ _ _ _ _ _ _ _
  refine G_widen (cs' := 3) (sl' := 14) (by omega) (by omega) ?_
  refine G_aload_n 0 dr_cX13_block_61 rfl ?_
  exact G_aretA (FieldType.object "SpillForgeModel$Block") dr_cX13_block_62 rfl (by first | exact Or.inl ⟨_, rfl⟩ | exact Or.inr ⟨_, rfl⟩) (Or.inr ⟨_, rfl⟩) (Nat.le_of_ble_eq_true rfl) (Nat.le_of_ble_eq_true rfl) ⟨P3076, F3258, z3241, q2982, o3219, o3220, q3074, o3257, q3075, f3221, rfl, rfl, hsb3093, hfr3267, he3262, he3263, he3264, he3265, he3266, he3261, hm3090, hq2997, hm3083, hq3091, hm3085, hq3092, (Nat.le_of_ble_eq_true rfl), (Nat.le_of_ble_eq_true rfl), bz3241, bo3220, (by have qa0 : Int32.toInt 0 = 0 := (by decide); omega), (by have qa0 : Int32.toInt 0 = 0 := (by decide); omega), (by assumption), (by assumption)⟩
abbrev ky_3419_ArrayList_add : gKey := (cJx4a65c_add_72be8, 4, "java/util/ArrayList", none, [], "add", fun _ _ => True)
def pp_3419_ArrayList_add (D : va_G) (I : FieldType → ClassId) (P3390 : List Nat) (F3391 : Nat → va_E) (q3392 : Nat) (q3393 : Nat) (q3394 : Nat) (q3395 : Nat) (q3396 : Nat) (p3397 : Int32) (p3398 : Int32) (p3399 : Int32) (p3400 : Int32) (p3401 : Int32) (f3402 : Nat → Option Nat) (n3403 : Nat) (p3404 : Int32) (p3405 : Int32) (p3406 : Int32) (p3407 : Int32) (p3408 : Int32) (p3409 : Int32) (p3410 : Int32) (p3411 : Int32) (p3412 : Int32) : Option Value → va_W → Nat → Nat → Prop := fun r w dc ds => ∃ (P3481 : List Nat) (F3482 : Nat → va_E) (o3477 : Int32) (q3478 : Nat) (n3479 : Nat) (f3480 : Nat → Option Nat), r = none ∧ w = va_pl P3481 F3482 ∧ rSub P3390 P3481 ∧ rFr [q3392] P3390 F3391 F3482 ∧ F3482 q3393 = .inr (17, [.ref q3395, .ref q3396, .int p3400, .int p3401]) ∧ F3482 q3394 = .inl (I (.object "java/lang/Object"), n3403, .inr (.inr (.inr (.inr f3402)))) ∧ F3482 q3395 = .inr (4, [.int p3404, .ref (D.2 1002 1), .int p3405]) ∧ F3482 q3396 = .inr (20, [.int p3406, .int p3407, .int p3408, .int p3409, .int p3410, .int p3411, .int p3412]) ∧ F3482 q3392 = .inr (4, [.int p3398, .ref q3478, .int o3477]) ∧ F3482 q3478 = .inl (I (.object "java/lang/Object"), n3479, .inr (.inr (.inr (.inr f3480)))) ∧ q3478 ∈ P3481 ∧ q3478 ∉ P3390 ∧ dc ≤ 1 ∧ ds ≤ n3403 + n3403 / 2 + 1 ∧ gB o3477 1 16777217 ∧ o3477.toInt = p3399.toInt + 1 ∧ ((∀ j : Nat, (j : Int) < p3399.toInt → f3480 j = f3402 j) ∧ f3480 p3397.toInt.toNat = some q3393) ∧ rSrcX f3480 f3402 q3393 ∧ ((n3479 : Int) ≤ (n3403 : Int) + (n3403 : Int) / 2 + 1 ∧ (n3403 : Int) + 1 ≤ (n3479 : Int) ∧ (n3403 : Int) + (n3403 : Int) / 2 ≤ (n3479 : Int))
set_option maxRecDepth 100000 in
set_option maxHeartbeats 4000000 in
theorem cp_3419_ArrayList_add (l : Launch) (hl0 : l.stackTraces = false) (D : va_G) (I : FieldType → ClassId) (P3390 : List Nat) (F3391 : Nat → va_E) (q3392 : Nat) (q3393 : Nat) (q3394 : Nat) (q3395 : Nat) (q3396 : Nat) (p3397 : Int32) (p3398 : Int32) (p3399 : Int32) (p3400 : Int32) (p3401 : Int32) (f3402 : Nat → Option Nat) (n3403 : Nat) (p3404 : Int32) (p3405 : Int32) (p3406 : Int32) (p3407 : Int32) (p3408 : Int32) (p3409 : Int32) (p3410 : Int32) (p3411 : Int32) (p3412 : Int32) (hmq3392 : q3392 ∈ P3390) (hmq3393 : q3393 ∈ P3390) (hmq3394 : q3394 ∈ P3390) (hmq3395 : q3395 ∈ P3390) (hmq3396 : q3396 ∈ P3390) (heq3392 : F3391 q3392 = .inr (4, [.int p3398, .ref q3394, .int p3399])) (heq3393 : F3391 q3393 = .inr (17, [.ref q3395, .ref q3396, .int p3400, .int p3401])) (heq3394 : F3391 q3394 = .inl (I (.object "java/lang/Object"), n3403, .inr (.inr (.inr (.inr f3402))))) (heq3395 : F3391 q3395 = .inr (4, [.int p3404, .ref (D.2 1002 1), .int p3405])) (heq3396 : F3391 q3396 = .inr (20, [.int p3406, .int p3407, .int p3408, .int p3409, .int p3410, .int p3411, .int p3412])) (hneq3392q3395 : q3392 ≠ q3395) (bp3397 : gB p3397 0 16777216) (bp3399 : gB p3399 0 16777216) (bp3400 : gB p3400 0 39) (bp3401 : gB p3401 0 39) (bp3405 : gB p3405 0 16777216) (bp3406 : gB p3406 0 32) (bp3407 : gB p3407 0 1999) (bp3410 : gB p3410 0 1999) (bp3411 : gB p3411 0 1) (bp3412 : gB p3412 0 1) (x3413 : 0 < (n3403 : Int)) (x3414 : (n3403 : Int) ≤ 1000000) (x3415 : p3399.toInt = (n3403 : Int)) (x3416 : p3397.toInt = p3399.toInt) (x3417 : rEl P3390 F3391 f3402) (x3418 : ((n3403 : Int) ≤ 16777216)) : CtA (gV D I) l yJx4a65c_add_72be8 cJx4a65c_add_72be8 4 none 5 105 1 (n3403 + n3403 / 2 + 1) [.ref q3392, .ref q3393, .ref q3394, .int p3397] (va_pl P3390 F3391) (pp_3419_ArrayList_add D I P3390 F3391 q3392 q3393 q3394 q3395 q3396 p3397 p3398 p3399 p3400 p3401 f3402 n3403 p3404 p3405 p3406 p3407 p3408 p3409 p3410 p3411 p3412) gNA := by
  refine CtA_ofF hl0 (by decide +kernel) (Nat.le_of_ble_eq_true rfl) ?_
  have bp3398 := gB_any p3398
  have bp3404 := gB_any p3404
  have bp3408 := gB_any p3408
  have bp3409 := gB_any p3409
  refine G_iload_n 3 dr_cJx4a65c_add_72be8_0 rfl ?_
  refine G_aload_n 2 dr_cJx4a65c_add_72be8_1 rfl ?_
  refine Gp_alen (Int32.ofNat n3403) 4 hmq3394 heq3394 dr_cJx4a65c_add_72be8_2 rfl rfl (G_nam fun z3420 hz3420 => ?_)
  have ez3420 : z3420.toInt = (n3403 : Nat) := gI_ofM hz3420 (by omega)
  have bz3420 : gB z3420 0 16777216 := ⟨by omega, by omega⟩
  refine G_icmp_ne 11 dr_cJx4a65c_add_72be8_3 (by decide +kernel) (fun hc => absurd (show False by have := gC_ne hc; omega) not_false) (fun hc3421 => ?_)
  have r3423 : p3397.toInt = z3420.toInt := gC_eq hc3421
  refine G_aload_n 0 dr_cJx4a65c_add_72be8_6 rfl ?_
  refine Gw_callV (As := []) (gV_ok D I) (cp_324_ArrayList_grow l hl0 D I P3390 F3391 q3392 q3394 p3398 p3399 f3402 n3403 hmq3392 hmq3394 heq3392 heq3394 bp3399 (by omega) (by omega) (by omega) (rEl_frG (rEl_src x3417 rSrc_rf) (rSub_rf (P := P3390)) (rFr_rf (W := []) (P := P3390) (F := F3391)) rNg_n) (by omega)) dr_cJx4a65c_add_72be8_7 ⟨wr_10_7, wr_1_18, wr_10_10, by decide, rfl, (Nat.le_of_ble_eq_true rfl), (Nat.le_of_ble_eq_true rfl)⟩ wr_10_9 wr_p_86 hmq3392 heq3392 rfl (show 0 + 1 ≤ 1 by first | omega | decide) (show 0 + (n3403 + n3403 / 2 + 1) ≤ (n3403 + n3403 / 2 + 1) by first | omega | decide) (Nat.le_of_ble_eq_true rfl) (fun r3427 w3428 dc3424 ds3425 hp3426 => ?_) (fun _ _ _ _ _ z => z.elim)
  obtain ⟨P3435, F3436, q3429, n3430, f3431, rfl, rfl, hsb3437, hfr3438, he3439, he3440, hm3441, hq3442, hdc, hds, x3432, x3433, x3434⟩ := hp3426
  have hm3443 : q3392 ∈ P3435 := hsb3437 q3392 hmq3392
  have hm3444 : q3393 ∈ P3435 := hsb3437 q3393 hmq3393
  have hm3445 : q3394 ∈ P3435 := hsb3437 q3394 hmq3394
  have hm3446 : q3395 ∈ P3435 := hsb3437 q3395 hmq3395
  have hm3447 : q3396 ∈ P3435 := hsb3437 q3396 hmq3396
  have hq3448 : q3429 ∉ P3390 := fun z => hq3442 ((rSub_rf (P := P3390)) q3429 z)
  have hsb3449 : rSub P3390 P3435 := rSub_tr (rSub_rf (P := P3390)) hsb3437
  have he3450 : F3436 q3393 = .inr (17, [.ref q3395, .ref q3396, .int p3400, .int p3401]) := (hfr3438 q3393 hmq3393 (nm_c (rn_oo heq3393 heq3392 (by decide)) nm_n)).trans heq3393
  have he3451 : F3436 q3394 = .inl (I (.object "java/lang/Object"), n3403, .inr (.inr (.inr (.inr f3402)))) := (hfr3438 q3394 hmq3394 (nm_c (rn_ao heq3394 heq3392) nm_n)).trans heq3394
  have he3452 : F3436 q3395 = .inr (4, [.int p3404, .ref (D.2 1002 1), .int p3405]) := (hfr3438 q3395 hmq3395 (nm_c (Ne.symm hneq3392q3395) nm_n)).trans heq3395
  have he3453 : F3436 q3396 = .inr (20, [.int p3406, .int p3407, .int p3408, .int p3409, .int p3410, .int p3411, .int p3412]) := (hfr3438 q3396 hmq3396 (nm_c (rn_oo heq3396 heq3392 (by decide)) nm_n)).trans heq3396
  have hfr3454 : rFr [q3392] P3390 F3391 F3436 := rFr_call (rSub_rf (P := P3390)) (rFr_rf (W := []) (P := P3390) (F := F3391)) hfr3438 (fun b hb hn => ⟨nm_n, (nm_c (fun e => hn (e ▸ List.mem_cons_self)) nm_n)⟩)
  change G _ _ _ _ _ _ _ (.ref q3429 :: _) _ _ _
  refine G_widen (cs' := 1) (sl' := n3403 + n3403 / 2 + 1) (by omega) (by omega) ?_
  refine G_astore_n (L' := [(2, .ref q3429), (0, .ref q3392), (1, .ref q3393), (3, .int p3397)]) dr_cJx4a65c_add_72be8_10 (Nat.le_of_ble_eq_true rfl) rfl ?_
  refine G_aload_n 0 dr_cJx4a65c_add_72be8_11 rfl ?_
  refine G_iload_n 3 dr_cJx4a65c_add_72be8_12 rfl ?_
  refine G_aload_n 2 dr_cJx4a65c_add_72be8_13 rfl ?_
  refine Gp_aast 4 hm3441 he3440 dr_cJx4a65c_add_72be8_14 rfl ⟨hm3444, _, _, _, _, _, he3450, rfl, gr_cast 2 rfl⟩ (gB_inr (by omega) (by omega)) (fun F3455 e3456 n3457 => ?_)
  obtain ⟨f3458, hf3458⟩ : ∃ z, z = va_up f3431 p3397.toNatClampNeg (some q3393) := ⟨_, rfl⟩
  rw [← hf3458] at e3456
  have he3459 : F3455 q3393 = .inr (17, [.ref q3395, .ref q3396, .int p3400, .int p3401]) := (n3457 q3393 (fun h => hq3448 (h ▸ hmq3393))).trans he3450
  have he3460 : F3455 q3394 = .inl (I (.object "java/lang/Object"), n3403, .inr (.inr (.inr (.inr f3402)))) := (n3457 q3394 (fun h => hq3448 (h ▸ hmq3394))).trans he3451
  have he3461 : F3455 q3395 = .inr (4, [.int p3404, .ref (D.2 1002 1), .int p3405]) := (n3457 q3395 (fun h => hq3448 (h ▸ hmq3395))).trans he3452
  have he3462 : F3455 q3396 = .inr (20, [.int p3406, .int p3407, .int p3408, .int p3409, .int p3410, .int p3411, .int p3412]) := (n3457 q3396 (fun h => hq3448 (h ▸ hmq3396))).trans he3453
  have he3463 : F3455 q3392 = .inr (4, [.int p3398, .ref q3429, .int p3399]) := (n3457 q3392 (fun h => hq3448 (h ▸ hmq3392))).trans he3439
  have he3464 : F3455 q3429 = .inl (I (.object "java/lang/Object"), n3430, .inr (.inr (.inr (.inr f3458)))) := e3456
  have hfr3465 : rFr [q3392] P3390 F3391 F3455 := rFr_newp hq3448 hfr3454 n3457
  refine G_aload_n 1 dr_cJx4a65c_add_72be8_15 rfl ?_
  refine G_iload_n 3 dr_cJx4a65c_add_72be8_16 rfl ?_
  refine G_iconst 1 dr_cJx4a65c_add_72be8_17 (by decide +kernel) ?_
  refine G_iadd dr_cJx4a65c_add_72be8_18 (G_nam fun z3466 hz3466 => ?_)
  have ez3466 : z3466.toInt = p3397.toInt + 1 := by rw [gI_add hz3466 bp3397 (gBl (show Int32.toInt 1 = 1 by decide)) (by decide) (by decide), show Int32.toInt 1 = 1 from by decide]
  have bz3466 : gB z3466 1 16777217 := gB_add (gI_add hz3466 bp3397 (gBl (show Int32.toInt 1 = 1 by decide)) (by decide) (by decide)) bp3397 (gBl (show Int32.toInt 1 = 1 by decide)) (by decide) (by decide)
  refine Gp_put 2 hm3443 he3463 dr_cJx4a65c_add_72be8_19 (gk_Jx4a65c D I) (Nat.le_of_ble_eq_true rfl) wr_7_18 rfl rfl rfl (Nat.le_of_ble_eq_true rfl) (fun F3467 e3468 n3469 => ?_)
  have he3470 : F3467 q3393 = .inr (17, [.ref q3395, .ref q3396, .int p3400, .int p3401]) := (n3469 q3393 (rn_oo he3459 he3463 (by decide))).trans he3459
  have he3471 : F3467 q3394 = .inl (I (.object "java/lang/Object"), n3403, .inr (.inr (.inr (.inr f3402)))) := (n3469 q3394 (rn_ao he3460 he3463)).trans he3460
  have he3472 : F3467 q3395 = .inr (4, [.int p3404, .ref (D.2 1002 1), .int p3405]) := (n3469 q3395 (Ne.symm hneq3392q3395)).trans he3461
  have he3473 : F3467 q3396 = .inr (20, [.int p3406, .int p3407, .int p3408, .int p3409, .int p3410, .int p3411, .int p3412]) := (n3469 q3396 (rn_oo he3462 he3463 (by decide))).trans he3462
  have he3474 : F3467 q3429 = .inl (I (.object "java/lang/Object"), n3430, .inr (.inr (.inr (.inr f3458)))) := (n3469 q3429 (fun h => hq3448 (h ▸ hmq3392))).trans he3464
  have he3475 : F3467 q3392 = .inr (4, [.int p3398, .ref q3429, .int z3466]) := e3468
  have hfr3476 : rFr [q3392] P3390 F3391 F3467 := rFr_put' List.mem_cons_self hfr3465 n3469
  exact G_vretA dr_cJx4a65c_add_72be8_22 rfl (Nat.le_of_ble_eq_true rfl) (show n3403 + n3403 / 2 + 1 ≤ (n3403 + n3403 / 2 + 1) by omega) ⟨P3435, F3467, z3466, q3429, n3430, f3458, rfl, rfl, hsb3449, hfr3476, he3470, he3471, he3472, he3473, he3475, he3474, hm3441, hq3448, (Nat.le_of_ble_eq_true rfl), (by omega), bz3466, (by omega), (rI_add (fun j hj => x3432 j (by omega)) hf3458 (by omega) (by omega)), (rSrcX_up hf3458 (rSrc_tr x3433 rSrc_rf)), (by omega)⟩
abbrev ky_3379_ArrayList_add : gKey := (cJx4a65c_add_9ea2d, 2, "java/util/ArrayList", (some FieldType.boolean), [], "add", fun _ _ => True)
def pp_3379_ArrayList_add (D : va_G) (I : FieldType → ClassId) (P3352 : List Nat) (F3353 : Nat → va_E) (q3354 : Nat) (q3355 : Nat) (q3356 : Nat) (q3357 : Nat) (q3358 : Nat) (p3359 : Int32) (p3360 : Int32) (p3361 : Int32) (p3362 : Int32) (f3363 : Nat → Option Nat) (n3364 : Nat) (p3365 : Int32) (p3366 : Int32) (p3367 : Int32) (p3368 : Int32) (p3369 : Int32) (p3370 : Int32) (p3371 : Int32) (p3372 : Int32) (p3373 : Int32) : Option Value → va_W → Nat → Nat → Prop := fun r w dc ds => ∃ (P3521 : List Nat) (F3522 : Nat → va_E) (o3516 : Int32) (o3517 : Int32) (q3518 : Nat) (n3519 : Nat) (f3520 : Nat → Option Nat), r = some (.int 1) ∧ w = va_pl P3521 F3522 ∧ rSub P3352 P3521 ∧ rFr [q3354] P3352 F3353 F3522 ∧ F3522 q3355 = .inr (17, [.ref q3357, .ref q3358, .int p3361, .int p3362]) ∧ F3522 q3357 = .inr (4, [.int p3365, .ref (D.2 1002 1), .int p3366]) ∧ F3522 q3358 = .inr (20, [.int p3367, .int p3368, .int p3369, .int p3370, .int p3371, .int p3372, .int p3373]) ∧ F3522 q3354 = .inr (4, [.int o3516, .ref q3518, .int o3517]) ∧ F3522 q3518 = .inl (I (.object "java/lang/Object"), n3519, .inr (.inr (.inr (.inr f3520)))) ∧ q3518 ∈ P3521 ∧ q3518 ∉ P3352 ∧ dc ≤ 1 ∧ ds ≤ n3364 + n3364 / 2 + 1 ∧ gB o3517 1 16777217 ∧ o3517.toInt = p3360.toInt + 1 ∧ ((∀ j : Nat, (j : Int) < p3360.toInt → f3520 j = f3363 j) ∧ f3520 p3360.toInt.toNat = some q3355) ∧ rSrcX f3520 f3363 q3355 ∧ ((n3519 : Int) ≤ (n3364 : Int) + (n3364 : Int) / 2 + 1 ∧ (n3364 : Int) + 1 ≤ (n3519 : Int) ∧ (n3364 : Int) + (n3364 : Int) / 2 ≤ (n3519 : Int))
set_option maxRecDepth 100000 in
set_option maxHeartbeats 4000000 in
theorem cp_3379_ArrayList_add (l : Launch) (hl0 : l.stackTraces = false) (D : va_G) (I : FieldType → ClassId) (P3352 : List Nat) (F3353 : Nat → va_E) (q3354 : Nat) (q3355 : Nat) (q3356 : Nat) (q3357 : Nat) (q3358 : Nat) (p3359 : Int32) (p3360 : Int32) (p3361 : Int32) (p3362 : Int32) (f3363 : Nat → Option Nat) (n3364 : Nat) (p3365 : Int32) (p3366 : Int32) (p3367 : Int32) (p3368 : Int32) (p3369 : Int32) (p3370 : Int32) (p3371 : Int32) (p3372 : Int32) (p3373 : Int32) (hmq3354 : q3354 ∈ P3352) (hmq3355 : q3355 ∈ P3352) (hmq3356 : q3356 ∈ P3352) (hmq3357 : q3357 ∈ P3352) (hmq3358 : q3358 ∈ P3352) (heq3354 : F3353 q3354 = .inr (4, [.int p3359, .ref q3356, .int p3360])) (heq3355 : F3353 q3355 = .inr (17, [.ref q3357, .ref q3358, .int p3361, .int p3362])) (heq3356 : F3353 q3356 = .inl (I (.object "java/lang/Object"), n3364, .inr (.inr (.inr (.inr f3363))))) (heq3357 : F3353 q3357 = .inr (4, [.int p3365, .ref (D.2 1002 1), .int p3366])) (heq3358 : F3353 q3358 = .inr (20, [.int p3367, .int p3368, .int p3369, .int p3370, .int p3371, .int p3372, .int p3373])) (hneq3354q3357 : q3354 ≠ q3357) (bp3360 : gB p3360 0 16777216) (bp3361 : gB p3361 0 39) (bp3362 : gB p3362 0 39) (bp3366 : gB p3366 0 16777216) (bp3367 : gB p3367 0 32) (bp3368 : gB p3368 0 1999) (bp3371 : gB p3371 0 1999) (bp3372 : gB p3372 0 1) (bp3373 : gB p3373 0 1) (x3374 : 0 < (n3364 : Int)) (x3375 : (n3364 : Int) ≤ 1000000) (x3376 : p3360.toInt = (n3364 : Int)) (x3377 : rEl P3352 F3353 f3363) (x3378 : ((n3364 : Int) ≤ 16777216)) : CtA (gV D I) l yJx4a65c_add_9ea2d cJx4a65c_add_9ea2d 2 (some FieldType.boolean) 6 128 1 (n3364 + n3364 / 2 + 1) [.ref q3354, .ref q3355] (va_pl P3352 F3353) (pp_3379_ArrayList_add D I P3352 F3353 q3354 q3355 q3356 q3357 q3358 p3359 p3360 p3361 p3362 f3363 n3364 p3365 p3366 p3367 p3368 p3369 p3370 p3371 p3372 p3373) gNA := by
  refine CtA_ofF hl0 (by decide +kernel) (Nat.le_of_ble_eq_true rfl) ?_
  have bp3359 := gB_any p3359
  have bp3365 := gB_any p3365
  have bp3369 := gB_any p3369
  have bp3370 := gB_any p3370
  refine G_aload_n 0 dr_cJx4a65c_add_9ea2d_0 rfl ?_
  refine G_dup dr_cJx4a65c_add_9ea2d_1 rfl ?_
  refine Gp_getS 0 hmq3354 heq3354 dr_cJx4a65c_add_9ea2d_2 (gk_Jx4a65c D I) (Nat.le_of_ble_eq_true rfl) wr_7_20 wr_7_21 rfl ?_
  refine G_iconst 1 dr_cJx4a65c_add_9ea2d_5 (by decide +kernel) ?_
  refine G_iadd dr_cJx4a65c_add_9ea2d_6 (G_nam fun z3380 hz3380 => ?_)
  have bz3380 : gB z3380 (-2147483648) 2147483647 := gB_any z3380
  refine Gp_putS 0 hmq3354 heq3354 dr_cJx4a65c_add_9ea2d_7 (gk_Jx4a65c D I) (Nat.le_of_ble_eq_true rfl) wr_7_20 wr_7_21 rfl rfl rfl (Nat.le_of_ble_eq_true rfl) (fun F3381 e3382 n3383 => ?_)
  have he3384 : F3381 q3355 = .inr (17, [.ref q3357, .ref q3358, .int p3361, .int p3362]) := (n3383 q3355 (rn_oo heq3355 heq3354 (by decide))).trans heq3355
  have he3385 : F3381 q3356 = .inl (I (.object "java/lang/Object"), n3364, .inr (.inr (.inr (.inr f3363)))) := (n3383 q3356 (rn_ao heq3356 heq3354)).trans heq3356
  have he3386 : F3381 q3357 = .inr (4, [.int p3365, .ref (D.2 1002 1), .int p3366]) := (n3383 q3357 (Ne.symm hneq3354q3357)).trans heq3357
  have he3387 : F3381 q3358 = .inr (20, [.int p3367, .int p3368, .int p3369, .int p3370, .int p3371, .int p3372, .int p3373]) := (n3383 q3358 (rn_oo heq3358 heq3354 (by decide))).trans heq3358
  have he3388 : F3381 q3354 = .inr (4, [.int z3380, .ref q3356, .int p3360]) := e3382
  have hfr3389 : rFr [q3354] P3352 F3353 F3381 := rFr_put (rFr_rf (W := []) (P := P3352) (F := F3353)) n3383
  refine G_aload_n 0 dr_cJx4a65c_add_9ea2d_10 rfl ?_
  refine G_aload_n 1 dr_cJx4a65c_add_9ea2d_11 rfl ?_
  refine G_aload_n 0 dr_cJx4a65c_add_9ea2d_12 rfl ?_
  refine Gp_get 1 hmq3354 he3388 dr_cJx4a65c_add_9ea2d_13 (gk_Jx4a65c D I) (Nat.le_of_ble_eq_true rfl) wr_7_17 rfl ?_
  refine G_aload_n 0 dr_cJx4a65c_add_9ea2d_16 rfl ?_
  refine Gp_get 2 hmq3354 he3388 dr_cJx4a65c_add_9ea2d_17 (gk_Jx4a65c D I) (Nat.le_of_ble_eq_true rfl) wr_7_18 rfl ?_
  refine Gw_callV (As := [.ref q3355, .ref q3356, .int p3360]) (gV_ok D I) (cp_3419_ArrayList_add l hl0 D I P3352 F3381 q3354 q3355 q3356 q3357 q3358 p3360 z3380 p3360 p3361 p3362 f3363 n3364 p3365 p3366 p3367 p3368 p3369 p3370 p3371 p3372 p3373 hmq3354 hmq3355 hmq3356 hmq3357 hmq3358 he3388 he3384 he3385 he3386 he3387 hneq3354q3357 bp3360 bp3360 bp3361 bp3362 bp3366 bp3367 bp3368 bp3371 bp3372 bp3373 (by omega) (by omega) (by omega) (by omega) (rEl_frG (rEl_src x3377 rSrc_rf) (rSub_rf (P := P3352)) hfr3389 (rNg_c (rNg_o heq3354 (by decide) (by decide)) rNg_n)) (by omega)) dr_cJx4a65c_add_9ea2d_20 ⟨wr_10_3, wr_1_18, wr_10_6, by decide, rfl, (Nat.le_of_ble_eq_true rfl), (Nat.le_of_ble_eq_true rfl)⟩ wr_10_5 wr_p_85 hmq3354 he3388 rfl (show 0 + 1 ≤ 1 by first | omega | decide) (show 0 + (n3364 + n3364 / 2 + 1) ≤ (n3364 + n3364 / 2 + 1) by first | omega | decide) (Nat.le_of_ble_eq_true rfl) (fun r3486 w3487 dc3483 ds3484 hp3485 => ?_) (fun _ _ _ _ _ z => z.elim)
  obtain ⟨P3496, F3497, o3488, q3489, n3490, f3491, rfl, rfl, hsb3498, hfr3499, he3500, he3501, he3502, he3503, he3504, he3505, hm3506, hq3507, hdc, hds, bo3488, x3492, x3493, x3494, x3495⟩ := hp3485
  have hm3508 : q3354 ∈ P3496 := hsb3498 q3354 hmq3354
  have hm3509 : q3355 ∈ P3496 := hsb3498 q3355 hmq3355
  have hm3510 : q3356 ∈ P3496 := hsb3498 q3356 hmq3356
  have hm3511 : q3357 ∈ P3496 := hsb3498 q3357 hmq3357
  have hm3512 : q3358 ∈ P3496 := hsb3498 q3358 hmq3358
  have hq3513 : q3489 ∉ P3352 := fun z => hq3507 ((rSub_rf (P := P3352)) q3489 z)
  have hsb3514 : rSub P3352 P3496 := rSub_tr (rSub_rf (P := P3352)) hsb3498
  have hfr3515 : rFr [q3354] P3352 F3353 F3497 := rFr_call (rSub_rf (P := P3352)) hfr3389 hfr3499 (fun b hb hn => ⟨(nm_c (fun e => hn (e ▸ List.mem_cons_self)) nm_n), (nm_c (fun e => hn (e ▸ List.mem_cons_self)) nm_n)⟩)
  change G _ _ _ _ _ _ _ _ _ _ _
  refine G_widen (cs' := 1) (sl' := n3364 + n3364 / 2 + 1) (by omega) (by omega) ?_
  refine G_iconst 1 dr_cJx4a65c_add_9ea2d_23 (by decide +kernel) ?_
  exact G_zretA FieldType.boolean dr_cJx4a65c_add_9ea2d_24 rfl rfl (Nat.le_of_ble_eq_true rfl) (show n3364 + n3364 / 2 + 1 ≤ (n3364 + n3364 / 2 + 1) by omega) ⟨P3496, F3497, z3380, o3488, q3489, n3490, f3491, rfl, rfl, hsb3514, hfr3515, he3500, he3502, he3503, he3504, he3505, hm3506, hq3513, (Nat.le_of_ble_eq_true rfl), (by omega), bo3488, (by omega), (by assumption), (by assumption), (by omega)⟩
