theorem dr_cX14_init_0 : decode cX14_init 0 = .ok (.aload_n 0, 1) := by decide +kernel
theorem dr_cX14_init_1 : decode cX14_init 1 = .ok (.invokespecial 3, 3) := by decide +kernel
theorem wr_7_213 : (Jvm.Cond.methodLink "SpillForgeModel$Reader" (3 : Nat) ({ cls := "java/lang/Object", name := "<init>", desc := "()V" } : Jvm.MethodName)) ∈ gw := gw_7 213 rfl rfl
theorem dr_cX14_init_4 : decode cX14_init 4 = .ok (.aload_n 0, 1) := by decide +kernel
theorem dr_cX14_init_5 : decode cX14_init 5 = .ok (.ldc 9, 2) := by decide +kernel
theorem dr_cX14_init_7 : decode cX14_init 7 = .ok (.putfield 11, 3) := by decide +kernel
theorem dr_cX14_init_10 : decode cX14_init 10 = .ok (.aload_n 0, 1) := by decide +kernel
theorem dr_cX14_init_11 : decode cX14_init 11 = .ok (.iconst (-1), 1) := by decide +kernel
theorem dr_cX14_init_12 : decode cX14_init 12 = .ok (.putfield 17, 3) := by decide +kernel
theorem dr_cX14_init_15 : decode cX14_init 15 = .ok (.aload_n 0, 1) := by decide +kernel
theorem dr_cX14_init_16 : decode cX14_init 16 = .ok (.bipush 16, 2) := by decide +kernel
theorem dr_cX14_init_18 : decode cX14_init 18 = .ok (.newarray .int, 2) := by decide +kernel
theorem dr_cX14_init_20 : decode cX14_init 20 = .ok (.putfield 21, 3) := by decide +kernel
theorem dr_cX14_init_23 : decode cX14_init 23 = .ok (.aload_n 0, 1) := by decide +kernel
theorem dr_cX14_init_24 : decode cX14_init 24 = .ok (.bipush 16, 2) := by decide +kernel
theorem dr_cX14_init_26 : decode cX14_init 26 = .ok (.newarray .int, 2) := by decide +kernel
theorem dr_cX14_init_28 : decode cX14_init 28 = .ok (.putfield 25, 3) := by decide +kernel
theorem dr_cX14_init_31 : decode cX14_init 31 = .ok (.aload_n 0, 1) := by decide +kernel
theorem dr_cX14_init_32 : decode cX14_init 32 = .ok (.aload_n 1, 1) := by decide +kernel
theorem dr_cX14_init_33 : decode cX14_init 33 = .ok (.putfield 28, 3) := by decide +kernel
theorem dr_cX14_init_36 : decode cX14_init 36 = .ok (.aload_n 0, 1) := by decide +kernel
theorem dr_cX14_init_37 : decode cX14_init 37 = .ok (.iload_n 2, 1) := by decide +kernel
theorem dr_cX14_init_38 : decode cX14_init 38 = .ok (.putfield 32, 3) := by decide +kernel
theorem dr_cX14_init_41 : decode cX14_init 41 = .ok (.aload_n 0, 1) := by decide +kernel
theorem dr_cX14_init_42 : decode cX14_init 42 = .ok (.invokevirtual 35, 3) := by decide +kernel
theorem dr_cX14_init_45 : decode cX14_init 45 = .ok (.return_, 1) := by decide +kernel
abbrev ky_676918_Reader_init : gKey := (cX14_init, 3, "SpillForgeModel$Reader", none, [], "<init>", fun _ _ => True)
def pp_676918_Reader_init (D : va_G) (I : FieldType → ClassId) (P676912 : List Nat) (F676913 : Nat → va_E) (q676914 : Nat) (q676915 : Nat) (p676916 : Int32) (f676917 : Nat → Int32) : Option Value → va_W → Nat → Nat → Prop := fun r w dc ds => ∃ (P677037 : List Nat) (F677038 : Nat → va_E) (o677030 : Int32) (o677031 : Int32) (o677032 : Int32) (o677033 : Int32) (q677034 : Nat) (q677035 : Nat) (q677036 : Nat) (xt677039 : gTx), r = none ∧ w = va_pl P677037 F677038 ∧ rSub P676912 P677037 ∧ rFr [q676914] P676912 F676913 F677038 ∧ F677038 q677035 = .inl (I .int, 16, .inl (fun _ => 0)) ∧ F677038 q677036 = .inl (I .int, 16, .inl (fun _ => 0)) ∧ F677038 q676914 = .inr (19, [.ref q676915, .int p676916, .int o677030, .int o677031, .int o677032, .int o677033, .int 0, .ref q677034, .int (-1), .int 0, .int 0, .ref q677035, .ref q677036, .int 0]) ∧ F677038 q676915 = .inl (I .byte, 8192, .inl f676917) ∧ q677035 ∈ P677037 ∧ q677035 ∉ P676912 ∧ q677036 ∈ P677037 ∧ q677036 ∉ P676912 ∧ dc ≤ (16 * o677030.toInt : Int).toNat + 2 ∧ ds ≤ (160 * o677030.toInt : Int).toNat + 32 ∧ gB o677030 0 8192 ∧ gB o677031 0 6 ∧ gB o677032 0 8192 ∧ 0 ≤ o677030.toInt ∧ o677030.toInt ≤ p676916.toInt ∧ p676916.toInt = p676916.toInt ∧ tP I P677037 F677038 o677031 q677034 q677036 q677035 xt677039 ∧ vP o677031 o677033 ∧ q677036 ≠ q677035 ∧ (16 : Int) = 16 ∧ (16 : Int) = 16 ∧ glP (fun _ => 0) ∧ 0 = 0 ∧ (-1) = -1 ∧ 0 = 0 ∧ tr_RReader_init p676916 f676917 o677030 o677031 o677032 o677033 xt677039
set_option maxRecDepth 100000 in
set_option maxHeartbeats 4000000 in
theorem cp_676918_Reader_init (l : Launch) (hl0 : l.stackTraces = false) (D : va_G) (I : FieldType → ClassId) (P676912 : List Nat) (F676913 : Nat → va_E) (q676914 : Nat) (q676915 : Nat) (p676916 : Int32) (f676917 : Nat → Int32) (hmq676914 : q676914 ∈ P676912) (hmq676915 : q676915 ∈ P676912) (heq676914 : F676913 q676914 = .inr (19, [.null, .int 0, .int 0, .int 0, .int 0, .int 0, .int 0, .null, .int 0, .int 0, .int 0, .null, .null, .int 0])) (heq676915 : F676913 q676915 = .inl (I .byte, 8192, .inl f676917)) (bp676916 : gB p676916 0 8192) (bf676917 : gF f676917 (-128) 127) : CtA (gV D I) l yX14_init cX14_init 3 none 8 177 ((16 * p676916.toInt : Int).toNat + 2) ((160 * p676916.toInt : Int).toNat + 32) [.ref q676914, .ref q676915, .int p676916] (va_pl P676912 F676913) (pp_676918_Reader_init D I P676912 F676913 q676914 q676915 p676916 f676917) gNA := by
  refine CtA_of hl0 (by decide) (Nat.le_of_ble_eq_true rfl) ?_
  refine G_aload_n 0 dr_cX14_init_0 rfl ?_
  refine G_obj dr_cX14_init_1 wr_7_213 wr_1_51 wr_1_52 (Nat.le_of_ble_eq_true rfl) (Nat.le_of_ble_eq_true rfl) ?_
  refine G_aload_n 0 dr_cX14_init_4 rfl ?_
  refine G_ldcK (a := D.2 1000 32) dr_cX14_init_5 (fun _ _ _ h => gx_vk 32 rfl rfl h) ?_
  have hl32_676918 : (sb_32.length : Int) = 0 := rfl
  refine Gp_put 7 hmq676914 heq676914 dr_cX14_init_7 (gk_X14 D I) (Nat.le_of_ble_eq_true rfl) wr_9_43 rfl rfl rfl (Nat.le_of_ble_eq_true rfl) (fun F676920 e676921 n676922 => ?_)
  have he676923 : F676920 q676915 = .inl (I .byte, 8192, .inl f676917) := (n676922 q676915 (rn_ao heq676915 heq676914)).trans heq676915
  have he676924 : F676920 q676914 = .inr (19, [.null, .int 0, .int 0, .int 0, .int 0, .int 0, .int 0, .ref (D.2 1000 32), .int 0, .int 0, .int 0, .null, .null, .int 0]) := e676921
  have hfr676925 : rFr [q676914] P676912 F676913 F676920 := rFr_put (rFr_rf (W := []) (P := P676912) (F := F676913)) n676922
  refine G_aload_n 0 dr_cX14_init_10 rfl ?_
  refine G_iconst (-1) dr_cX14_init_11 (by decide +kernel) ?_
  refine Gp_put 8 hmq676914 he676924 dr_cX14_init_12 (gk_X14 D I) (Nat.le_of_ble_eq_true rfl) wr_9_44 rfl rfl rfl (Nat.le_of_ble_eq_true rfl) (fun F676926 e676927 n676928 => ?_)
  have he676929 : F676926 q676915 = .inl (I .byte, 8192, .inl f676917) := (n676928 q676915 (rn_ao he676923 he676924)).trans he676923
  have he676930 : F676926 q676914 = .inr (19, [.null, .int 0, .int 0, .int 0, .int 0, .int 0, .int 0, .ref (D.2 1000 32), .int (-1), .int 0, .int 0, .null, .null, .int 0]) := e676927
  have hfr676931 : rFr [q676914] P676912 F676913 F676926 := rFr_put' List.mem_cons_self hfr676925 n676928
  refine G_aload_n 0 dr_cX14_init_15 rfl ?_
  refine G_bipush 16 dr_cX14_init_16 (by decide +kernel) ?_
  refine G_newa 0 (16, .inl (fun _ => 0)) dr_cX14_init_18 rfl rfl (by intro C h; cases h) wr_1_95 (fun _ => ga_int _ _) (by decide) (by decide) (by decide) (show 0 + 1 ≤ ((16 * p676916.toInt : Int).toNat + 2) by first | omega | decide) (show 0 + 16 ≤ ((160 * p676916.toInt : Int).toNat + 32) by first | omega | decide) (fun q676932 => Gp_in (fun P676933 F676934 hq676935 hP676936 e676937 n676938 => ?_))
  refine G_widen (cs' := 1) (sl' := 16) (by omega) (by omega) ?_
  have he676939 : F676934 q676914 = .inr (19, [.null, .int 0, .int 0, .int 0, .int 0, .int 0, .int 0, .ref (D.2 1000 32), .int (-1), .int 0, .int 0, .null, .null, .int 0]) := (n676938 q676914 (fun h => hq676935 (h ▸ hmq676914))).trans he676930
  have he676940 : F676934 q676915 = .inl (I .byte, 8192, .inl f676917) := (n676938 q676915 (fun h => hq676935 (h ▸ hmq676915))).trans he676929
  have he676941 : F676934 q676932 = .inl (I .int, 16, .inl (fun _ => 0)) := e676937
  have hm676942 : q676914 ∈ P676933 := (hP676936 q676914).mpr (Or.inl hmq676914)
  have hm676943 : q676915 ∈ P676933 := (hP676936 q676915).mpr (Or.inl hmq676915)
  have hm676944 : q676932 ∈ P676933 := (hP676936 q676932).mpr (Or.inr rfl)
  have hq676945 : q676932 ∉ P676912 := fun z => hq676935 ((rSub_rf (P := P676912)) q676932 z)
  have hfr676946 : rFr [q676914] P676912 F676913 F676934 := rFr_new (rSub_rf (P := P676912)) hq676935 hfr676931 n676938
  have hsb676947 : rSub P676912 P676933 := rSub_new (rSub_rf (P := P676912)) hP676936
  refine Gp_put 11 hm676942 he676939 dr_cX14_init_20 (gk_X14 D I) (Nat.le_of_ble_eq_true rfl) wr_9_49 rfl rfl rfl (Nat.le_of_ble_eq_true rfl) (fun F676948 e676949 n676950 => ?_)
  have he676951 : F676948 q676915 = .inl (I .byte, 8192, .inl f676917) := (n676950 q676915 (rn_ao he676940 he676939)).trans he676940
  have he676952 : F676948 q676932 = .inl (I .int, 16, .inl (fun _ => 0)) := (n676950 q676932 (fun h => hq676945 (h ▸ hmq676914))).trans he676941
  have he676953 : F676948 q676914 = .inr (19, [.null, .int 0, .int 0, .int 0, .int 0, .int 0, .int 0, .ref (D.2 1000 32), .int (-1), .int 0, .int 0, .ref q676932, .null, .int 0]) := e676949
  have hfr676954 : rFr [q676914] P676912 F676913 F676948 := rFr_put' List.mem_cons_self hfr676946 n676950
  refine G_aload_n 0 dr_cX14_init_23 rfl ?_
  refine G_bipush 16 dr_cX14_init_24 (by decide +kernel) ?_
  refine G_newa 0 (16, .inl (fun _ => 0)) dr_cX14_init_26 rfl rfl (by intro C h; cases h) wr_1_95 (fun _ => ga_int _ _) (by decide) (by decide) (by decide) (show 1 + 1 ≤ ((16 * p676916.toInt : Int).toNat + 2) by first | omega | decide) (show 16 + 16 ≤ ((160 * p676916.toInt : Int).toNat + 32) by first | omega | decide) (fun q676955 => Gp_in (fun P676956 F676957 hq676958 hP676959 e676960 n676961 => ?_))
  refine G_widen (cs' := 2) (sl' := 32) (by omega) (by omega) ?_
  have he676962 : F676957 q676914 = .inr (19, [.null, .int 0, .int 0, .int 0, .int 0, .int 0, .int 0, .ref (D.2 1000 32), .int (-1), .int 0, .int 0, .ref q676932, .null, .int 0]) := (n676961 q676914 (fun h => hq676958 (h ▸ hm676942))).trans he676953
  have he676963 : F676957 q676915 = .inl (I .byte, 8192, .inl f676917) := (n676961 q676915 (fun h => hq676958 (h ▸ hm676943))).trans he676951
  have he676964 : F676957 q676932 = .inl (I .int, 16, .inl (fun _ => 0)) := (n676961 q676932 (fun h => hq676958 (h ▸ hm676944))).trans he676952
  have he676965 : F676957 q676955 = .inl (I .int, 16, .inl (fun _ => 0)) := e676960
  have hm676966 : q676914 ∈ P676956 := (hP676959 q676914).mpr (Or.inl hm676942)
  have hm676967 : q676915 ∈ P676956 := (hP676959 q676915).mpr (Or.inl hm676943)
  have hm676968 : q676932 ∈ P676956 := (hP676959 q676932).mpr (Or.inl hm676944)
  have hm676969 : q676955 ∈ P676956 := (hP676959 q676955).mpr (Or.inr rfl)
  have hq676970 : q676955 ∉ P676912 := fun z => hq676958 (hsb676947 q676955 z)
  have hfr676971 : rFr [q676914] P676912 F676913 F676957 := rFr_new hsb676947 hq676958 hfr676954 n676961
  have hsb676972 : rSub P676912 P676956 := rSub_new hsb676947 hP676959
  have hne676973 : q676932 ≠ q676955 := fun h => hq676958 (h ▸ hm676944)
  refine Gp_put 12 hm676966 he676962 dr_cX14_init_28 (gk_X14 D I) (Nat.le_of_ble_eq_true rfl) wr_9_50 rfl rfl rfl (Nat.le_of_ble_eq_true rfl) (fun F676974 e676975 n676976 => ?_)
  have he676977 : F676974 q676915 = .inl (I .byte, 8192, .inl f676917) := (n676976 q676915 (rn_ao he676963 he676962)).trans he676963
  have he676978 : F676974 q676932 = .inl (I .int, 16, .inl (fun _ => 0)) := (n676976 q676932 (fun h => hq676945 (h ▸ hmq676914))).trans he676964
  have he676979 : F676974 q676955 = .inl (I .int, 16, .inl (fun _ => 0)) := (n676976 q676955 (fun h => hq676970 (h ▸ hmq676914))).trans he676965
  have he676980 : F676974 q676914 = .inr (19, [.null, .int 0, .int 0, .int 0, .int 0, .int 0, .int 0, .ref (D.2 1000 32), .int (-1), .int 0, .int 0, .ref q676932, .ref q676955, .int 0]) := e676975
  have hfr676981 : rFr [q676914] P676912 F676913 F676974 := rFr_put' List.mem_cons_self hfr676971 n676976
  refine G_aload_n 0 dr_cX14_init_31 rfl ?_
  refine G_aload_n 1 dr_cX14_init_32 rfl ?_
  refine Gp_putF 0 hm676966 he676980 dr_cX14_init_33 (gk_X14 D I) (Nat.le_of_ble_eq_true rfl) wr_9_36 rfl rfl rfl rfl rfl (Nat.le_of_ble_eq_true rfl) (fun F676982 e676983 n676984 => ?_)
  have he676985 : F676982 q676915 = .inl (I .byte, 8192, .inl f676917) := (n676984 q676915 (rn_ao he676977 he676980)).trans he676977
  have he676986 : F676982 q676932 = .inl (I .int, 16, .inl (fun _ => 0)) := (n676984 q676932 (fun h => hq676945 (h ▸ hmq676914))).trans he676978
  have he676987 : F676982 q676955 = .inl (I .int, 16, .inl (fun _ => 0)) := (n676984 q676955 (fun h => hq676970 (h ▸ hmq676914))).trans he676979
  have he676988 : F676982 q676914 = .inr (19, [.ref q676915, .int 0, .int 0, .int 0, .int 0, .int 0, .int 0, .ref (D.2 1000 32), .int (-1), .int 0, .int 0, .ref q676932, .ref q676955, .int 0]) := e676983
  have hfr676989 : rFr [q676914] P676912 F676913 F676982 := rFr_put' List.mem_cons_self hfr676981 n676984
  refine G_aload_n 0 dr_cX14_init_36 rfl ?_
  refine G_iload_n 2 dr_cX14_init_37 rfl ?_
  refine Gp_putF 1 hm676966 he676988 dr_cX14_init_38 (gk_X14 D I) (Nat.le_of_ble_eq_true rfl) wr_9_37 rfl rfl rfl rfl rfl (Nat.le_of_ble_eq_true rfl) (fun F676990 e676991 n676992 => ?_)
  have he676993 : F676990 q676915 = .inl (I .byte, 8192, .inl f676917) := (n676992 q676915 (rn_ao he676985 he676988)).trans he676985
  have he676994 : F676990 q676932 = .inl (I .int, 16, .inl (fun _ => 0)) := (n676992 q676932 (fun h => hq676945 (h ▸ hmq676914))).trans he676986
  have he676995 : F676990 q676955 = .inl (I .int, 16, .inl (fun _ => 0)) := (n676992 q676955 (fun h => hq676970 (h ▸ hmq676914))).trans he676987
  have he676996 : F676990 q676914 = .inr (19, [.ref q676915, .int p676916, .int 0, .int 0, .int 0, .int 0, .int 0, .ref (D.2 1000 32), .int (-1), .int 0, .int 0, .ref q676932, .ref q676955, .int 0]) := e676991
  have hfr676997 : rFr [q676914] P676912 F676913 F676990 := rFr_put' List.mem_cons_self hfr676989 n676992
  refine G_aload_n 0 dr_cX14_init_41 rfl ?_
  refine Gw_callV (As := []) (gV_ok D I) (cp_672367_Reader_next l hl0 D I P676956 F676990 q676914 q676915 p676916 0 0 0 0 0 (D.2 1000 32) (-1) 0 0 q676932 q676955 0 f676917 hm676966 hm676967 he676996 he676993 bp676916 (gB_w (gBl (show Int32.toInt 0 = 0 by decide)) (by decide) (by decide)) (gB_w (gBl (show Int32.toInt 0 = 0 by decide)) (by decide) (by decide)) (gB_w (gBl (show Int32.toInt 0 = 0 by decide)) (by decide) (by decide)) (gB_w (gBl (show Int32.toInt 0 = 0 by decide)) (by decide) (by decide)) (gB_w (gBl (show Int32.toInt (-1) = (-1) by decide)) (by decide) (by decide)) (gB_w (gBl (show Int32.toInt 0 = 0 by decide)) (by decide) (by decide)) (gB_w (gBl (show Int32.toInt 0 = 0 by decide)) (by decide) (by decide)) (gB_w (gBl (show Int32.toInt 0 = 0 by decide)) (by decide) (by decide)) bf676917 (by have qa0 : Int32.toInt (-1) = (-1) := (by decide); have qa1 : Int32.toInt 0 = 0 := (by decide); omega) hm676969 hm676968) dr_cX14_init_42 ⟨wr_7_215, wr_1_32, wr_7_218, by decide, rfl, (Nat.le_of_ble_eq_true rfl), (Nat.le_of_ble_eq_true rfl)⟩ wr_7_217 wr_p_75 hm676966 he676996 rfl (show 2 + ((16 * (p676916.toInt - 0)).toNat) ≤ ((16 * p676916.toInt : Int).toNat + 2) by first | omega | decide) (show 32 + ((160 * (p676916.toInt - 0)).toNat) ≤ ((160 * p676916.toInt : Int).toNat + 32) by first | omega | decide) (Nat.le_of_ble_eq_true rfl) (fun r677001 w677002 dc676998 ds676999 hp677000 => ?_) (fun _ _ _ _ _ z => z.elim)
  obtain ⟨P677015, F677016, o677003, o677004, o677005, o677006, q677007, xt677014, rfl, rfl, hsb677017, hfr677018, he677019, he677020, hdc, hds, bo677003, bo677004, bo677005, x677008, x677009, x677010, x677011, x677012, ht677013⟩ := hp677000
  have hm677021 : q676914 ∈ P677015 := hsb677017 q676914 hm676966
  have hm677022 : q676915 ∈ P677015 := hsb677017 q676915 hm676967
  have hm677023 : q676932 ∈ P677015 := hsb677017 q676932 hm676968
  have hm677024 : q676955 ∈ P677015 := hsb677017 q676955 hm676969
  have hsb677025 : rSub P676912 P677015 := rSub_tr hsb676972 hsb677017
  have he677026 : F677016 q676932 = .inl (I .int, 16, .inl (fun _ => 0)) := (hfr677018 q676932 hm676968 (nm_c (fun h => hq676945 (h ▸ hmq676914)) nm_n)).trans he676994
  have he677027 : F677016 q676955 = .inl (I .int, 16, .inl (fun _ => 0)) := (hfr677018 q676955 hm676969 (nm_c (fun h => hq676970 (h ▸ hmq676914)) nm_n)).trans he676995
  have hfr677028 : rFr [q676914] P676912 F676913 F677016 := rFr_call hsb676972 hfr676997 hfr677018 (fun b hb hn => ⟨(nm_c (fun e => hn (e ▸ List.mem_cons_self)) nm_n), (nm_c (fun e => hn (e ▸ List.mem_cons_self)) nm_n)⟩)
  have bo677006 := gB_any o677006
  rw [show Int32.toInt 0 = 0 from by decide] at x677008
  change G _ _ _ _ _ _ _ _ _ _ _
  have qz677029 : Int32.toInt 0 = 0 := by decide
  refine G_widen (cs' := 2 + ((16 * (o677003.toInt - 0)).toNat)) (sl' := 32 + ((160 * (o677003.toInt - 0)).toNat)) (by omega) (by omega) ?_
  exact G_vretA dr_cX14_init_45 rfl (show 2 + ((16 * (o677003.toInt - 0)).toNat) ≤ ((16 * p676916.toInt : Int).toNat + 2) by omega) (show 32 + ((160 * (o677003.toInt - 0)).toNat) ≤ ((160 * p676916.toInt : Int).toNat + 32) by omega) ⟨P677015, F677016, o677003, o677004, o677005, o677006, q677007, q676932, q676955, xt677014, rfl, rfl, hsb677025, hfr677028, he677026, he677027, he677019, he677020, hm677023, hq676945, hm677024, hq676970, (by omega), (by omega), bo677003, bo677004, bo677005, (by have qa0 : Int32.toInt (-1) = (-1) := (by decide); have qa1 : Int32.toInt 0 = 0 := (by decide); omega), (by have qa0 : Int32.toInt (-1) = (-1) := (by decide); have qa1 : Int32.toInt 0 = 0 := (by decide); omega), (by have qa0 : Int32.toInt (-1) = (-1) := (by decide); have qa1 : Int32.toInt 0 = 0 := (by decide); omega), x677011, x677012, (Ne.symm hne676973), (by have qa0 : Int32.toInt (-1) = (-1) := (by decide); have qa1 : Int32.toInt 0 = 0 := (by decide); omega), (by have qa0 : Int32.toInt (-1) = (-1) := (by decide); have qa1 : Int32.toInt 0 = 0 := (by decide); omega), glP_0, (by have qa0 : Int32.toInt (-1) = (-1) := (by decide); have qa1 : Int32.toInt 0 = 0 := (by decide); omega), (by have qa0 : Int32.toInt (-1) = (-1) := (by decide); have qa1 : Int32.toInt 0 = 0 := (by decide); omega), (by have qa0 : Int32.toInt (-1) = (-1) := (by decide); have qa1 : Int32.toInt 0 = 0 := (by decide); omega), (fun R c1 => c1 xt677014 o677003 o677004 o677005 o677006 bo677003 bo677004 bo677005 ht677013)⟩
