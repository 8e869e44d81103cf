theorem dr_cX17_rename_0 : decode cX17_rename 0 = .ok (.iconst 0, 1) := by decide +kernel
theorem dr_cX17_rename_1 : decode cX17_rename 1 = .ok (.istore_n 3, 1) := by decide +kernel
theorem dr_cX17_rename_2 : decode cX17_rename 2 = .ok (.iload_n 3, 1) := by decide +kernel
theorem dr_cX17_rename_3 : decode cX17_rename 3 = .ok (.aload_n 0, 1) := by decide +kernel
theorem dr_cX17_rename_4 : decode cX17_rename 4 = .ok (.invokevirtual 96, 3) := by decide +kernel
theorem dr_cX17_rename_7 : decode cX17_rename 7 = .ok (.if_icmp .ge 143, 3) := by decide +kernel
theorem dr_cX17_rename_150 : decode cX17_rename 150 = .ok (.return_, 1) := by decide +kernel
theorem dr_cX17_rename_10 : decode cX17_rename 10 = .ok (.aload_n 0, 1) := by decide +kernel
theorem dr_cX17_rename_11 : decode cX17_rename 11 = .ok (.iload_n 3, 1) := by decide +kernel
theorem dr_cX17_rename_12 : decode cX17_rename 12 = .ok (.invokevirtual 101, 3) := by decide +kernel
theorem dr_cX17_rename_15 : decode cX17_rename 15 = .ok (.astore 4, 2) := by decide +kernel
theorem dr_cX17_rename_17 : decode cX17_rename 17 = .ok (.iconst 0, 1) := by decide +kernel
theorem dr_cX17_rename_18 : decode cX17_rename 18 = .ok (.istore 5, 2) := by decide +kernel
theorem dr_cX17_rename_20 : decode cX17_rename 20 = .ok (.iload 5, 2) := by decide +kernel
theorem dr_cX17_rename_22 : decode cX17_rename 22 = .ok (.aload 4, 2) := by decide +kernel
theorem dr_cX17_rename_24 : decode cX17_rename 24 = .ok (.getfield 117, 3) := by decide +kernel
theorem dr_cX17_rename_27 : decode cX17_rename 27 = .ok (.invokevirtual 121, 3) := by decide +kernel
theorem dr_cX17_rename_30 : decode cX17_rename 30 = .ok (.if_icmp .gt 114, 3) := by decide +kernel
theorem dr_cX17_rename_144 : decode cX17_rename 144 = .ok (.iinc 3 1, 3) := by decide +kernel
theorem dr_cX17_rename_147 : decode cX17_rename 147 = .ok (.goto (-145), 3) := by decide +kernel
theorem dr_cX17_rename_33 : decode cX17_rename 33 = .ok (.iload 5, 2) := by decide +kernel
theorem dr_cX17_rename_35 : decode cX17_rename 35 = .ok (.aload 4, 2) := by decide +kernel
theorem dr_cX17_rename_37 : decode cX17_rename 37 = .ok (.getfield 117, 3) := by decide +kernel
theorem dr_cX17_rename_40 : decode cX17_rename 40 = .ok (.invokevirtual 121, 3) := by decide +kernel
theorem dr_cX17_rename_43 : decode cX17_rename 43 = .ok (.if_icmp .ge 19, 3) := by decide +kernel
theorem dr_cX17_rename_62 : decode cX17_rename 62 = .ok (.aload 4, 2) := by decide +kernel
theorem dr_cX17_rename_64 : decode cX17_rename 64 = .ok (.getfield 109, 3) := by decide +kernel
theorem dr_cX17_rename_67 : decode cX17_rename 67 = .ok (.astore 6, 2) := by decide +kernel
theorem dr_cX17_rename_69 : decode cX17_rename 69 = .ok (.aload 6, 2) := by decide +kernel
theorem dr_cX17_rename_71 : decode cX17_rename 71 = .ok (.invokevirtual 70, 3) := by decide +kernel
theorem dr_cX17_rename_74 : decode cX17_rename 74 = .ok (.ifCond .eq 18, 3) := by decide +kernel
theorem dr_cX17_rename_92 : decode cX17_rename 92 = .ok (.aload 6, 2) := by decide +kernel
theorem dr_cX17_rename_94 : decode cX17_rename 94 = .ok (.invokevirtual 76, 3) := by decide +kernel
theorem dr_cX17_rename_97 : decode cX17_rename 97 = .ok (.ifCond .eq 18, 3) := by decide +kernel
theorem dr_cX17_rename_115 : decode cX17_rename 115 = .ok (.aload 6, 2) := by decide +kernel
theorem dr_cX17_rename_117 : decode cX17_rename 117 = .ok (.invokevirtual 48, 3) := by decide +kernel
theorem dr_cX17_rename_120 : decode cX17_rename 120 = .ok (.ifCond .eq 18, 3) := by decide +kernel
theorem dr_cX17_rename_138 : decode cX17_rename 138 = .ok (.iinc 5 1, 3) := by decide +kernel
theorem dr_cX17_rename_141 : decode cX17_rename 141 = .ok (.goto (-121), 3) := by decide +kernel
theorem dr_cX17_rename_123 : decode cX17_rename 123 = .ok (.aload 6, 2) := by decide +kernel
theorem dr_cX17_rename_125 : decode cX17_rename 125 = .ok (.getfield 52, 3) := by decide +kernel
theorem dr_cX17_rename_128 : decode cX17_rename 128 = .ok (.iload_n 1, 1) := by decide +kernel
theorem dr_cX17_rename_129 : decode cX17_rename 129 = .ok (.if_icmp .ne 9, 3) := by decide +kernel
theorem dr_cX17_rename_132 : decode cX17_rename 132 = .ok (.aload 6, 2) := by decide +kernel
theorem dr_cX17_rename_134 : decode cX17_rename 134 = .ok (.iload_n 2, 1) := by decide +kernel
theorem dr_cX17_rename_135 : decode cX17_rename 135 = .ok (.putfield 52, 3) := by decide +kernel
theorem dr_cX17_rename_100 : decode cX17_rename 100 = .ok (.aload 6, 2) := by decide +kernel
theorem dr_cX17_rename_102 : decode cX17_rename 102 = .ok (.getfield 79, 3) := by decide +kernel
theorem dr_cX17_rename_105 : decode cX17_rename 105 = .ok (.iload_n 1, 1) := by decide +kernel
theorem dr_cX17_rename_106 : decode cX17_rename 106 = .ok (.if_icmp .ne 9, 3) := by decide +kernel
theorem dr_cX17_rename_109 : decode cX17_rename 109 = .ok (.aload 6, 2) := by decide +kernel
theorem dr_cX17_rename_111 : decode cX17_rename 111 = .ok (.iload_n 2, 1) := by decide +kernel
theorem dr_cX17_rename_112 : decode cX17_rename 112 = .ok (.putfield 79, 3) := by decide +kernel
theorem dr_cX17_rename_77 : decode cX17_rename 77 = .ok (.aload 6, 2) := by decide +kernel
theorem dr_cX17_rename_79 : decode cX17_rename 79 = .ok (.getfield 73, 3) := by decide +kernel
theorem dr_cX17_rename_82 : decode cX17_rename 82 = .ok (.iload_n 1, 1) := by decide +kernel
theorem dr_cX17_rename_83 : decode cX17_rename 83 = .ok (.if_icmp .ne 9, 3) := by decide +kernel
theorem dr_cX17_rename_86 : decode cX17_rename 86 = .ok (.aload 6, 2) := by decide +kernel
theorem dr_cX17_rename_88 : decode cX17_rename 88 = .ok (.iload_n 2, 1) := by decide +kernel
theorem dr_cX17_rename_89 : decode cX17_rename 89 = .ok (.putfield 73, 3) := by decide +kernel
theorem dr_cX17_rename_46 : decode cX17_rename 46 = .ok (.aload 4, 2) := by decide +kernel
theorem dr_cX17_rename_48 : decode cX17_rename 48 = .ok (.getfield 117, 3) := by decide +kernel
theorem dr_cX17_rename_51 : decode cX17_rename 51 = .ok (.iload 5, 2) := by decide +kernel
theorem dr_cX17_rename_53 : decode cX17_rename 53 = .ok (.invokevirtual 124, 3) := by decide +kernel
theorem dr_cX17_rename_56 : decode cX17_rename 56 = .ok (.checkcast 40, 3) := by decide +kernel
theorem dr_cX17_rename_59 : decode cX17_rename 59 = .ok (.goto 8, 3) := by decide +kernel
abbrev ky_171256_SpillForgeModel_rename : gKey := (cX17_rename, 7, "SpillForgeModel", none, [], "rename", fun _ _ => True)
def pt_171256_SpillForgeModel_rename (D : va_G) (I : FieldType → ClassId) (γ el : Nat → Nat → Nat) (P171250 : List Nat) (F171251 : Nat → va_E) (q171252 : Nat) (p171253 : Int32) (p171254 : Int32) : Option Value → va_W → Nat → Nat → Prop := fun r w dc ds => ∃ (F195693 : Nat → va_E), r = none ∧ w = va_pl P171250 F195693 ∧ RS D I P171250 F195693 γ el ∧ rStr γ [1] F171251 F195693 ∧ dc ≤ 0 ∧ ds ≤ 0 ∧ tr_RModel_rename D I γ el P171250 F171251 q171252 p171253 p171254 F195693
set_option maxRecDepth 100000 in
set_option maxHeartbeats 4000000 in
theorem ct_171256_SpillForgeModel_rename (l : Launch) (hl0 : l.stackTraces = false) (D : va_G) (I : FieldType → ClassId) (γ el : Nat → Nat → Nat) (P171250 : List Nat) (F171251 : Nat → va_E) (q171252 : Nat) (p171253 : Int32) (p171254 : Int32) (hT : RS D I P171250 F171251 γ el) (htq171252 : rKd γ q171252 9) (bp171253 : gB p171253 0 1999) (bp171254 : gB p171254 0 1999) (x171255 : 0 < γ 6 (γ 1 q171252)) : CtA (gV D I) l yX17_rename cX17_rename 7 none 4 85 0 0 [.ref q171252, .int p171253, .int p171254] (va_pl P171250 F171251) (pt_171256_SpillForgeModel_rename D I γ el P171250 F171251 q171252 p171253 p171254) gNA := by
  refine CtA_of hl0 (by decide) (Nat.le_of_ble_eq_true rfl) ?_
  refine G_iconst 0 dr_cX17_rename_0 (by decide +kernel) ?_
  refine G_istore_n (L' := [(3, .int 0), (0, .ref q171252), (1, .int p171253), (2, .int p171254)]) dr_cX17_rename_1 (Nat.le_of_ble_eq_true rfl) rfl ?_
  have hlp2_193957 : ∀ (n2_193957 : Nat) (F193955 : Nat → va_E) (g193954 : Int32), gB g193954 0 1000000 → RS D I P171250 F193955 γ el → rStr γ [1] F171251 F193955 → (∀ (k : Nat) (e1 : Nat → va_E), tl_RModel_rename_2 D I γ el P171250 F171251 q171252 p171253 p171254 F193955 g193954 k e1 → tl_RModel_rename_2 D I γ el P171250 F171251 q171252 p171253 p171254 F171251 (0 : Int32) k e1) → ((1000001 : Int) - g193954.toInt).toNat < n2_193957 → G (gV D I) l (gRm 4 85 0 0) (gMA (gV D I) (pt_171256_SpillForgeModel_rename D I γ el P171250 F171251 q171252 p171253 p171254) gNA 0 0) ky_171256_SpillForgeModel_rename 2 [(3, .int g193954), (0, .ref q171252), (1, .int p171253), (2, .int p171254)] [] (va_pl P171250 F193955) 0 0 := by
    intro n2_193957
    induction n2_193957 with
    | zero => intro F193955 g193954 bg193954 hT193956 hs193957 kt2_193958 hm2_193957; exact absurd hm2_193957 (Nat.not_lt_zero _)
    | succ n2_193957 ih2_193957 =>
      intro F193955 g193954 bg193954 hT193956 hs193957 kt2_193958 hm2_193957
      have hs193959 : rStr γ [1] F171251 F193955 := fun b h0 hb hw => (hs193957 b h0 hb hw).trans ((rStr_rf (γ := γ) (W := [1]) (F := F171251)) b h0 hb hw).symm
      have hs193960 : rStr γ [1] F171251 F193955 := rStr_tr (rStr_rf (γ := γ) (W := [1]) (F := F171251)) hs193959
      refine G_iload_n 0 dr_cX17_rename_2 rfl ?_
      refine G_aload_n 1 dr_cX17_rename_3 rfl ?_
      have hm193961 : q171252 ∈ P171250 := RS_m hT193956 htq171252 (by decide)
      obtain ⟨q193963, q193964, p193965, p193966, he193962, ht193982, ht193967, ht193968, ht193969, ht193970, r193971, r193972, r193973, r193974, r193975, r193976, r193977, r193978, r193979, r193980, r193981⟩ := show rk_9 γ el q171252 (F193955 q171252) from RS_o hT193956 htq171252
      have bp193965 : gB p193965 0 1000000 := ⟨by omega, by omega⟩
      have bp193966 : gB p193966 0 1000000 := ⟨by omega, by omega⟩
      have fq193983 : fI (F193955 q171252) 3 = p193966 := by rw [he193962]; rfl
      refine Gw_callV (As := []) (gV_ok D I) (cp_12780_Code_size l hl0 D I P171250 F193955 q171252 q193963 q193964 p193965 p193966 hm193961 he193962) dr_cX17_rename_4 ⟨wr_10_160, wr_1_15, wr_9_131, by decide, rfl, (Nat.le_of_ble_eq_true rfl), (Nat.le_of_ble_eq_true rfl)⟩ wr_9_129 wr_9_130 hm193961 he193962 rfl (show 0 + 0 ≤ 0 by first | omega | decide) (show 0 + 0 ≤ 0 by first | omega | decide) (Nat.le_of_ble_eq_true rfl) (fun r193987 w193988 dc193984 ds193985 hp193986 => ?_) (fun _ _ _ _ _ z => z.elim)
      obtain ⟨rfl, rfl, hdc, hds⟩ := hp193986
      change G _ _ _ _ _ _ _ (.int p193966 :: _) _ _ _
      refine G_widen (cs' := 0) (sl' := 0) (by omega) (by omega) ?_
      refine G_icmp_ge 150 dr_cX17_rename_7 (by decide +kernel) (fun hc193989 => ?_) (fun hc193989 => ?_)
      · have r193990 : p193966.toInt ≤ g193954.toInt := gC_le hc193989
        have hx193991 : tl_RModel_rename_2 D I γ el P171250 F171251 q171252 p171253 p171254 F171251 (0 : Int32) 150 F193955 := kt2_193958 150 F193955 (fun R c1 c2 => c1 F193955 g193954 p193966 bg193954 hT193956 hs193957 fq193983 r193990)
        exact G_vretA dr_cX17_rename_150 rfl (Nat.le_of_ble_eq_true rfl) (Nat.le_of_ble_eq_true rfl) ⟨F193955, rfl, rfl, hT193956, hs193957, (Nat.le_of_ble_eq_true rfl), (Nat.le_of_ble_eq_true rfl), (fun R c1 => c1 F193955 hx193991)⟩
      · have r193992 : g193954.toInt < p193966.toInt := gC_nle hc193989
        have bg193954' : gB g193954 0 999999 := ⟨by omega, by omega⟩
        have bp193966' : gB p193966 1 1000000 := ⟨by omega, by omega⟩
        refine G_aload_n 1 dr_cX17_rename_10 rfl ?_
        refine G_iload_n 0 dr_cX17_rename_11 rfl ?_
        have hm193993 : q193963 ∈ P171250 := RS_m hT193956 ht193967 (by decide)
        obtain ⟨⟨p193995, p193996, q193997, he193994, r193998, r193999, r194000, r194002⟩, r194001⟩ := show rk_4 D I γ el F193955 q193963 from RS_o hT193956 ht193967
        have bp193995 := gB_any p193995
        have bp193996 : gB p193996 0 1000000 := ⟨by omega, by omega⟩
        obtain ⟨r194003, r194004, n194011, f194012, r194005, r194006, r194007, r194008, r194009, r194010⟩ := rLC_n r194000 (by omega)
        have hm194013 : q193997 ∈ P171250 := RS_m hT193956 r194003 (by decide)
        obtain ⟨q194014, hx194015⟩ : ∃ x, x = el q193963 g193954.toInt.toNat := ⟨_, rfl⟩
        have fq194019 : fR (F193955 q171252) 0 = q193963 := by rw [he193962]; rfl
        have hx194016 : f194012 g193954.toNatClampNeg = some q194014 := (r194009 _ (show g193954.toInt.toNat < γ 2 q193963 by omega)).trans (by rw [hx194015])
        have ht194020 : rKd γ q194014 2 := by rw [hx194015]; exact (r193978 _ (by omega)).resolve_right (fun z => absurd z.1 (by omega))
        have ht194021 : rFm γ q194014 q193963 := by rw [hx194015]; exact (r194001 _ (show g193954.toInt.toNat < γ 2 q193963 by omega)).2.1
        have hm194022 : q194014 ∈ P171250 := RS_m hT193956 ht194020 (by decide)
        obtain ⟨q194024, q194025, p194026, p194027, he194023, ht194034, ht194028, ht194029, ht194030, ht194031, ht194032, bp194026, bp194027, r194033, r194035, r194036⟩ := show rk_2 γ q194014 (F193955 q194014) from RS_o hT193956 ht194020
        have fq194037 : fI (F193955 q193963) 2 = p193996 := by rw [he193994]; rfl
        refine Gw_callV (As := [.int g193954]) (gV_ok D I) (cp_7901_Code_get l hl0 D I P171250 F193955 q171252 q193963 q193997 g193954 q193964 p193965 p193966 p193995 p193996 f194012 n194011 q194014 q194024 q194025 p194026 p194027 hm193961 hm193993 hm194013 hm194022 he193962 he193994 r194005 he194023 (gB_w bg193954' (by decide) (by decide)) (gB_w bp193996 (by decide) (by decide)) (by omega) (by omega) (by assumption) (by omega)) dr_cX17_rename_12 ⟨wr_10_161, wr_1_15, wr_10_141, by decide, rfl, (Nat.le_of_ble_eq_true rfl), (Nat.le_of_ble_eq_true rfl)⟩ wr_10_139 wr_10_140 hm193961 he193962 rfl (show 0 + 0 ≤ 0 by first | omega | decide) (show 0 + 0 ≤ 0 by first | omega | decide) (Nat.le_of_ble_eq_true rfl) (fun r194041 w194042 dc194038 ds194039 hp194040 => ?_) (fun _ _ _ _ _ z => z.elim)
        obtain ⟨rfl, rfl, hdc, hds, ht194043⟩ := hp194040
        change G _ _ _ _ _ _ _ (.ref q194014 :: _) _ _ _
        refine G_widen (cs' := 0) (sl' := 0) (by omega) (by omega) ?_
        refine G_astore (L' := [(4, .ref q194014), (3, .int g193954), (0, .ref q171252), (1, .int p171253), (2, .int p171254)]) dr_cX17_rename_15 (Nat.le_of_ble_eq_true rfl) rfl ?_
        refine G_iconst 0 dr_cX17_rename_17 (by decide +kernel) ?_
        refine G_istore (L' := [(5, .int 0), (4, .ref q194014), (3, .int g193954), (0, .ref q171252), (1, .int p171253), (2, .int p171254)]) dr_cX17_rename_18 (Nat.le_of_ble_eq_true rfl) rfl ?_
        have hlp20_194833 : ∀ (n20_194833 : Nat) (F194831 : Nat → va_E) (g194830 : Int32), gB g194830 0 1000001 → RS D I P171250 F194831 γ el → rStr γ [1] F171251 F194831 → (∀ (k : Nat) (e1 : Nat → va_E), tl_RModel_rename_20 D I γ el P171250 F171251 q194014 p171253 p171254 F194831 g194830 k e1 → tl_RModel_rename_20 D I γ el P171250 F171251 q194014 p171253 p171254 F193955 (0 : Int32) k e1) → ((1000002 : Int) - g194830.toInt).toNat < n20_194833 → G (gV D I) l (gRm 4 85 0 0) (gMA (gV D I) (pt_171256_SpillForgeModel_rename D I γ el P171250 F171251 q171252 p171253 p171254) gNA 0 0) ky_171256_SpillForgeModel_rename 20 [(5, .int g194830), (4, .ref q194014), (3, .int g193954), (0, .ref q171252), (1, .int p171253), (2, .int p171254)] [] (va_pl P171250 F194831) 0 0 := by
          intro n20_194833
          induction n20_194833 with
          | zero => intro F194831 g194830 bg194830 hT194832 hs194833 kt20_194834 hm20_194833; exact absurd hm20_194833 (Nat.not_lt_zero _)
          | succ n20_194833 ih20_194833 =>
            intro F194831 g194830 bg194830 hT194832 hs194833 kt20_194834 hm20_194833
            have hs194835 : rStr γ [1] F193955 F194831 := fun b h0 hb hw => (hs194833 b h0 hb hw).trans (hs193957 b h0 hb hw).symm
            have he194836 : F194831 q171252 = .inr (18, [.ref q193963, .ref q193964, .int p193965, .int p193966]) := (hs194835 q171252 (rT0 htq171252 (by decide)) (rT1 htq171252 (by decide)) (rT2 htq171252 (by decide))).trans he193962
            have he194837 : F194831 q193963 = .inr (4, [.int p193995, .ref q193997, .int p193996]) := (hs194835 q193963 (rT0 ht193967 (by decide)) (rT1 ht193967 (by decide)) (rT2 ht193967 (by decide))).trans he193994
            have he194838 : F194831 q193997 = .inl (I (.object "java/lang/Object"), n194011, .inr (.inr (.inr (.inr f194012)))) := (hs194835 q193997 (rT0 r194003 (by decide)) (rT1 r194003 (by decide)) (rT2 r194003 (by decide))).trans r194005
            have he194839 : F194831 q194014 = .inr (17, [.ref q194024, .ref q194025, .int p194026, .int p194027]) := (hs194835 q194014 (rT0 ht194020 (by decide)) (rT1 ht194020 (by decide)) (rT2 ht194020 (by decide))).trans he194023
            have hs194840 : rStr γ [1] F171251 F194831 := rStr_tr hs193957 hs194835
            refine G_iload 0 dr_cX17_rename_20 rfl ?_
            refine G_aload 1 dr_cX17_rename_22 rfl ?_
            have fq194841 : fR (F194831 q194014) 0 = q194024 := by rw [he194839]; rfl
            refine Gp_get 0 hm194022 he194839 dr_cX17_rename_24 (gk_X12 D I) (Nat.le_of_ble_eq_true rfl) wr_9_220 rfl ?_
            have hm194842 : q194024 ∈ P171250 := RS_m hT194832 ht194028 (by decide)
            obtain ⟨⟨p194844, p194845, q194846, he194843, r194847, r194848, r194849, r194851⟩, r194850⟩ := show rk_3 D I γ el F194831 q194024 from RS_o hT194832 ht194028
            have bp194844 := gB_any p194844
            have bp194845 : gB p194845 0 1000000 := ⟨by omega, by omega⟩
            have fq194852 : p194845.toInt = (γ 2 q194024 : Int) := by omega
            have fq194853 : fI (F194831 q194024) 2 = p194845 := by rw [he194843]; rfl
            refine Gw_callV (As := []) (gV_ok D I) (cp_7_ArrayList_size l hl0 D I P171250 F194831 q194024 p194844 q194846 p194845 hm194842 he194843 (gB_w bp194845 (by decide) (by decide))) dr_cX17_rename_27 ⟨wr_10_200, wr_1_18, wr_9_160, by decide, rfl, (Nat.le_of_ble_eq_true rfl), (Nat.le_of_ble_eq_true rfl)⟩ wr_9_158 wr_9_159 hm194842 he194843 rfl (show 0 + 0 ≤ 0 by first | omega | decide) (show 0 + 0 ≤ 0 by first | omega | decide) (Nat.le_of_ble_eq_true rfl) (fun r194857 w194858 dc194854 ds194855 hp194856 => ?_) (fun _ _ _ _ _ z => z.elim)
            obtain ⟨rfl, rfl, hdc, hds⟩ := hp194856
            change G _ _ _ _ _ _ _ (.int p194845 :: _) _ _ _
            refine G_widen (cs' := 0) (sl' := 0) (by omega) (by omega) ?_
            refine G_icmp_gt 144 dr_cX17_rename_30 (by decide +kernel) (fun hc194859 => ?_) (fun hc194859 => ?_)
            · have r194860 : p194845.toInt < g194830.toInt := gC_lt hc194859
              have bg194830' : gB g194830 1 1000001 := ⟨by omega, by omega⟩
              have hx194861 : tl_RModel_rename_20 D I γ el P171250 F171251 q194014 p171253 p171254 F193955 (0 : Int32) 144 F194831 := kt20_194834 144 F194831 (fun R c1 c2 c3 c4 c5 c6 c7 c8 c9 c10 c11 c12 c13 c14 c15 c16 c17 c18 c19 c20 c21 c22 c23 c24 c25 c26 c27 c28 c29 c30 c31 c32 c33 c34 c35 c36 c37 c38 c39 c40 c41 c42 c43 c44 c45 c46 c47 c48 c49 c50 c51 c52 c53 c54 c55 => c1 F194831 g194830 q194024 p194845 bg194830 hT194832 hs194833 fq194841 fq194852 fq194853 r194860)
              obtain ⟨z194862, hz194862⟩ : ∃ z : Int32, z = g193954 + Int32.ofInt 1 := ⟨_, rfl⟩
              have ez194862 : z194862.toInt = g193954.toInt + 1 := gI_inc hz194862 (by decide) bg193954' (by decide) (by decide)
              have bz194862 : gB z194862 1 1000000 := ⟨by omega, by omega⟩
              refine G_iinc (L' := [(3, .int z194862), (5, .int g194830), (4, .ref q194014), (0, .ref q171252), (1, .int p171253), (2, .int p171254)]) z194862 2 dr_cX17_rename_144 rfl hz194862.symm (Nat.le_of_ble_eq_true rfl) rfl ?_
              refine G_goto 2 dr_cX17_rename_147 (by decide +kernel) ?_
              refine G_lv (L' := [(3, .int z194862), (0, .ref q171252), (1, .int p171253), (2, .int p171254)]) [0, 3, 4, 5] rfl ?_
              exact ih2_193957 F194831 z194862 (gB_w bz194862 (by decide) (by decide)) hT194832 hs194833 (fun k e1 ht => kt2_193958 k e1 (fun R c1 c2 => c2 F193955 g193954 p193966 q193963 q194014 p193996 F194831 z194862 k e1 bg193954 hT193956 hs193957 fq193983 r193992 fq194019 hx194015 fq194037 ht194043 hx194861 ez194862 (ht R c1 c2))) (by omega)
            · have r194863 : g194830.toInt ≤ p194845.toInt := gC_nlt hc194859
              have bg194830' : gB g194830 0 1000000 := ⟨by omega, by omega⟩
              refine G_iload 0 dr_cX17_rename_33 rfl ?_
              refine G_aload 1 dr_cX17_rename_35 rfl ?_
              refine Gp_get 0 hm194022 he194839 dr_cX17_rename_37 (gk_X12 D I) (Nat.le_of_ble_eq_true rfl) wr_9_220 rfl ?_
              have fq194864 : p194845.toInt = (γ 2 q194024 : Int) := by omega
              refine Gw_callV (As := []) (gV_ok D I) (cp_7_ArrayList_size l hl0 D I P171250 F194831 q194024 p194844 q194846 p194845 hm194842 he194843 (gB_w bp194845 (by decide) (by decide))) dr_cX17_rename_40 ⟨wr_10_200, wr_1_18, wr_9_160, by decide, rfl, (Nat.le_of_ble_eq_true rfl), (Nat.le_of_ble_eq_true rfl)⟩ wr_9_158 wr_9_159 hm194842 he194843 rfl (show 0 + 0 ≤ 0 by first | omega | decide) (show 0 + 0 ≤ 0 by first | omega | decide) (Nat.le_of_ble_eq_true rfl) (fun r194868 w194869 dc194865 ds194866 hp194867 => ?_) (fun _ _ _ _ _ z => z.elim)
              obtain ⟨rfl, rfl, hdc, hds⟩ := hp194867
              change G _ _ _ _ _ _ _ (.int p194845 :: _) _ _ _
              refine G_widen (cs' := 0) (sl' := 0) (by omega) (by omega) ?_
              refine G_icmp_ge 62 dr_cX17_rename_43 (by decide +kernel) (fun hc194870 => ?_) (fun hc194870 => ?_)
              · have r194871 : p194845.toInt ≤ g194830.toInt := gC_le hc194870
                refine G_aload 1 dr_cX17_rename_62 rfl ?_
                have fq194872 : fR (F194831 q194014) 1 = q194025 := by rw [he194839]; rfl
                refine Gp_get 1 hm194022 he194839 dr_cX17_rename_64 (gk_X12 D I) (Nat.le_of_ble_eq_true rfl) wr_9_223 rfl ?_
                refine G_astore (L' := [(6, .ref q194025), (5, .int g194830), (4, .ref q194014), (3, .int g193954), (0, .ref q171252), (1, .int p171253), (2, .int p171254)]) dr_cX17_rename_67 (Nat.le_of_ble_eq_true rfl) rfl ?_
                refine G_aload 0 dr_cX17_rename_69 rfl ?_
                have hm194873 : q194025 ∈ P171250 := RS_m hT194832 ht194030 (by decide)
                obtain ⟨p194875, p194876, p194877, p194878, p194879, p194880, p194881, he194874, bp194875, bp194876, bp194879, bp194880, bp194881, r194882, r194883, r194884, r194885, r194886⟩ := show rk_1 γ q194025 (F194831 q194025) from RS_o hT194832 ht194030
                have bp194877 := gB_any p194877
                have bp194878 := gB_any p194878
                have fq194887 : fI (F194831 q194025) 0 = p194875 := by rw [he194874]; rfl
                have fq194888 : fI (F194831 q194025) 5 = p194880 := by rw [he194874]; rfl
                refine Gw_callV (As := []) (gV_ok D I) (cp_1675_Row_usesA l hl0 D I P171250 F194831 q194025 p194875 p194876 p194877 p194878 p194879 p194880 p194881 hm194873 he194874 bp194875 bp194876 bp194879 bp194880 bp194881) dr_cX17_rename_71 ⟨wr_10_192, wr_1_39, wr_10_195, by decide, rfl, (Nat.le_of_ble_eq_true rfl), (Nat.le_of_ble_eq_true rfl)⟩ wr_10_193 wr_10_194 hm194873 he194874 rfl (show 0 + 0 ≤ 0 by first | omega | decide) (show 0 + 0 ≤ 0 by first | omega | decide) (Nat.le_of_ble_eq_true rfl) (fun r194892 w194893 dc194889 ds194890 hp194891 => ?_) (fun _ _ _ _ _ z => z.elim)
                obtain ⟨o194894, rfl, rfl, hdc, hds, bo194894, x194895, ht194896⟩ := hp194891
                change G _ _ _ _ _ _ _ (.int o194894 :: _) _ _ _
                refine G_widen (cs' := 0) (sl' := 0) (by omega) (by omega) ?_
                refine G_if_eq 92 dr_cX17_rename_74 (by decide +kernel) (fun hc194897 => ?_) (fun hc194897 => ?_)
                · have r194898 : o194894.toInt = 0 := gj_eq hc194897 (show Int32.toInt 0 = 0 by decide)
                  have bo194894' : gB o194894 0 0 := ⟨by omega, by omega⟩
                  refine G_aload 0 dr_cX17_rename_92 rfl ?_
                  have fq194899 : fI (F194831 q194025) 6 = p194881 := by rw [he194874]; rfl
                  refine Gw_callV (As := []) (gV_ok D I) (cp_1699_Row_usesB l hl0 D I P171250 F194831 q194025 p194875 p194876 p194877 p194878 p194879 p194880 p194881 hm194873 he194874 bp194875 bp194876 bp194879 bp194880 bp194881) dr_cX17_rename_94 ⟨wr_10_196, wr_1_39, wr_10_199, by decide, rfl, (Nat.le_of_ble_eq_true rfl), (Nat.le_of_ble_eq_true rfl)⟩ wr_10_197 wr_10_198 hm194873 he194874 rfl (show 0 + 0 ≤ 0 by first | omega | decide) (show 0 + 0 ≤ 0 by first | omega | decide) (Nat.le_of_ble_eq_true rfl) (fun r194903 w194904 dc194900 ds194901 hp194902 => ?_) (fun _ _ _ _ _ z => z.elim)
                  obtain ⟨o194905, rfl, rfl, hdc, hds, bo194905, x194906, ht194907⟩ := hp194902
                  change G _ _ _ _ _ _ _ (.int o194905 :: _) _ _ _
                  refine G_widen (cs' := 0) (sl' := 0) (by omega) (by omega) ?_
                  refine G_if_eq 115 dr_cX17_rename_97 (by decide +kernel) (fun hc194908 => ?_) (fun hc194908 => ?_)
                  · have r194909 : o194905.toInt = 0 := gj_eq hc194908 (show Int32.toInt 0 = 0 by decide)
                    have bo194905' : gB o194905 0 0 := ⟨by omega, by omega⟩
                    refine G_aload 0 dr_cX17_rename_115 rfl ?_
                    refine Gw_callV (As := []) (gV_ok D I) (cp_1660_Row_sets l hl0 D I P171250 F194831 q194025 p194875 p194876 p194877 p194878 p194879 p194880 p194881 hm194873 he194874 bp194875 bp194876 bp194879 bp194880 bp194881) dr_cX17_rename_117 ⟨wr_10_181, wr_1_39, wr_10_184, by decide, rfl, (Nat.le_of_ble_eq_true rfl), (Nat.le_of_ble_eq_true rfl)⟩ wr_10_182 wr_10_183 hm194873 he194874 rfl (show 0 + 0 ≤ 0 by first | omega | decide) (show 0 + 0 ≤ 0 by first | omega | decide) (Nat.le_of_ble_eq_true rfl) (fun r194913 w194914 dc194910 ds194911 hp194912 => ?_) (fun _ _ _ _ _ z => z.elim)
                    obtain ⟨o194915, rfl, rfl, hdc, hds, bo194915, ht194916⟩ := hp194912
                    change G _ _ _ _ _ _ _ (.int o194915 :: _) _ _ _
                    refine G_widen (cs' := 0) (sl' := 0) (by omega) (by omega) ?_
                    refine G_if_eq 138 dr_cX17_rename_120 (by decide +kernel) (fun hc194917 => ?_) (fun hc194917 => ?_)
                    · have r194918 : o194915.toInt = 0 := gj_eq hc194917 (show Int32.toInt 0 = 0 by decide)
                      have bo194915' : gB o194915 0 0 := ⟨by omega, by omega⟩
                      obtain ⟨z194919, hz194919⟩ : ∃ z : Int32, z = g194830 + Int32.ofInt 1 := ⟨_, rfl⟩
                      have ez194919 : z194919.toInt = g194830.toInt + 1 := gI_inc hz194919 (by decide) bg194830' (by decide) (by decide)
                      have bz194919 : gB z194919 1 1000001 := ⟨by omega, by omega⟩
                      refine G_iinc (L' := [(5, .int z194919), (6, .ref q194025), (4, .ref q194014), (3, .int g193954), (0, .ref q171252), (1, .int p171253), (2, .int p171254)]) z194919 1 dr_cX17_rename_138 rfl hz194919.symm (Nat.le_of_ble_eq_true rfl) rfl ?_
                      refine G_goto 20 dr_cX17_rename_141 (by decide +kernel) ?_
                      refine G_lv (L' := [(5, .int z194919), (4, .ref q194014), (3, .int g193954), (0, .ref q171252), (1, .int p171253), (2, .int p171254)]) [0, 2, 3, 4, 5, 6] rfl ?_
                      exact ih20_194833 F194831 z194919 (gB_w bz194919 (by decide) (by decide)) hT194832 hs194833 (fun k e1 ht => kt20_194834 k e1 (fun R c1 c2 c3 c4 c5 c6 c7 c8 c9 c10 c11 c12 c13 c14 c15 c16 c17 c18 c19 c20 c21 c22 c23 c24 c25 c26 c27 c28 c29 c30 c31 c32 c33 c34 c35 c36 c37 c38 c39 c40 c41 c42 c43 c44 c45 c46 c47 c48 c49 c50 c51 c52 c53 c54 c55 => c2 F194831 g194830 q194024 p194845 q194025 p194875 p194880 o194894 p194881 o194905 o194915 z194919 k e1 bg194830 hT194832 hs194833 fq194841 fq194852 fq194853 r194863 fq194864 r194871 fq194872 fq194887 fq194888 bo194894 ht194896 r194898 fq194899 bo194905 ht194907 r194909 bo194915 ht194916 r194918 ez194919 (ht R c1 c2 c3 c4 c5 c6 c7 c8 c9 c10 c11 c12 c13 c14 c15 c16 c17 c18 c19 c20 c21 c22 c23 c24 c25 c26 c27 c28 c29 c30 c31 c32 c33 c34 c35 c36 c37 c38 c39 c40 c41 c42 c43 c44 c45 c46 c47 c48 c49 c50 c51 c52 c53 c54 c55))) (by omega)
                    · have r194920 : o194915.toInt ≠ 0 := gj_neq hc194917 (show Int32.toInt 0 = 0 by decide)
                      have bo194915' : gB o194915 1 1 := ⟨by omega, by omega⟩
                      refine G_aload 0 dr_cX17_rename_123 rfl ?_
                      have fq194921 : fI (F194831 q194025) 1 = p194876 := by rw [he194874]; rfl
                      refine Gp_get 1 hm194873 he194874 dr_cX17_rename_125 (gk_X15 D I) (Nat.le_of_ble_eq_true rfl) wr_9_182 rfl ?_
                      refine G_iload_n 5 dr_cX17_rename_128 rfl ?_
                      refine G_icmp_ne 138 dr_cX17_rename_129 (by decide +kernel) (fun hc194922 => ?_) (fun hc194922 => ?_)
                      · have r194923 : p194876.toInt ≠ p171253.toInt := gC_ne hc194922
                        obtain ⟨z194924, hz194924⟩ : ∃ z : Int32, z = g194830 + Int32.ofInt 1 := ⟨_, rfl⟩
                        have ez194924 : z194924.toInt = g194830.toInt + 1 := gI_inc hz194924 (by decide) bg194830' (by decide) (by decide)
                        have bz194924 : gB z194924 1 1000001 := ⟨by omega, by omega⟩
                        refine G_iinc (L' := [(5, .int z194924), (6, .ref q194025), (4, .ref q194014), (3, .int g193954), (0, .ref q171252), (1, .int p171253), (2, .int p171254)]) z194924 1 dr_cX17_rename_138 rfl hz194924.symm (Nat.le_of_ble_eq_true rfl) rfl ?_
                        refine G_goto 20 dr_cX17_rename_141 (by decide +kernel) ?_
                        refine G_lv (L' := [(5, .int z194924), (4, .ref q194014), (3, .int g193954), (0, .ref q171252), (1, .int p171253), (2, .int p171254)]) [0, 2, 3, 4, 5, 6] rfl ?_
                        exact ih20_194833 F194831 z194924 (gB_w bz194924 (by decide) (by decide)) hT194832 hs194833 (fun k e1 ht => kt20_194834 k e1 (fun R c1 c2 c3 c4 c5 c6 c7 c8 c9 c10 c11 c12 c13 c14 c15 c16 c17 c18 c19 c20 c21 c22 c23 c24 c25 c26 c27 c28 c29 c30 c31 c32 c33 c34 c35 c36 c37 c38 c39 c40 c41 c42 c43 c44 c45 c46 c47 c48 c49 c50 c51 c52 c53 c54 c55 => c3 F194831 g194830 q194024 p194845 q194025 p194875 p194880 o194894 p194881 o194905 o194915 p194876 z194924 k e1 bg194830 hT194832 hs194833 fq194841 fq194852 fq194853 r194863 fq194864 r194871 fq194872 fq194887 fq194888 bo194894 ht194896 r194898 fq194899 bo194905 ht194907 r194909 bo194915 ht194916 r194920 fq194921 r194923 ez194924 (ht R c1 c2 c3 c4 c5 c6 c7 c8 c9 c10 c11 c12 c13 c14 c15 c16 c17 c18 c19 c20 c21 c22 c23 c24 c25 c26 c27 c28 c29 c30 c31 c32 c33 c34 c35 c36 c37 c38 c39 c40 c41 c42 c43 c44 c45 c46 c47 c48 c49 c50 c51 c52 c53 c54 c55))) (by omega)
                      · have r194925 : p194876.toInt = p171253.toInt := gC_eq hc194922
                        refine G_aload 0 dr_cX17_rename_132 rfl ?_
                        refine G_iload_n 6 dr_cX17_rename_134 rfl ?_
                        refine Gp_put 1 hm194873 he194874 dr_cX17_rename_135 (gk_X15 D I) (Nat.le_of_ble_eq_true rfl) wr_9_182 rfl rfl rfl (Nat.le_of_ble_eq_true rfl) (fun F194926 e194927 n194928 => ?_)
                        have he194929 : F194926 q171252 = .inr (18, [.ref q193963, .ref q193964, .int p193965, .int p193966]) := (n194928 q171252 (rn_oo he194836 he194874 (by decide))).trans he194836
                        have he194930 : F194926 q193963 = .inr (4, [.int p193995, .ref q193997, .int p193996]) := (n194928 q193963 (rn_oo he194837 he194874 (by decide))).trans he194837
                        have he194931 : F194926 q193997 = .inl (I (.object "java/lang/Object"), n194011, .inr (.inr (.inr (.inr f194012)))) := (n194928 q193997 (rn_ao he194838 he194874)).trans he194838
                        have he194932 : F194926 q194014 = .inr (17, [.ref q194024, .ref q194025, .int p194026, .int p194027]) := (n194928 q194014 (rn_oo he194839 he194874 (by decide))).trans he194839
                        have he194933 : F194926 q194024 = .inr (4, [.int p194844, .ref q194846, .int p194845]) := (n194928 q194024 (rn_oo he194843 he194874 (by decide))).trans he194843
                        have he194934 : F194926 q194025 = .inr (20, [.int p194875, .int p171254, .int p194877, .int p194878, .int p194879, .int p194880, .int p194881]) := e194927
                        have hs194935 : rStr γ [1] F171251 F194926 := rStr_pu2 hs194833 n194928 ht194030 (by decide)
                        have fq194936 : F194926 q194025 = cF (F194831 q194025) 1 (.int p171254) := by rw [he194934, he194874]; rfl
                        obtain ⟨z194937, hz194937⟩ : ∃ z : Int32, z = g194830 + Int32.ofInt 1 := ⟨_, rfl⟩
                        have ez194937 : z194937.toInt = g194830.toInt + 1 := gI_inc hz194937 (by decide) bg194830' (by decide) (by decide)
                        have bz194937 : gB z194937 1 1000001 := ⟨by omega, by omega⟩
                        refine G_iinc (L' := [(5, .int z194937), (6, .ref q194025), (4, .ref q194014), (3, .int g193954), (0, .ref q171252), (1, .int p171253), (2, .int p171254)]) z194937 1 dr_cX17_rename_138 rfl hz194937.symm (Nat.le_of_ble_eq_true rfl) rfl ?_
                        refine G_goto 20 dr_cX17_rename_141 (by decide +kernel) ?_
                        have hT194938 : RS D I P171250 F194926 γ el := RS_set hT194832 n194928 ht194030 (by decide) ⟨p194875, p171254, p194877, p194878, p194879, p194880, p194881, he194934, bp194875, bp171254, bp194879, bp194880, bp194881, (by omega), (by omega), (by omega), (by omega), (by omega)⟩
                        refine G_lv (L' := [(5, .int z194937), (4, .ref q194014), (3, .int g193954), (0, .ref q171252), (1, .int p171253), (2, .int p171254)]) [0, 2, 3, 4, 5, 6] rfl ?_
                        exact ih20_194833 F194926 z194937 (gB_w bz194937 (by decide) (by decide)) hT194938 hs194935 (fun k e1 ht => kt20_194834 k e1 (fun R c1 c2 c3 c4 c5 c6 c7 c8 c9 c10 c11 c12 c13 c14 c15 c16 c17 c18 c19 c20 c21 c22 c23 c24 c25 c26 c27 c28 c29 c30 c31 c32 c33 c34 c35 c36 c37 c38 c39 c40 c41 c42 c43 c44 c45 c46 c47 c48 c49 c50 c51 c52 c53 c54 c55 => c4 F194831 g194830 q194024 p194845 q194025 p194875 p194880 o194894 p194881 o194905 o194915 p194876 F194926 z194937 k e1 bg194830 hT194832 hs194833 fq194841 fq194852 fq194853 r194863 fq194864 r194871 fq194872 fq194887 fq194888 bo194894 ht194896 r194898 fq194899 bo194905 ht194907 r194909 bo194915 ht194916 r194920 fq194921 r194925 n194928 fq194936 ez194937 (ht R c1 c2 c3 c4 c5 c6 c7 c8 c9 c10 c11 c12 c13 c14 c15 c16 c17 c18 c19 c20 c21 c22 c23 c24 c25 c26 c27 c28 c29 c30 c31 c32 c33 c34 c35 c36 c37 c38 c39 c40 c41 c42 c43 c44 c45 c46 c47 c48 c49 c50 c51 c52 c53 c54 c55))) (by omega)
                  · have r194939 : o194905.toInt ≠ 0 := gj_neq hc194908 (show Int32.toInt 0 = 0 by decide)
                    have bo194905' : gB o194905 1 1 := ⟨by omega, by omega⟩
                    refine G_aload 0 dr_cX17_rename_100 rfl ?_
                    have fq194940 : fI (F194831 q194025) 3 = p194878 := by rw [he194874]; rfl
                    refine Gp_get 3 hm194873 he194874 dr_cX17_rename_102 (gk_X15 D I) (Nat.le_of_ble_eq_true rfl) wr_9_190 rfl ?_
                    refine G_iload_n 5 dr_cX17_rename_105 rfl ?_
                    refine G_icmp_ne 115 dr_cX17_rename_106 (by decide +kernel) (fun hc194941 => ?_) (fun hc194941 => ?_)
                    · have r194942 : p194878.toInt ≠ p171253.toInt := gC_ne hc194941
                      refine G_aload 0 dr_cX17_rename_115 rfl ?_
                      refine Gw_callV (As := []) (gV_ok D I) (cp_1660_Row_sets l hl0 D I P171250 F194831 q194025 p194875 p194876 p194877 p194878 p194879 p194880 p194881 hm194873 he194874 bp194875 bp194876 bp194879 bp194880 bp194881) dr_cX17_rename_117 ⟨wr_10_181, wr_1_39, wr_10_184, by decide, rfl, (Nat.le_of_ble_eq_true rfl), (Nat.le_of_ble_eq_true rfl)⟩ wr_10_182 wr_10_183 hm194873 he194874 rfl (show 0 + 0 ≤ 0 by first | omega | decide) (show 0 + 0 ≤ 0 by first | omega | decide) (Nat.le_of_ble_eq_true rfl) (fun r194946 w194947 dc194943 ds194944 hp194945 => ?_) (fun _ _ _ _ _ z => z.elim)
                      obtain ⟨o194948, rfl, rfl, hdc, hds, bo194948, ht194949⟩ := hp194945
                      change G _ _ _ _ _ _ _ (.int o194948 :: _) _ _ _
                      refine G_widen (cs' := 0) (sl' := 0) (by omega) (by omega) ?_
                      refine G_if_eq 138 dr_cX17_rename_120 (by decide +kernel) (fun hc194950 => ?_) (fun hc194950 => ?_)
                      · have r194951 : o194948.toInt = 0 := gj_eq hc194950 (show Int32.toInt 0 = 0 by decide)
                        have bo194948' : gB o194948 0 0 := ⟨by omega, by omega⟩
                        obtain ⟨z194952, hz194952⟩ : ∃ z : Int32, z = g194830 + Int32.ofInt 1 := ⟨_, rfl⟩
                        have ez194952 : z194952.toInt = g194830.toInt + 1 := gI_inc hz194952 (by decide) bg194830' (by decide) (by decide)
                        have bz194952 : gB z194952 1 1000001 := ⟨by omega, by omega⟩
                        refine G_iinc (L' := [(5, .int z194952), (6, .ref q194025), (4, .ref q194014), (3, .int g193954), (0, .ref q171252), (1, .int p171253), (2, .int p171254)]) z194952 1 dr_cX17_rename_138 rfl hz194952.symm (Nat.le_of_ble_eq_true rfl) rfl ?_
                        refine G_goto 20 dr_cX17_rename_141 (by decide +kernel) ?_
                        refine G_lv (L' := [(5, .int z194952), (4, .ref q194014), (3, .int g193954), (0, .ref q171252), (1, .int p171253), (2, .int p171254)]) [0, 2, 3, 4, 5, 6] rfl ?_
                        exact ih20_194833 F194831 z194952 (gB_w bz194952 (by decide) (by decide)) hT194832 hs194833 (fun k e1 ht => kt20_194834 k e1 (fun R c1 c2 c3 c4 c5 c6 c7 c8 c9 c10 c11 c12 c13 c14 c15 c16 c17 c18 c19 c20 c21 c22 c23 c24 c25 c26 c27 c28 c29 c30 c31 c32 c33 c34 c35 c36 c37 c38 c39 c40 c41 c42 c43 c44 c45 c46 c47 c48 c49 c50 c51 c52 c53 c54 c55 => c5 F194831 g194830 q194024 p194845 q194025 p194875 p194880 o194894 p194881 o194905 p194878 o194948 z194952 k e1 bg194830 hT194832 hs194833 fq194841 fq194852 fq194853 r194863 fq194864 r194871 fq194872 fq194887 fq194888 bo194894 ht194896 r194898 fq194899 bo194905 ht194907 r194939 fq194940 r194942 bo194948 ht194949 r194951 ez194952 (ht R c1 c2 c3 c4 c5 c6 c7 c8 c9 c10 c11 c12 c13 c14 c15 c16 c17 c18 c19 c20 c21 c22 c23 c24 c25 c26 c27 c28 c29 c30 c31 c32 c33 c34 c35 c36 c37 c38 c39 c40 c41 c42 c43 c44 c45 c46 c47 c48 c49 c50 c51 c52 c53 c54 c55))) (by omega)
                      · have r194953 : o194948.toInt ≠ 0 := gj_neq hc194950 (show Int32.toInt 0 = 0 by decide)
                        have bo194948' : gB o194948 1 1 := ⟨by omega, by omega⟩
                        refine G_aload 0 dr_cX17_rename_123 rfl ?_
                        have fq194954 : fI (F194831 q194025) 1 = p194876 := by rw [he194874]; rfl
                        refine Gp_get 1 hm194873 he194874 dr_cX17_rename_125 (gk_X15 D I) (Nat.le_of_ble_eq_true rfl) wr_9_182 rfl ?_
                        refine G_iload_n 5 dr_cX17_rename_128 rfl ?_
                        refine G_icmp_ne 138 dr_cX17_rename_129 (by decide +kernel) (fun hc194955 => ?_) (fun hc194955 => ?_)
                        · have r194956 : p194876.toInt ≠ p171253.toInt := gC_ne hc194955
                          obtain ⟨z194957, hz194957⟩ : ∃ z : Int32, z = g194830 + Int32.ofInt 1 := ⟨_, rfl⟩
                          have ez194957 : z194957.toInt = g194830.toInt + 1 := gI_inc hz194957 (by decide) bg194830' (by decide) (by decide)
                          have bz194957 : gB z194957 1 1000001 := ⟨by omega, by omega⟩
                          refine G_iinc (L' := [(5, .int z194957), (6, .ref q194025), (4, .ref q194014), (3, .int g193954), (0, .ref q171252), (1, .int p171253), (2, .int p171254)]) z194957 1 dr_cX17_rename_138 rfl hz194957.symm (Nat.le_of_ble_eq_true rfl) rfl ?_
                          refine G_goto 20 dr_cX17_rename_141 (by decide +kernel) ?_
                          refine G_lv (L' := [(5, .int z194957), (4, .ref q194014), (3, .int g193954), (0, .ref q171252), (1, .int p171253), (2, .int p171254)]) [0, 2, 3, 4, 5, 6] rfl ?_
                          exact ih20_194833 F194831 z194957 (gB_w bz194957 (by decide) (by decide)) hT194832 hs194833 (fun k e1 ht => kt20_194834 k e1 (fun R c1 c2 c3 c4 c5 c6 c7 c8 c9 c10 c11 c12 c13 c14 c15 c16 c17 c18 c19 c20 c21 c22 c23 c24 c25 c26 c27 c28 c29 c30 c31 c32 c33 c34 c35 c36 c37 c38 c39 c40 c41 c42 c43 c44 c45 c46 c47 c48 c49 c50 c51 c52 c53 c54 c55 => c6 F194831 g194830 q194024 p194845 q194025 p194875 p194880 o194894 p194881 o194905 p194878 o194948 p194876 z194957 k e1 bg194830 hT194832 hs194833 fq194841 fq194852 fq194853 r194863 fq194864 r194871 fq194872 fq194887 fq194888 bo194894 ht194896 r194898 fq194899 bo194905 ht194907 r194939 fq194940 r194942 bo194948 ht194949 r194953 fq194954 r194956 ez194957 (ht R c1 c2 c3 c4 c5 c6 c7 c8 c9 c10 c11 c12 c13 c14 c15 c16 c17 c18 c19 c20 c21 c22 c23 c24 c25 c26 c27 c28 c29 c30 c31 c32 c33 c34 c35 c36 c37 c38 c39 c40 c41 c42 c43 c44 c45 c46 c47 c48 c49 c50 c51 c52 c53 c54 c55))) (by omega)
                        · have r194958 : p194876.toInt = p171253.toInt := gC_eq hc194955
                          refine G_aload 0 dr_cX17_rename_132 rfl ?_
                          refine G_iload_n 6 dr_cX17_rename_134 rfl ?_
                          refine Gp_put 1 hm194873 he194874 dr_cX17_rename_135 (gk_X15 D I) (Nat.le_of_ble_eq_true rfl) wr_9_182 rfl rfl rfl (Nat.le_of_ble_eq_true rfl) (fun F194959 e194960 n194961 => ?_)
                          have he194962 : F194959 q171252 = .inr (18, [.ref q193963, .ref q193964, .int p193965, .int p193966]) := (n194961 q171252 (rn_oo he194836 he194874 (by decide))).trans he194836
                          have he194963 : F194959 q193963 = .inr (4, [.int p193995, .ref q193997, .int p193996]) := (n194961 q193963 (rn_oo he194837 he194874 (by decide))).trans he194837
                          have he194964 : F194959 q193997 = .inl (I (.object "java/lang/Object"), n194011, .inr (.inr (.inr (.inr f194012)))) := (n194961 q193997 (rn_ao he194838 he194874)).trans he194838
                          have he194965 : F194959 q194014 = .inr (17, [.ref q194024, .ref q194025, .int p194026, .int p194027]) := (n194961 q194014 (rn_oo he194839 he194874 (by decide))).trans he194839
                          have he194966 : F194959 q194024 = .inr (4, [.int p194844, .ref q194846, .int p194845]) := (n194961 q194024 (rn_oo he194843 he194874 (by decide))).trans he194843
                          have he194967 : F194959 q194025 = .inr (20, [.int p194875, .int p171254, .int p194877, .int p194878, .int p194879, .int p194880, .int p194881]) := e194960
                          have hs194968 : rStr γ [1] F171251 F194959 := rStr_pu2 hs194833 n194961 ht194030 (by decide)
                          have fq194969 : F194959 q194025 = cF (F194831 q194025) 1 (.int p171254) := by rw [he194967, he194874]; rfl
                          obtain ⟨z194970, hz194970⟩ : ∃ z : Int32, z = g194830 + Int32.ofInt 1 := ⟨_, rfl⟩
                          have ez194970 : z194970.toInt = g194830.toInt + 1 := gI_inc hz194970 (by decide) bg194830' (by decide) (by decide)
                          have bz194970 : gB z194970 1 1000001 := ⟨by omega, by omega⟩
                          refine G_iinc (L' := [(5, .int z194970), (6, .ref q194025), (4, .ref q194014), (3, .int g193954), (0, .ref q171252), (1, .int p171253), (2, .int p171254)]) z194970 1 dr_cX17_rename_138 rfl hz194970.symm (Nat.le_of_ble_eq_true rfl) rfl ?_
                          refine G_goto 20 dr_cX17_rename_141 (by decide +kernel) ?_
                          have hT194971 : RS D I P171250 F194959 γ el := RS_set hT194832 n194961 ht194030 (by decide) ⟨p194875, p171254, p194877, p194878, p194879, p194880, p194881, he194967, bp194875, bp171254, bp194879, bp194880, bp194881, (by omega), (by omega), (by omega), (by omega), (by omega)⟩
                          refine G_lv (L' := [(5, .int z194970), (4, .ref q194014), (3, .int g193954), (0, .ref q171252), (1, .int p171253), (2, .int p171254)]) [0, 2, 3, 4, 5, 6] rfl ?_
                          exact ih20_194833 F194959 z194970 (gB_w bz194970 (by decide) (by decide)) hT194971 hs194968 (fun k e1 ht => kt20_194834 k e1 (fun R c1 c2 c3 c4 c5 c6 c7 c8 c9 c10 c11 c12 c13 c14 c15 c16 c17 c18 c19 c20 c21 c22 c23 c24 c25 c26 c27 c28 c29 c30 c31 c32 c33 c34 c35 c36 c37 c38 c39 c40 c41 c42 c43 c44 c45 c46 c47 c48 c49 c50 c51 c52 c53 c54 c55 => c7 F194831 g194830 q194024 p194845 q194025 p194875 p194880 o194894 p194881 o194905 p194878 o194948 p194876 F194959 z194970 k e1 bg194830 hT194832 hs194833 fq194841 fq194852 fq194853 r194863 fq194864 r194871 fq194872 fq194887 fq194888 bo194894 ht194896 r194898 fq194899 bo194905 ht194907 r194939 fq194940 r194942 bo194948 ht194949 r194953 fq194954 r194958 n194961 fq194969 ez194970 (ht R c1 c2 c3 c4 c5 c6 c7 c8 c9 c10 c11 c12 c13 c14 c15 c16 c17 c18 c19 c20 c21 c22 c23 c24 c25 c26 c27 c28 c29 c30 c31 c32 c33 c34 c35 c36 c37 c38 c39 c40 c41 c42 c43 c44 c45 c46 c47 c48 c49 c50 c51 c52 c53 c54 c55))) (by omega)
                    · have r194972 : p194878.toInt = p171253.toInt := gC_eq hc194941
                      have bp194878' : gB p194878 0 1999 := ⟨by omega, by omega⟩
                      refine G_aload 0 dr_cX17_rename_109 rfl ?_
                      refine G_iload_n 6 dr_cX17_rename_111 rfl ?_
                      refine Gp_put 3 hm194873 he194874 dr_cX17_rename_112 (gk_X15 D I) (Nat.le_of_ble_eq_true rfl) wr_9_190 rfl rfl rfl (Nat.le_of_ble_eq_true rfl) (fun F194973 e194974 n194975 => ?_)
                      have he194976 : F194973 q171252 = .inr (18, [.ref q193963, .ref q193964, .int p193965, .int p193966]) := (n194975 q171252 (rn_oo he194836 he194874 (by decide))).trans he194836
                      have he194977 : F194973 q193963 = .inr (4, [.int p193995, .ref q193997, .int p193996]) := (n194975 q193963 (rn_oo he194837 he194874 (by decide))).trans he194837
                      have he194978 : F194973 q193997 = .inl (I (.object "java/lang/Object"), n194011, .inr (.inr (.inr (.inr f194012)))) := (n194975 q193997 (rn_ao he194838 he194874)).trans he194838
                      have he194979 : F194973 q194014 = .inr (17, [.ref q194024, .ref q194025, .int p194026, .int p194027]) := (n194975 q194014 (rn_oo he194839 he194874 (by decide))).trans he194839
                      have he194980 : F194973 q194024 = .inr (4, [.int p194844, .ref q194846, .int p194845]) := (n194975 q194024 (rn_oo he194843 he194874 (by decide))).trans he194843
                      have he194981 : F194973 q194025 = .inr (20, [.int p194875, .int p194876, .int p194877, .int p171254, .int p194879, .int p194880, .int p194881]) := e194974
                      have hs194982 : rStr γ [1] F171251 F194973 := rStr_pu2 hs194833 n194975 ht194030 (by decide)
                      have fq194983 : F194973 q194025 = cF (F194831 q194025) 3 (.int p171254) := by rw [he194981, he194874]; rfl
                      refine G_aload 0 dr_cX17_rename_115 rfl ?_
                      have hT194984 : RS D I P171250 F194973 γ el := RS_set hT194832 n194975 ht194030 (by decide) ⟨p194875, p194876, p194877, p171254, p194879, p194880, p194881, he194981, bp194875, bp194876, bp194879, bp194880, bp194881, (by omega), (by omega), (by omega), (by omega), (by omega)⟩
                      have fq194985 : fI (F194973 q194025) 0 = p194875 := by rw [he194981]; rfl
                      refine Gw_callV (As := []) (gV_ok D I) (cp_1660_Row_sets l hl0 D I P171250 F194973 q194025 p194875 p194876 p194877 p171254 p194879 p194880 p194881 hm194873 he194981 bp194875 bp194876 bp194879 bp194880 bp194881) dr_cX17_rename_117 ⟨wr_10_181, wr_1_39, wr_10_184, by decide, rfl, (Nat.le_of_ble_eq_true rfl), (Nat.le_of_ble_eq_true rfl)⟩ wr_10_182 wr_10_183 hm194873 he194981 rfl (show 0 + 0 ≤ 0 by first | omega | decide) (show 0 + 0 ≤ 0 by first | omega | decide) (Nat.le_of_ble_eq_true rfl) (fun r194989 w194990 dc194986 ds194987 hp194988 => ?_) (fun _ _ _ _ _ z => z.elim)
                      obtain ⟨o194991, rfl, rfl, hdc, hds, bo194991, ht194992⟩ := hp194988
                      change G _ _ _ _ _ _ _ (.int o194991 :: _) _ _ _
                      refine G_widen (cs' := 0) (sl' := 0) (by omega) (by omega) ?_
                      refine G_if_eq 138 dr_cX17_rename_120 (by decide +kernel) (fun hc194993 => ?_) (fun hc194993 => ?_)
                      · have r194994 : o194991.toInt = 0 := gj_eq hc194993 (show Int32.toInt 0 = 0 by decide)
                        have bo194991' : gB o194991 0 0 := ⟨by omega, by omega⟩
                        obtain ⟨z194995, hz194995⟩ : ∃ z : Int32, z = g194830 + Int32.ofInt 1 := ⟨_, rfl⟩
                        have ez194995 : z194995.toInt = g194830.toInt + 1 := gI_inc hz194995 (by decide) bg194830' (by decide) (by decide)
                        have bz194995 : gB z194995 1 1000001 := ⟨by omega, by omega⟩
                        refine G_iinc (L' := [(5, .int z194995), (6, .ref q194025), (4, .ref q194014), (3, .int g193954), (0, .ref q171252), (1, .int p171253), (2, .int p171254)]) z194995 1 dr_cX17_rename_138 rfl hz194995.symm (Nat.le_of_ble_eq_true rfl) rfl ?_
                        refine G_goto 20 dr_cX17_rename_141 (by decide +kernel) ?_
                        refine G_lv (L' := [(5, .int z194995), (4, .ref q194014), (3, .int g193954), (0, .ref q171252), (1, .int p171253), (2, .int p171254)]) [0, 2, 3, 4, 5, 6] rfl ?_
                        exact ih20_194833 F194973 z194995 (gB_w bz194995 (by decide) (by decide)) hT194984 hs194982 (fun k e1 ht => kt20_194834 k e1 (fun R c1 c2 c3 c4 c5 c6 c7 c8 c9 c10 c11 c12 c13 c14 c15 c16 c17 c18 c19 c20 c21 c22 c23 c24 c25 c26 c27 c28 c29 c30 c31 c32 c33 c34 c35 c36 c37 c38 c39 c40 c41 c42 c43 c44 c45 c46 c47 c48 c49 c50 c51 c52 c53 c54 c55 => c8 F194831 g194830 q194024 p194845 q194025 p194875 p194880 o194894 p194881 o194905 p194878 F194973 o194991 z194995 k e1 bg194830 hT194832 hs194833 fq194841 fq194852 fq194853 r194863 fq194864 r194871 fq194872 fq194887 fq194888 bo194894 ht194896 r194898 fq194899 bo194905 ht194907 r194939 fq194940 r194972 n194975 fq194983 fq194985 bo194991 ht194992 r194994 ez194995 (ht R c1 c2 c3 c4 c5 c6 c7 c8 c9 c10 c11 c12 c13 c14 c15 c16 c17 c18 c19 c20 c21 c22 c23 c24 c25 c26 c27 c28 c29 c30 c31 c32 c33 c34 c35 c36 c37 c38 c39 c40 c41 c42 c43 c44 c45 c46 c47 c48 c49 c50 c51 c52 c53 c54 c55))) (by omega)
                      · have r194996 : o194991.toInt ≠ 0 := gj_neq hc194993 (show Int32.toInt 0 = 0 by decide)
                        have bo194991' : gB o194991 1 1 := ⟨by omega, by omega⟩
                        refine G_aload 0 dr_cX17_rename_123 rfl ?_
                        have fq194997 : fI (F194973 q194025) 1 = p194876 := by rw [he194981]; rfl
                        refine Gp_get 1 hm194873 he194981 dr_cX17_rename_125 (gk_X15 D I) (Nat.le_of_ble_eq_true rfl) wr_9_182 rfl ?_
                        refine G_iload_n 5 dr_cX17_rename_128 rfl ?_
                        refine G_icmp_ne 138 dr_cX17_rename_129 (by decide +kernel) (fun hc194998 => ?_) (fun hc194998 => ?_)
                        · have r194999 : p194876.toInt ≠ p171253.toInt := gC_ne hc194998
                          obtain ⟨z195000, hz195000⟩ : ∃ z : Int32, z = g194830 + Int32.ofInt 1 := ⟨_, rfl⟩
                          have ez195000 : z195000.toInt = g194830.toInt + 1 := gI_inc hz195000 (by decide) bg194830' (by decide) (by decide)
                          have bz195000 : gB z195000 1 1000001 := ⟨by omega, by omega⟩
                          refine G_iinc (L' := [(5, .int z195000), (6, .ref q194025), (4, .ref q194014), (3, .int g193954), (0, .ref q171252), (1, .int p171253), (2, .int p171254)]) z195000 1 dr_cX17_rename_138 rfl hz195000.symm (Nat.le_of_ble_eq_true rfl) rfl ?_
                          refine G_goto 20 dr_cX17_rename_141 (by decide +kernel) ?_
                          refine G_lv (L' := [(5, .int z195000), (4, .ref q194014), (3, .int g193954), (0, .ref q171252), (1, .int p171253), (2, .int p171254)]) [0, 2, 3, 4, 5, 6] rfl ?_
                          exact ih20_194833 F194973 z195000 (gB_w bz195000 (by decide) (by decide)) hT194984 hs194982 (fun k e1 ht => kt20_194834 k e1 (fun R c1 c2 c3 c4 c5 c6 c7 c8 c9 c10 c11 c12 c13 c14 c15 c16 c17 c18 c19 c20 c21 c22 c23 c24 c25 c26 c27 c28 c29 c30 c31 c32 c33 c34 c35 c36 c37 c38 c39 c40 c41 c42 c43 c44 c45 c46 c47 c48 c49 c50 c51 c52 c53 c54 c55 => c9 F194831 g194830 q194024 p194845 q194025 p194875 p194880 o194894 p194881 o194905 p194878 F194973 o194991 p194876 z195000 k e1 bg194830 hT194832 hs194833 fq194841 fq194852 fq194853 r194863 fq194864 r194871 fq194872 fq194887 fq194888 bo194894 ht194896 r194898 fq194899 bo194905 ht194907 r194939 fq194940 r194972 n194975 fq194983 fq194985 bo194991 ht194992 r194996 fq194997 r194999 ez195000 (ht R c1 c2 c3 c4 c5 c6 c7 c8 c9 c10 c11 c12 c13 c14 c15 c16 c17 c18 c19 c20 c21 c22 c23 c24 c25 c26 c27 c28 c29 c30 c31 c32 c33 c34 c35 c36 c37 c38 c39 c40 c41 c42 c43 c44 c45 c46 c47 c48 c49 c50 c51 c52 c53 c54 c55))) (by omega)
                        · have r195001 : p194876.toInt = p171253.toInt := gC_eq hc194998
                          refine G_aload 0 dr_cX17_rename_132 rfl ?_
                          refine G_iload_n 6 dr_cX17_rename_134 rfl ?_
                          refine Gp_put 1 hm194873 he194981 dr_cX17_rename_135 (gk_X15 D I) (Nat.le_of_ble_eq_true rfl) wr_9_182 rfl rfl rfl (Nat.le_of_ble_eq_true rfl) (fun F195002 e195003 n195004 => ?_)
                          have he195005 : F195002 q171252 = .inr (18, [.ref q193963, .ref q193964, .int p193965, .int p193966]) := (n195004 q171252 (rn_oo he194976 he194981 (by decide))).trans he194976
                          have he195006 : F195002 q193963 = .inr (4, [.int p193995, .ref q193997, .int p193996]) := (n195004 q193963 (rn_oo he194977 he194981 (by decide))).trans he194977
                          have he195007 : F195002 q193997 = .inl (I (.object "java/lang/Object"), n194011, .inr (.inr (.inr (.inr f194012)))) := (n195004 q193997 (rn_ao he194978 he194981)).trans he194978
                          have he195008 : F195002 q194014 = .inr (17, [.ref q194024, .ref q194025, .int p194026, .int p194027]) := (n195004 q194014 (rn_oo he194979 he194981 (by decide))).trans he194979
                          have he195009 : F195002 q194024 = .inr (4, [.int p194844, .ref q194846, .int p194845]) := (n195004 q194024 (rn_oo he194980 he194981 (by decide))).trans he194980
                          have he195010 : F195002 q194025 = .inr (20, [.int p194875, .int p171254, .int p194877, .int p171254, .int p194879, .int p194880, .int p194881]) := e195003
                          have hs195011 : rStr γ [1] F171251 F195002 := rStr_pu2 hs194982 n195004 ht194030 (by decide)
                          have fq195012 : F195002 q194025 = cF (F194973 q194025) 1 (.int p171254) := by rw [he195010, he194981]; rfl
                          obtain ⟨z195013, hz195013⟩ : ∃ z : Int32, z = g194830 + Int32.ofInt 1 := ⟨_, rfl⟩
                          have ez195013 : z195013.toInt = g194830.toInt + 1 := gI_inc hz195013 (by decide) bg194830' (by decide) (by decide)
                          have bz195013 : gB z195013 1 1000001 := ⟨by omega, by omega⟩
                          refine G_iinc (L' := [(5, .int z195013), (6, .ref q194025), (4, .ref q194014), (3, .int g193954), (0, .ref q171252), (1, .int p171253), (2, .int p171254)]) z195013 1 dr_cX17_rename_138 rfl hz195013.symm (Nat.le_of_ble_eq_true rfl) rfl ?_
                          refine G_goto 20 dr_cX17_rename_141 (by decide +kernel) ?_
                          have hT195014 : RS D I P171250 F195002 γ el := RS_set hT194984 n195004 ht194030 (by decide) ⟨p194875, p171254, p194877, p171254, p194879, p194880, p194881, he195010, bp194875, bp171254, bp194879, bp194880, bp194881, (by omega), (by omega), (by omega), (by omega), (by omega)⟩
                          refine G_lv (L' := [(5, .int z195013), (4, .ref q194014), (3, .int g193954), (0, .ref q171252), (1, .int p171253), (2, .int p171254)]) [0, 2, 3, 4, 5, 6] rfl ?_
                          exact ih20_194833 F195002 z195013 (gB_w bz195013 (by decide) (by decide)) hT195014 hs195011 (fun k e1 ht => kt20_194834 k e1 (fun R c1 c2 c3 c4 c5 c6 c7 c8 c9 c10 c11 c12 c13 c14 c15 c16 c17 c18 c19 c20 c21 c22 c23 c24 c25 c26 c27 c28 c29 c30 c31 c32 c33 c34 c35 c36 c37 c38 c39 c40 c41 c42 c43 c44 c45 c46 c47 c48 c49 c50 c51 c52 c53 c54 c55 => c10 F194831 g194830 q194024 p194845 q194025 p194875 p194880 o194894 p194881 o194905 p194878 F194973 o194991 p194876 F195002 z195013 k e1 bg194830 hT194832 hs194833 fq194841 fq194852 fq194853 r194863 fq194864 r194871 fq194872 fq194887 fq194888 bo194894 ht194896 r194898 fq194899 bo194905 ht194907 r194939 fq194940 r194972 n194975 fq194983 fq194985 bo194991 ht194992 r194996 fq194997 r195001 n195004 fq195012 ez195013 (ht R c1 c2 c3 c4 c5 c6 c7 c8 c9 c10 c11 c12 c13 c14 c15 c16 c17 c18 c19 c20 c21 c22 c23 c24 c25 c26 c27 c28 c29 c30 c31 c32 c33 c34 c35 c36 c37 c38 c39 c40 c41 c42 c43 c44 c45 c46 c47 c48 c49 c50 c51 c52 c53 c54 c55))) (by omega)
                · have r195015 : o194894.toInt ≠ 0 := gj_neq hc194897 (show Int32.toInt 0 = 0 by decide)
                  have bo194894' : gB o194894 1 1 := ⟨by omega, by omega⟩
                  refine G_aload 0 dr_cX17_rename_77 rfl ?_
                  have fq195016 : fI (F194831 q194025) 2 = p194877 := by rw [he194874]; rfl
                  refine Gp_get 2 hm194873 he194874 dr_cX17_rename_79 (gk_X15 D I) (Nat.le_of_ble_eq_true rfl) wr_9_186 rfl ?_
                  refine G_iload_n 5 dr_cX17_rename_82 rfl ?_
                  refine G_icmp_ne 92 dr_cX17_rename_83 (by decide +kernel) (fun hc195017 => ?_) (fun hc195017 => ?_)
                  · have r195018 : p194877.toInt ≠ p171253.toInt := gC_ne hc195017
                    refine G_aload 0 dr_cX17_rename_92 rfl ?_
                    have fq195019 : fI (F194831 q194025) 6 = p194881 := by rw [he194874]; rfl
                    refine Gw_callV (As := []) (gV_ok D I) (cp_1699_Row_usesB l hl0 D I P171250 F194831 q194025 p194875 p194876 p194877 p194878 p194879 p194880 p194881 hm194873 he194874 bp194875 bp194876 bp194879 bp194880 bp194881) dr_cX17_rename_94 ⟨wr_10_196, wr_1_39, wr_10_199, by decide, rfl, (Nat.le_of_ble_eq_true rfl), (Nat.le_of_ble_eq_true rfl)⟩ wr_10_197 wr_10_198 hm194873 he194874 rfl (show 0 + 0 ≤ 0 by first | omega | decide) (show 0 + 0 ≤ 0 by first | omega | decide) (Nat.le_of_ble_eq_true rfl) (fun r195023 w195024 dc195020 ds195021 hp195022 => ?_) (fun _ _ _ _ _ z => z.elim)
                    obtain ⟨o195025, rfl, rfl, hdc, hds, bo195025, x195026, ht195027⟩ := hp195022
                    change G _ _ _ _ _ _ _ (.int o195025 :: _) _ _ _
                    refine G_widen (cs' := 0) (sl' := 0) (by omega) (by omega) ?_
                    refine G_if_eq 115 dr_cX17_rename_97 (by decide +kernel) (fun hc195028 => ?_) (fun hc195028 => ?_)
                    · have r195029 : o195025.toInt = 0 := gj_eq hc195028 (show Int32.toInt 0 = 0 by decide)
                      have bo195025' : gB o195025 0 0 := ⟨by omega, by omega⟩
                      refine G_aload 0 dr_cX17_rename_115 rfl ?_
                      refine Gw_callV (As := []) (gV_ok D I) (cp_1660_Row_sets l hl0 D I P171250 F194831 q194025 p194875 p194876 p194877 p194878 p194879 p194880 p194881 hm194873 he194874 bp194875 bp194876 bp194879 bp194880 bp194881) dr_cX17_rename_117 ⟨wr_10_181, wr_1_39, wr_10_184, by decide, rfl, (Nat.le_of_ble_eq_true rfl), (Nat.le_of_ble_eq_true rfl)⟩ wr_10_182 wr_10_183 hm194873 he194874 rfl (show 0 + 0 ≤ 0 by first | omega | decide) (show 0 + 0 ≤ 0 by first | omega | decide) (Nat.le_of_ble_eq_true rfl) (fun r195033 w195034 dc195030 ds195031 hp195032 => ?_) (fun _ _ _ _ _ z => z.elim)
                      obtain ⟨o195035, rfl, rfl, hdc, hds, bo195035, ht195036⟩ := hp195032
                      change G _ _ _ _ _ _ _ (.int o195035 :: _) _ _ _
                      refine G_widen (cs' := 0) (sl' := 0) (by omega) (by omega) ?_
                      refine G_if_eq 138 dr_cX17_rename_120 (by decide +kernel) (fun hc195037 => ?_) (fun hc195037 => ?_)
                      · have r195038 : o195035.toInt = 0 := gj_eq hc195037 (show Int32.toInt 0 = 0 by decide)
                        have bo195035' : gB o195035 0 0 := ⟨by omega, by omega⟩
                        obtain ⟨z195039, hz195039⟩ : ∃ z : Int32, z = g194830 + Int32.ofInt 1 := ⟨_, rfl⟩
                        have ez195039 : z195039.toInt = g194830.toInt + 1 := gI_inc hz195039 (by decide) bg194830' (by decide) (by decide)
                        have bz195039 : gB z195039 1 1000001 := ⟨by omega, by omega⟩
                        refine G_iinc (L' := [(5, .int z195039), (6, .ref q194025), (4, .ref q194014), (3, .int g193954), (0, .ref q171252), (1, .int p171253), (2, .int p171254)]) z195039 1 dr_cX17_rename_138 rfl hz195039.symm (Nat.le_of_ble_eq_true rfl) rfl ?_
                        refine G_goto 20 dr_cX17_rename_141 (by decide +kernel) ?_
                        refine G_lv (L' := [(5, .int z195039), (4, .ref q194014), (3, .int g193954), (0, .ref q171252), (1, .int p171253), (2, .int p171254)]) [0, 2, 3, 4, 5, 6] rfl ?_
                        exact ih20_194833 F194831 z195039 (gB_w bz195039 (by decide) (by decide)) hT194832 hs194833 (fun k e1 ht => kt20_194834 k e1 (fun R c1 c2 c3 c4 c5 c6 c7 c8 c9 c10 c11 c12 c13 c14 c15 c16 c17 c18 c19 c20 c21 c22 c23 c24 c25 c26 c27 c28 c29 c30 c31 c32 c33 c34 c35 c36 c37 c38 c39 c40 c41 c42 c43 c44 c45 c46 c47 c48 c49 c50 c51 c52 c53 c54 c55 => c11 F194831 g194830 q194024 p194845 q194025 p194875 p194880 o194894 p194877 p194881 o195025 o195035 z195039 k e1 bg194830 hT194832 hs194833 fq194841 fq194852 fq194853 r194863 fq194864 r194871 fq194872 fq194887 fq194888 bo194894 ht194896 r195015 fq195016 r195018 fq195019 bo195025 ht195027 r195029 bo195035 ht195036 r195038 ez195039 (ht R c1 c2 c3 c4 c5 c6 c7 c8 c9 c10 c11 c12 c13 c14 c15 c16 c17 c18 c19 c20 c21 c22 c23 c24 c25 c26 c27 c28 c29 c30 c31 c32 c33 c34 c35 c36 c37 c38 c39 c40 c41 c42 c43 c44 c45 c46 c47 c48 c49 c50 c51 c52 c53 c54 c55))) (by omega)
                      · have r195040 : o195035.toInt ≠ 0 := gj_neq hc195037 (show Int32.toInt 0 = 0 by decide)
                        have bo195035' : gB o195035 1 1 := ⟨by omega, by omega⟩
                        refine G_aload 0 dr_cX17_rename_123 rfl ?_
                        have fq195041 : fI (F194831 q194025) 1 = p194876 := by rw [he194874]; rfl
                        refine Gp_get 1 hm194873 he194874 dr_cX17_rename_125 (gk_X15 D I) (Nat.le_of_ble_eq_true rfl) wr_9_182 rfl ?_
                        refine G_iload_n 5 dr_cX17_rename_128 rfl ?_
                        refine G_icmp_ne 138 dr_cX17_rename_129 (by decide +kernel) (fun hc195042 => ?_) (fun hc195042 => ?_)
                        · have r195043 : p194876.toInt ≠ p171253.toInt := gC_ne hc195042
                          obtain ⟨z195044, hz195044⟩ : ∃ z : Int32, z = g194830 + Int32.ofInt 1 := ⟨_, rfl⟩
                          have ez195044 : z195044.toInt = g194830.toInt + 1 := gI_inc hz195044 (by decide) bg194830' (by decide) (by decide)
                          have bz195044 : gB z195044 1 1000001 := ⟨by omega, by omega⟩
                          refine G_iinc (L' := [(5, .int z195044), (6, .ref q194025), (4, .ref q194014), (3, .int g193954), (0, .ref q171252), (1, .int p171253), (2, .int p171254)]) z195044 1 dr_cX17_rename_138 rfl hz195044.symm (Nat.le_of_ble_eq_true rfl) rfl ?_
                          refine G_goto 20 dr_cX17_rename_141 (by decide +kernel) ?_
                          refine G_lv (L' := [(5, .int z195044), (4, .ref q194014), (3, .int g193954), (0, .ref q171252), (1, .int p171253), (2, .int p171254)]) [0, 2, 3, 4, 5, 6] rfl ?_
                          exact ih20_194833 F194831 z195044 (gB_w bz195044 (by decide) (by decide)) hT194832 hs194833 (fun k e1 ht => kt20_194834 k e1 (fun R c1 c2 c3 c4 c5 c6 c7 c8 c9 c10 c11 c12 c13 c14 c15 c16 c17 c18 c19 c20 c21 c22 c23 c24 c25 c26 c27 c28 c29 c30 c31 c32 c33 c34 c35 c36 c37 c38 c39 c40 c41 c42 c43 c44 c45 c46 c47 c48 c49 c50 c51 c52 c53 c54 c55 => c12 F194831 g194830 q194024 p194845 q194025 p194875 p194880 o194894 p194877 p194881 o195025 o195035 p194876 z195044 k e1 bg194830 hT194832 hs194833 fq194841 fq194852 fq194853 r194863 fq194864 r194871 fq194872 fq194887 fq194888 bo194894 ht194896 r195015 fq195016 r195018 fq195019 bo195025 ht195027 r195029 bo195035 ht195036 r195040 fq195041 r195043 ez195044 (ht R c1 c2 c3 c4 c5 c6 c7 c8 c9 c10 c11 c12 c13 c14 c15 c16 c17 c18 c19 c20 c21 c22 c23 c24 c25 c26 c27 c28 c29 c30 c31 c32 c33 c34 c35 c36 c37 c38 c39 c40 c41 c42 c43 c44 c45 c46 c47 c48 c49 c50 c51 c52 c53 c54 c55))) (by omega)
                        · have r195045 : p194876.toInt = p171253.toInt := gC_eq hc195042
                          refine G_aload 0 dr_cX17_rename_132 rfl ?_
                          refine G_iload_n 6 dr_cX17_rename_134 rfl ?_
                          refine Gp_put 1 hm194873 he194874 dr_cX17_rename_135 (gk_X15 D I) (Nat.le_of_ble_eq_true rfl) wr_9_182 rfl rfl rfl (Nat.le_of_ble_eq_true rfl) (fun F195046 e195047 n195048 => ?_)
                          have he195049 : F195046 q171252 = .inr (18, [.ref q193963, .ref q193964, .int p193965, .int p193966]) := (n195048 q171252 (rn_oo he194836 he194874 (by decide))).trans he194836
                          have he195050 : F195046 q193963 = .inr (4, [.int p193995, .ref q193997, .int p193996]) := (n195048 q193963 (rn_oo he194837 he194874 (by decide))).trans he194837
                          have he195051 : F195046 q193997 = .inl (I (.object "java/lang/Object"), n194011, .inr (.inr (.inr (.inr f194012)))) := (n195048 q193997 (rn_ao he194838 he194874)).trans he194838
                          have he195052 : F195046 q194014 = .inr (17, [.ref q194024, .ref q194025, .int p194026, .int p194027]) := (n195048 q194014 (rn_oo he194839 he194874 (by decide))).trans he194839
                          have he195053 : F195046 q194024 = .inr (4, [.int p194844, .ref q194846, .int p194845]) := (n195048 q194024 (rn_oo he194843 he194874 (by decide))).trans he194843
                          have he195054 : F195046 q194025 = .inr (20, [.int p194875, .int p171254, .int p194877, .int p194878, .int p194879, .int p194880, .int p194881]) := e195047
                          have hs195055 : rStr γ [1] F171251 F195046 := rStr_pu2 hs194833 n195048 ht194030 (by decide)
                          have fq195056 : F195046 q194025 = cF (F194831 q194025) 1 (.int p171254) := by rw [he195054, he194874]; rfl
                          obtain ⟨z195057, hz195057⟩ : ∃ z : Int32, z = g194830 + Int32.ofInt 1 := ⟨_, rfl⟩
                          have ez195057 : z195057.toInt = g194830.toInt + 1 := gI_inc hz195057 (by decide) bg194830' (by decide) (by decide)
                          have bz195057 : gB z195057 1 1000001 := ⟨by omega, by omega⟩
                          refine G_iinc (L' := [(5, .int z195057), (6, .ref q194025), (4, .ref q194014), (3, .int g193954), (0, .ref q171252), (1, .int p171253), (2, .int p171254)]) z195057 1 dr_cX17_rename_138 rfl hz195057.symm (Nat.le_of_ble_eq_true rfl) rfl ?_
                          refine G_goto 20 dr_cX17_rename_141 (by decide +kernel) ?_
                          have hT195058 : RS D I P171250 F195046 γ el := RS_set hT194832 n195048 ht194030 (by decide) ⟨p194875, p171254, p194877, p194878, p194879, p194880, p194881, he195054, bp194875, bp171254, bp194879, bp194880, bp194881, (by omega), (by omega), (by omega), (by omega), (by omega)⟩
                          refine G_lv (L' := [(5, .int z195057), (4, .ref q194014), (3, .int g193954), (0, .ref q171252), (1, .int p171253), (2, .int p171254)]) [0, 2, 3, 4, 5, 6] rfl ?_
                          exact ih20_194833 F195046 z195057 (gB_w bz195057 (by decide) (by decide)) hT195058 hs195055 (fun k e1 ht => kt20_194834 k e1 (fun R c1 c2 c3 c4 c5 c6 c7 c8 c9 c10 c11 c12 c13 c14 c15 c16 c17 c18 c19 c20 c21 c22 c23 c24 c25 c26 c27 c28 c29 c30 c31 c32 c33 c34 c35 c36 c37 c38 c39 c40 c41 c42 c43 c44 c45 c46 c47 c48 c49 c50 c51 c52 c53 c54 c55 => c13 F194831 g194830 q194024 p194845 q194025 p194875 p194880 o194894 p194877 p194881 o195025 o195035 p194876 F195046 z195057 k e1 bg194830 hT194832 hs194833 fq194841 fq194852 fq194853 r194863 fq194864 r194871 fq194872 fq194887 fq194888 bo194894 ht194896 r195015 fq195016 r195018 fq195019 bo195025 ht195027 r195029 bo195035 ht195036 r195040 fq195041 r195045 n195048 fq195056 ez195057 (ht R c1 c2 c3 c4 c5 c6 c7 c8 c9 c10 c11 c12 c13 c14 c15 c16 c17 c18 c19 c20 c21 c22 c23 c24 c25 c26 c27 c28 c29 c30 c31 c32 c33 c34 c35 c36 c37 c38 c39 c40 c41 c42 c43 c44 c45 c46 c47 c48 c49 c50 c51 c52 c53 c54 c55))) (by omega)
                    · have r195059 : o195025.toInt ≠ 0 := gj_neq hc195028 (show Int32.toInt 0 = 0 by decide)
                      have bo195025' : gB o195025 1 1 := ⟨by omega, by omega⟩
                      refine G_aload 0 dr_cX17_rename_100 rfl ?_
                      have fq195060 : fI (F194831 q194025) 3 = p194878 := by rw [he194874]; rfl
                      refine Gp_get 3 hm194873 he194874 dr_cX17_rename_102 (gk_X15 D I) (Nat.le_of_ble_eq_true rfl) wr_9_190 rfl ?_
                      refine G_iload_n 5 dr_cX17_rename_105 rfl ?_
                      refine G_icmp_ne 115 dr_cX17_rename_106 (by decide +kernel) (fun hc195061 => ?_) (fun hc195061 => ?_)
                      · have r195062 : p194878.toInt ≠ p171253.toInt := gC_ne hc195061
                        refine G_aload 0 dr_cX17_rename_115 rfl ?_
                        refine Gw_callV (As := []) (gV_ok D I) (cp_1660_Row_sets l hl0 D I P171250 F194831 q194025 p194875 p194876 p194877 p194878 p194879 p194880 p194881 hm194873 he194874 bp194875 bp194876 bp194879 bp194880 bp194881) dr_cX17_rename_117 ⟨wr_10_181, wr_1_39, wr_10_184, by decide, rfl, (Nat.le_of_ble_eq_true rfl), (Nat.le_of_ble_eq_true rfl)⟩ wr_10_182 wr_10_183 hm194873 he194874 rfl (show 0 + 0 ≤ 0 by first | omega | decide) (show 0 + 0 ≤ 0 by first | omega | decide) (Nat.le_of_ble_eq_true rfl) (fun r195066 w195067 dc195063 ds195064 hp195065 => ?_) (fun _ _ _ _ _ z => z.elim)
                        obtain ⟨o195068, rfl, rfl, hdc, hds, bo195068, ht195069⟩ := hp195065
                        change G _ _ _ _ _ _ _ (.int o195068 :: _) _ _ _
                        refine G_widen (cs' := 0) (sl' := 0) (by omega) (by omega) ?_
                        refine G_if_eq 138 dr_cX17_rename_120 (by decide +kernel) (fun hc195070 => ?_) (fun hc195070 => ?_)
                        · have r195071 : o195068.toInt = 0 := gj_eq hc195070 (show Int32.toInt 0 = 0 by decide)
                          have bo195068' : gB o195068 0 0 := ⟨by omega, by omega⟩
                          obtain ⟨z195072, hz195072⟩ : ∃ z : Int32, z = g194830 + Int32.ofInt 1 := ⟨_, rfl⟩
                          have ez195072 : z195072.toInt = g194830.toInt + 1 := gI_inc hz195072 (by decide) bg194830' (by decide) (by decide)
                          have bz195072 : gB z195072 1 1000001 := ⟨by omega, by omega⟩
                          refine G_iinc (L' := [(5, .int z195072), (6, .ref q194025), (4, .ref q194014), (3, .int g193954), (0, .ref q171252), (1, .int p171253), (2, .int p171254)]) z195072 1 dr_cX17_rename_138 rfl hz195072.symm (Nat.le_of_ble_eq_true rfl) rfl ?_
                          refine G_goto 20 dr_cX17_rename_141 (by decide +kernel) ?_
                          refine G_lv (L' := [(5, .int z195072), (4, .ref q194014), (3, .int g193954), (0, .ref q171252), (1, .int p171253), (2, .int p171254)]) [0, 2, 3, 4, 5, 6] rfl ?_
                          exact ih20_194833 F194831 z195072 (gB_w bz195072 (by decide) (by decide)) hT194832 hs194833 (fun k e1 ht => kt20_194834 k e1 (fun R c1 c2 c3 c4 c5 c6 c7 c8 c9 c10 c11 c12 c13 c14 c15 c16 c17 c18 c19 c20 c21 c22 c23 c24 c25 c26 c27 c28 c29 c30 c31 c32 c33 c34 c35 c36 c37 c38 c39 c40 c41 c42 c43 c44 c45 c46 c47 c48 c49 c50 c51 c52 c53 c54 c55 => c14 F194831 g194830 q194024 p194845 q194025 p194875 p194880 o194894 p194877 p194881 o195025 p194878 o195068 z195072 k e1 bg194830 hT194832 hs194833 fq194841 fq194852 fq194853 r194863 fq194864 r194871 fq194872 fq194887 fq194888 bo194894 ht194896 r195015 fq195016 r195018 fq195019 bo195025 ht195027 r195059 fq195060 r195062 bo195068 ht195069 r195071 ez195072 (ht R c1 c2 c3 c4 c5 c6 c7 c8 c9 c10 c11 c12 c13 c14 c15 c16 c17 c18 c19 c20 c21 c22 c23 c24 c25 c26 c27 c28 c29 c30 c31 c32 c33 c34 c35 c36 c37 c38 c39 c40 c41 c42 c43 c44 c45 c46 c47 c48 c49 c50 c51 c52 c53 c54 c55))) (by omega)
                        · have r195073 : o195068.toInt ≠ 0 := gj_neq hc195070 (show Int32.toInt 0 = 0 by decide)
                          have bo195068' : gB o195068 1 1 := ⟨by omega, by omega⟩
                          refine G_aload 0 dr_cX17_rename_123 rfl ?_
                          have fq195074 : fI (F194831 q194025) 1 = p194876 := by rw [he194874]; rfl
                          refine Gp_get 1 hm194873 he194874 dr_cX17_rename_125 (gk_X15 D I) (Nat.le_of_ble_eq_true rfl) wr_9_182 rfl ?_
                          refine G_iload_n 5 dr_cX17_rename_128 rfl ?_
                          refine G_icmp_ne 138 dr_cX17_rename_129 (by decide +kernel) (fun hc195075 => ?_) (fun hc195075 => ?_)
                          · have r195076 : p194876.toInt ≠ p171253.toInt := gC_ne hc195075
                            obtain ⟨z195077, hz195077⟩ : ∃ z : Int32, z = g194830 + Int32.ofInt 1 := ⟨_, rfl⟩
                            have ez195077 : z195077.toInt = g194830.toInt + 1 := gI_inc hz195077 (by decide) bg194830' (by decide) (by decide)
                            have bz195077 : gB z195077 1 1000001 := ⟨by omega, by omega⟩
                            refine G_iinc (L' := [(5, .int z195077), (6, .ref q194025), (4, .ref q194014), (3, .int g193954), (0, .ref q171252), (1, .int p171253), (2, .int p171254)]) z195077 1 dr_cX17_rename_138 rfl hz195077.symm (Nat.le_of_ble_eq_true rfl) rfl ?_
                            refine G_goto 20 dr_cX17_rename_141 (by decide +kernel) ?_
                            refine G_lv (L' := [(5, .int z195077), (4, .ref q194014), (3, .int g193954), (0, .ref q171252), (1, .int p171253), (2, .int p171254)]) [0, 2, 3, 4, 5, 6] rfl ?_
                            exact ih20_194833 F194831 z195077 (gB_w bz195077 (by decide) (by decide)) hT194832 hs194833 (fun k e1 ht => kt20_194834 k e1 (fun R c1 c2 c3 c4 c5 c6 c7 c8 c9 c10 c11 c12 c13 c14 c15 c16 c17 c18 c19 c20 c21 c22 c23 c24 c25 c26 c27 c28 c29 c30 c31 c32 c33 c34 c35 c36 c37 c38 c39 c40 c41 c42 c43 c44 c45 c46 c47 c48 c49 c50 c51 c52 c53 c54 c55 => c15 F194831 g194830 q194024 p194845 q194025 p194875 p194880 o194894 p194877 p194881 o195025 p194878 o195068 p194876 z195077 k e1 bg194830 hT194832 hs194833 fq194841 fq194852 fq194853 r194863 fq194864 r194871 fq194872 fq194887 fq194888 bo194894 ht194896 r195015 fq195016 r195018 fq195019 bo195025 ht195027 r195059 fq195060 r195062 bo195068 ht195069 r195073 fq195074 r195076 ez195077 (ht R c1 c2 c3 c4 c5 c6 c7 c8 c9 c10 c11 c12 c13 c14 c15 c16 c17 c18 c19 c20 c21 c22 c23 c24 c25 c26 c27 c28 c29 c30 c31 c32 c33 c34 c35 c36 c37 c38 c39 c40 c41 c42 c43 c44 c45 c46 c47 c48 c49 c50 c51 c52 c53 c54 c55))) (by omega)
                          · have r195078 : p194876.toInt = p171253.toInt := gC_eq hc195075
                            refine G_aload 0 dr_cX17_rename_132 rfl ?_
                            refine G_iload_n 6 dr_cX17_rename_134 rfl ?_
                            refine Gp_put 1 hm194873 he194874 dr_cX17_rename_135 (gk_X15 D I) (Nat.le_of_ble_eq_true rfl) wr_9_182 rfl rfl rfl (Nat.le_of_ble_eq_true rfl) (fun F195079 e195080 n195081 => ?_)
                            have he195082 : F195079 q171252 = .inr (18, [.ref q193963, .ref q193964, .int p193965, .int p193966]) := (n195081 q171252 (rn_oo he194836 he194874 (by decide))).trans he194836
                            have he195083 : F195079 q193963 = .inr (4, [.int p193995, .ref q193997, .int p193996]) := (n195081 q193963 (rn_oo he194837 he194874 (by decide))).trans he194837
                            have he195084 : F195079 q193997 = .inl (I (.object "java/lang/Object"), n194011, .inr (.inr (.inr (.inr f194012)))) := (n195081 q193997 (rn_ao he194838 he194874)).trans he194838
                            have he195085 : F195079 q194014 = .inr (17, [.ref q194024, .ref q194025, .int p194026, .int p194027]) := (n195081 q194014 (rn_oo he194839 he194874 (by decide))).trans he194839
                            have he195086 : F195079 q194024 = .inr (4, [.int p194844, .ref q194846, .int p194845]) := (n195081 q194024 (rn_oo he194843 he194874 (by decide))).trans he194843
                            have he195087 : F195079 q194025 = .inr (20, [.int p194875, .int p171254, .int p194877, .int p194878, .int p194879, .int p194880, .int p194881]) := e195080
                            have hs195088 : rStr γ [1] F171251 F195079 := rStr_pu2 hs194833 n195081 ht194030 (by decide)
                            have fq195089 : F195079 q194025 = cF (F194831 q194025) 1 (.int p171254) := by rw [he195087, he194874]; rfl
                            obtain ⟨z195090, hz195090⟩ : ∃ z : Int32, z = g194830 + Int32.ofInt 1 := ⟨_, rfl⟩
                            have ez195090 : z195090.toInt = g194830.toInt + 1 := gI_inc hz195090 (by decide) bg194830' (by decide) (by decide)
                            have bz195090 : gB z195090 1 1000001 := ⟨by omega, by omega⟩
                            refine G_iinc (L' := [(5, .int z195090), (6, .ref q194025), (4, .ref q194014), (3, .int g193954), (0, .ref q171252), (1, .int p171253), (2, .int p171254)]) z195090 1 dr_cX17_rename_138 rfl hz195090.symm (Nat.le_of_ble_eq_true rfl) rfl ?_
                            refine G_goto 20 dr_cX17_rename_141 (by decide +kernel) ?_
                            have hT195091 : RS D I P171250 F195079 γ el := RS_set hT194832 n195081 ht194030 (by decide) ⟨p194875, p171254, p194877, p194878, p194879, p194880, p194881, he195087, bp194875, bp171254, bp194879, bp194880, bp194881, (by omega), (by omega), (by omega), (by omega), (by omega)⟩
                            refine G_lv (L' := [(5, .int z195090), (4, .ref q194014), (3, .int g193954), (0, .ref q171252), (1, .int p171253), (2, .int p171254)]) [0, 2, 3, 4, 5, 6] rfl ?_
                            exact ih20_194833 F195079 z195090 (gB_w bz195090 (by decide) (by decide)) hT195091 hs195088 (fun k e1 ht => kt20_194834 k e1 (fun R c1 c2 c3 c4 c5 c6 c7 c8 c9 c10 c11 c12 c13 c14 c15 c16 c17 c18 c19 c20 c21 c22 c23 c24 c25 c26 c27 c28 c29 c30 c31 c32 c33 c34 c35 c36 c37 c38 c39 c40 c41 c42 c43 c44 c45 c46 c47 c48 c49 c50 c51 c52 c53 c54 c55 => c16 F194831 g194830 q194024 p194845 q194025 p194875 p194880 o194894 p194877 p194881 o195025 p194878 o195068 p194876 F195079 z195090 k e1 bg194830 hT194832 hs194833 fq194841 fq194852 fq194853 r194863 fq194864 r194871 fq194872 fq194887 fq194888 bo194894 ht194896 r195015 fq195016 r195018 fq195019 bo195025 ht195027 r195059 fq195060 r195062 bo195068 ht195069 r195073 fq195074 r195078 n195081 fq195089 ez195090 (ht R c1 c2 c3 c4 c5 c6 c7 c8 c9 c10 c11 c12 c13 c14 c15 c16 c17 c18 c19 c20 c21 c22 c23 c24 c25 c26 c27 c28 c29 c30 c31 c32 c33 c34 c35 c36 c37 c38 c39 c40 c41 c42 c43 c44 c45 c46 c47 c48 c49 c50 c51 c52 c53 c54 c55))) (by omega)
                      · have r195092 : p194878.toInt = p171253.toInt := gC_eq hc195061
                        have bp194878' : gB p194878 0 1999 := ⟨by omega, by omega⟩
                        refine G_aload 0 dr_cX17_rename_109 rfl ?_
                        refine G_iload_n 6 dr_cX17_rename_111 rfl ?_
                        refine Gp_put 3 hm194873 he194874 dr_cX17_rename_112 (gk_X15 D I) (Nat.le_of_ble_eq_true rfl) wr_9_190 rfl rfl rfl (Nat.le_of_ble_eq_true rfl) (fun F195093 e195094 n195095 => ?_)
                        have he195096 : F195093 q171252 = .inr (18, [.ref q193963, .ref q193964, .int p193965, .int p193966]) := (n195095 q171252 (rn_oo he194836 he194874 (by decide))).trans he194836
                        have he195097 : F195093 q193963 = .inr (4, [.int p193995, .ref q193997, .int p193996]) := (n195095 q193963 (rn_oo he194837 he194874 (by decide))).trans he194837
                        have he195098 : F195093 q193997 = .inl (I (.object "java/lang/Object"), n194011, .inr (.inr (.inr (.inr f194012)))) := (n195095 q193997 (rn_ao he194838 he194874)).trans he194838
                        have he195099 : F195093 q194014 = .inr (17, [.ref q194024, .ref q194025, .int p194026, .int p194027]) := (n195095 q194014 (rn_oo he194839 he194874 (by decide))).trans he194839
                        have he195100 : F195093 q194024 = .inr (4, [.int p194844, .ref q194846, .int p194845]) := (n195095 q194024 (rn_oo he194843 he194874 (by decide))).trans he194843
                        have he195101 : F195093 q194025 = .inr (20, [.int p194875, .int p194876, .int p194877, .int p171254, .int p194879, .int p194880, .int p194881]) := e195094
                        have hs195102 : rStr γ [1] F171251 F195093 := rStr_pu2 hs194833 n195095 ht194030 (by decide)
                        have fq195103 : F195093 q194025 = cF (F194831 q194025) 3 (.int p171254) := by rw [he195101, he194874]; rfl
                        refine G_aload 0 dr_cX17_rename_115 rfl ?_
                        have hT195104 : RS D I P171250 F195093 γ el := RS_set hT194832 n195095 ht194030 (by decide) ⟨p194875, p194876, p194877, p171254, p194879, p194880, p194881, he195101, bp194875, bp194876, bp194879, bp194880, bp194881, (by omega), (by omega), (by omega), (by omega), (by omega)⟩
                        have fq195105 : fI (F195093 q194025) 0 = p194875 := by rw [he195101]; rfl
                        refine Gw_callV (As := []) (gV_ok D I) (cp_1660_Row_sets l hl0 D I P171250 F195093 q194025 p194875 p194876 p194877 p171254 p194879 p194880 p194881 hm194873 he195101 bp194875 bp194876 bp194879 bp194880 bp194881) dr_cX17_rename_117 ⟨wr_10_181, wr_1_39, wr_10_184, by decide, rfl, (Nat.le_of_ble_eq_true rfl), (Nat.le_of_ble_eq_true rfl)⟩ wr_10_182 wr_10_183 hm194873 he195101 rfl (show 0 + 0 ≤ 0 by first | omega | decide) (show 0 + 0 ≤ 0 by first | omega | decide) (Nat.le_of_ble_eq_true rfl) (fun r195109 w195110 dc195106 ds195107 hp195108 => ?_) (fun _ _ _ _ _ z => z.elim)
                        obtain ⟨o195111, rfl, rfl, hdc, hds, bo195111, ht195112⟩ := hp195108
                        change G _ _ _ _ _ _ _ (.int o195111 :: _) _ _ _
                        refine G_widen (cs' := 0) (sl' := 0) (by omega) (by omega) ?_
                        refine G_if_eq 138 dr_cX17_rename_120 (by decide +kernel) (fun hc195113 => ?_) (fun hc195113 => ?_)
                        · have r195114 : o195111.toInt = 0 := gj_eq hc195113 (show Int32.toInt 0 = 0 by decide)
                          have bo195111' : gB o195111 0 0 := ⟨by omega, by omega⟩
                          obtain ⟨z195115, hz195115⟩ : ∃ z : Int32, z = g194830 + Int32.ofInt 1 := ⟨_, rfl⟩
                          have ez195115 : z195115.toInt = g194830.toInt + 1 := gI_inc hz195115 (by decide) bg194830' (by decide) (by decide)
                          have bz195115 : gB z195115 1 1000001 := ⟨by omega, by omega⟩
                          refine G_iinc (L' := [(5, .int z195115), (6, .ref q194025), (4, .ref q194014), (3, .int g193954), (0, .ref q171252), (1, .int p171253), (2, .int p171254)]) z195115 1 dr_cX17_rename_138 rfl hz195115.symm (Nat.le_of_ble_eq_true rfl) rfl ?_
                          refine G_goto 20 dr_cX17_rename_141 (by decide +kernel) ?_
                          refine G_lv (L' := [(5, .int z195115), (4, .ref q194014), (3, .int g193954), (0, .ref q171252), (1, .int p171253), (2, .int p171254)]) [0, 2, 3, 4, 5, 6] rfl ?_
                          exact ih20_194833 F195093 z195115 (gB_w bz195115 (by decide) (by decide)) hT195104 hs195102 (fun k e1 ht => kt20_194834 k e1 (fun R c1 c2 c3 c4 c5 c6 c7 c8 c9 c10 c11 c12 c13 c14 c15 c16 c17 c18 c19 c20 c21 c22 c23 c24 c25 c26 c27 c28 c29 c30 c31 c32 c33 c34 c35 c36 c37 c38 c39 c40 c41 c42 c43 c44 c45 c46 c47 c48 c49 c50 c51 c52 c53 c54 c55 => c17 F194831 g194830 q194024 p194845 q194025 p194875 p194880 o194894 p194877 p194881 o195025 p194878 F195093 o195111 z195115 k e1 bg194830 hT194832 hs194833 fq194841 fq194852 fq194853 r194863 fq194864 r194871 fq194872 fq194887 fq194888 bo194894 ht194896 r195015 fq195016 r195018 fq195019 bo195025 ht195027 r195059 fq195060 r195092 n195095 fq195103 fq195105 bo195111 ht195112 r195114 ez195115 (ht R c1 c2 c3 c4 c5 c6 c7 c8 c9 c10 c11 c12 c13 c14 c15 c16 c17 c18 c19 c20 c21 c22 c23 c24 c25 c26 c27 c28 c29 c30 c31 c32 c33 c34 c35 c36 c37 c38 c39 c40 c41 c42 c43 c44 c45 c46 c47 c48 c49 c50 c51 c52 c53 c54 c55))) (by omega)
                        · have r195116 : o195111.toInt ≠ 0 := gj_neq hc195113 (show Int32.toInt 0 = 0 by decide)
                          have bo195111' : gB o195111 1 1 := ⟨by omega, by omega⟩
                          refine G_aload 0 dr_cX17_rename_123 rfl ?_
                          have fq195117 : fI (F195093 q194025) 1 = p194876 := by rw [he195101]; rfl
                          refine Gp_get 1 hm194873 he195101 dr_cX17_rename_125 (gk_X15 D I) (Nat.le_of_ble_eq_true rfl) wr_9_182 rfl ?_
                          refine G_iload_n 5 dr_cX17_rename_128 rfl ?_
                          refine G_icmp_ne 138 dr_cX17_rename_129 (by decide +kernel) (fun hc195118 => ?_) (fun hc195118 => ?_)
                          · have r195119 : p194876.toInt ≠ p171253.toInt := gC_ne hc195118
                            obtain ⟨z195120, hz195120⟩ : ∃ z : Int32, z = g194830 + Int32.ofInt 1 := ⟨_, rfl⟩
                            have ez195120 : z195120.toInt = g194830.toInt + 1 := gI_inc hz195120 (by decide) bg194830' (by decide) (by decide)
                            have bz195120 : gB z195120 1 1000001 := ⟨by omega, by omega⟩
                            refine G_iinc (L' := [(5, .int z195120), (6, .ref q194025), (4, .ref q194014), (3, .int g193954), (0, .ref q171252), (1, .int p171253), (2, .int p171254)]) z195120 1 dr_cX17_rename_138 rfl hz195120.symm (Nat.le_of_ble_eq_true rfl) rfl ?_
                            refine G_goto 20 dr_cX17_rename_141 (by decide +kernel) ?_
                            refine G_lv (L' := [(5, .int z195120), (4, .ref q194014), (3, .int g193954), (0, .ref q171252), (1, .int p171253), (2, .int p171254)]) [0, 2, 3, 4, 5, 6] rfl ?_
                            exact ih20_194833 F195093 z195120 (gB_w bz195120 (by decide) (by decide)) hT195104 hs195102 (fun k e1 ht => kt20_194834 k e1 (fun R c1 c2 c3 c4 c5 c6 c7 c8 c9 c10 c11 c12 c13 c14 c15 c16 c17 c18 c19 c20 c21 c22 c23 c24 c25 c26 c27 c28 c29 c30 c31 c32 c33 c34 c35 c36 c37 c38 c39 c40 c41 c42 c43 c44 c45 c46 c47 c48 c49 c50 c51 c52 c53 c54 c55 => c18 F194831 g194830 q194024 p194845 q194025 p194875 p194880 o194894 p194877 p194881 o195025 p194878 F195093 o195111 p194876 z195120 k e1 bg194830 hT194832 hs194833 fq194841 fq194852 fq194853 r194863 fq194864 r194871 fq194872 fq194887 fq194888 bo194894 ht194896 r195015 fq195016 r195018 fq195019 bo195025 ht195027 r195059 fq195060 r195092 n195095 fq195103 fq195105 bo195111 ht195112 r195116 fq195117 r195119 ez195120 (ht R c1 c2 c3 c4 c5 c6 c7 c8 c9 c10 c11 c12 c13 c14 c15 c16 c17 c18 c19 c20 c21 c22 c23 c24 c25 c26 c27 c28 c29 c30 c31 c32 c33 c34 c35 c36 c37 c38 c39 c40 c41 c42 c43 c44 c45 c46 c47 c48 c49 c50 c51 c52 c53 c54 c55))) (by omega)
                          · have r195121 : p194876.toInt = p171253.toInt := gC_eq hc195118
                            refine G_aload 0 dr_cX17_rename_132 rfl ?_
                            refine G_iload_n 6 dr_cX17_rename_134 rfl ?_
                            refine Gp_put 1 hm194873 he195101 dr_cX17_rename_135 (gk_X15 D I) (Nat.le_of_ble_eq_true rfl) wr_9_182 rfl rfl rfl (Nat.le_of_ble_eq_true rfl) (fun F195122 e195123 n195124 => ?_)
                            have he195125 : F195122 q171252 = .inr (18, [.ref q193963, .ref q193964, .int p193965, .int p193966]) := (n195124 q171252 (rn_oo he195096 he195101 (by decide))).trans he195096
                            have he195126 : F195122 q193963 = .inr (4, [.int p193995, .ref q193997, .int p193996]) := (n195124 q193963 (rn_oo he195097 he195101 (by decide))).trans he195097
                            have he195127 : F195122 q193997 = .inl (I (.object "java/lang/Object"), n194011, .inr (.inr (.inr (.inr f194012)))) := (n195124 q193997 (rn_ao he195098 he195101)).trans he195098
                            have he195128 : F195122 q194014 = .inr (17, [.ref q194024, .ref q194025, .int p194026, .int p194027]) := (n195124 q194014 (rn_oo he195099 he195101 (by decide))).trans he195099
                            have he195129 : F195122 q194024 = .inr (4, [.int p194844, .ref q194846, .int p194845]) := (n195124 q194024 (rn_oo he195100 he195101 (by decide))).trans he195100
                            have he195130 : F195122 q194025 = .inr (20, [.int p194875, .int p171254, .int p194877, .int p171254, .int p194879, .int p194880, .int p194881]) := e195123
                            have hs195131 : rStr γ [1] F171251 F195122 := rStr_pu2 hs195102 n195124 ht194030 (by decide)
                            have fq195132 : F195122 q194025 = cF (F195093 q194025) 1 (.int p171254) := by rw [he195130, he195101]; rfl
                            obtain ⟨z195133, hz195133⟩ : ∃ z : Int32, z = g194830 + Int32.ofInt 1 := ⟨_, rfl⟩
                            have ez195133 : z195133.toInt = g194830.toInt + 1 := gI_inc hz195133 (by decide) bg194830' (by decide) (by decide)
                            have bz195133 : gB z195133 1 1000001 := ⟨by omega, by omega⟩
                            refine G_iinc (L' := [(5, .int z195133), (6, .ref q194025), (4, .ref q194014), (3, .int g193954), (0, .ref q171252), (1, .int p171253), (2, .int p171254)]) z195133 1 dr_cX17_rename_138 rfl hz195133.symm (Nat.le_of_ble_eq_true rfl) rfl ?_
                            refine G_goto 20 dr_cX17_rename_141 (by decide +kernel) ?_
                            have hT195134 : RS D I P171250 F195122 γ el := RS_set hT195104 n195124 ht194030 (by decide) ⟨p194875, p171254, p194877, p171254, p194879, p194880, p194881, he195130, bp194875, bp171254, bp194879, bp194880, bp194881, (by omega), (by omega), (by omega), (by omega), (by omega)⟩
                            refine G_lv (L' := [(5, .int z195133), (4, .ref q194014), (3, .int g193954), (0, .ref q171252), (1, .int p171253), (2, .int p171254)]) [0, 2, 3, 4, 5, 6] rfl ?_
                            exact ih20_194833 F195122 z195133 (gB_w bz195133 (by decide) (by decide)) hT195134 hs195131 (fun k e1 ht => kt20_194834 k e1 (fun R c1 c2 c3 c4 c5 c6 c7 c8 c9 c10 c11 c12 c13 c14 c15 c16 c17 c18 c19 c20 c21 c22 c23 c24 c25 c26 c27 c28 c29 c30 c31 c32 c33 c34 c35 c36 c37 c38 c39 c40 c41 c42 c43 c44 c45 c46 c47 c48 c49 c50 c51 c52 c53 c54 c55 => c19 F194831 g194830 q194024 p194845 q194025 p194875 p194880 o194894 p194877 p194881 o195025 p194878 F195093 o195111 p194876 F195122 z195133 k e1 bg194830 hT194832 hs194833 fq194841 fq194852 fq194853 r194863 fq194864 r194871 fq194872 fq194887 fq194888 bo194894 ht194896 r195015 fq195016 r195018 fq195019 bo195025 ht195027 r195059 fq195060 r195092 n195095 fq195103 fq195105 bo195111 ht195112 r195116 fq195117 r195121 n195124 fq195132 ez195133 (ht R c1 c2 c3 c4 c5 c6 c7 c8 c9 c10 c11 c12 c13 c14 c15 c16 c17 c18 c19 c20 c21 c22 c23 c24 c25 c26 c27 c28 c29 c30 c31 c32 c33 c34 c35 c36 c37 c38 c39 c40 c41 c42 c43 c44 c45 c46 c47 c48 c49 c50 c51 c52 c53 c54 c55))) (by omega)
                  · have r195135 : p194877.toInt = p171253.toInt := gC_eq hc195017
                    have bp194877' : gB p194877 0 1999 := ⟨by omega, by omega⟩
                    refine G_aload 0 dr_cX17_rename_86 rfl ?_
                    refine G_iload_n 6 dr_cX17_rename_88 rfl ?_
                    refine Gp_put 2 hm194873 he194874 dr_cX17_rename_89 (gk_X15 D I) (Nat.le_of_ble_eq_true rfl) wr_9_186 rfl rfl rfl (Nat.le_of_ble_eq_true rfl) (fun F195136 e195137 n195138 => ?_)
                    have he195139 : F195136 q171252 = .inr (18, [.ref q193963, .ref q193964, .int p193965, .int p193966]) := (n195138 q171252 (rn_oo he194836 he194874 (by decide))).trans he194836
                    have he195140 : F195136 q193963 = .inr (4, [.int p193995, .ref q193997, .int p193996]) := (n195138 q193963 (rn_oo he194837 he194874 (by decide))).trans he194837
                    have he195141 : F195136 q193997 = .inl (I (.object "java/lang/Object"), n194011, .inr (.inr (.inr (.inr f194012)))) := (n195138 q193997 (rn_ao he194838 he194874)).trans he194838
                    have he195142 : F195136 q194014 = .inr (17, [.ref q194024, .ref q194025, .int p194026, .int p194027]) := (n195138 q194014 (rn_oo he194839 he194874 (by decide))).trans he194839
                    have he195143 : F195136 q194024 = .inr (4, [.int p194844, .ref q194846, .int p194845]) := (n195138 q194024 (rn_oo he194843 he194874 (by decide))).trans he194843
                    have he195144 : F195136 q194025 = .inr (20, [.int p194875, .int p194876, .int p171254, .int p194878, .int p194879, .int p194880, .int p194881]) := e195137
                    have hs195145 : rStr γ [1] F171251 F195136 := rStr_pu2 hs194833 n195138 ht194030 (by decide)
                    have fq195146 : F195136 q194025 = cF (F194831 q194025) 2 (.int p171254) := by rw [he195144, he194874]; rfl
                    refine G_aload 0 dr_cX17_rename_92 rfl ?_
                    have hT195147 : RS D I P171250 F195136 γ el := RS_set hT194832 n195138 ht194030 (by decide) ⟨p194875, p194876, p171254, p194878, p194879, p194880, p194881, he195144, bp194875, bp194876, bp194879, bp194880, bp194881, (by omega), (by omega), (by omega), (by omega), (by omega)⟩
                    have fq195148 : fI (F195136 q194025) 0 = p194875 := by rw [he195144]; rfl
                    have fq195149 : fI (F195136 q194025) 6 = p194881 := by rw [he195144]; rfl
                    refine Gw_callV (As := []) (gV_ok D I) (cp_1699_Row_usesB l hl0 D I P171250 F195136 q194025 p194875 p194876 p171254 p194878 p194879 p194880 p194881 hm194873 he195144 bp194875 bp194876 bp194879 bp194880 bp194881) dr_cX17_rename_94 ⟨wr_10_196, wr_1_39, wr_10_199, by decide, rfl, (Nat.le_of_ble_eq_true rfl), (Nat.le_of_ble_eq_true rfl)⟩ wr_10_197 wr_10_198 hm194873 he195144 rfl (show 0 + 0 ≤ 0 by first | omega | decide) (show 0 + 0 ≤ 0 by first | omega | decide) (Nat.le_of_ble_eq_true rfl) (fun r195153 w195154 dc195150 ds195151 hp195152 => ?_) (fun _ _ _ _ _ z => z.elim)
                    obtain ⟨o195155, rfl, rfl, hdc, hds, bo195155, x195156, ht195157⟩ := hp195152
                    change G _ _ _ _ _ _ _ (.int o195155 :: _) _ _ _
                    refine G_widen (cs' := 0) (sl' := 0) (by omega) (by omega) ?_
                    refine G_if_eq 115 dr_cX17_rename_97 (by decide +kernel) (fun hc195158 => ?_) (fun hc195158 => ?_)
                    · have r195159 : o195155.toInt = 0 := gj_eq hc195158 (show Int32.toInt 0 = 0 by decide)
                      have bo195155' : gB o195155 0 0 := ⟨by omega, by omega⟩
                      refine G_aload 0 dr_cX17_rename_115 rfl ?_
                      refine Gw_callV (As := []) (gV_ok D I) (cp_1660_Row_sets l hl0 D I P171250 F195136 q194025 p194875 p194876 p171254 p194878 p194879 p194880 p194881 hm194873 he195144 bp194875 bp194876 bp194879 bp194880 bp194881) dr_cX17_rename_117 ⟨wr_10_181, wr_1_39, wr_10_184, by decide, rfl, (Nat.le_of_ble_eq_true rfl), (Nat.le_of_ble_eq_true rfl)⟩ wr_10_182 wr_10_183 hm194873 he195144 rfl (show 0 + 0 ≤ 0 by first | omega | decide) (show 0 + 0 ≤ 0 by first | omega | decide) (Nat.le_of_ble_eq_true rfl) (fun r195163 w195164 dc195160 ds195161 hp195162 => ?_) (fun _ _ _ _ _ z => z.elim)
                      obtain ⟨o195165, rfl, rfl, hdc, hds, bo195165, ht195166⟩ := hp195162
                      change G _ _ _ _ _ _ _ (.int o195165 :: _) _ _ _
                      refine G_widen (cs' := 0) (sl' := 0) (by omega) (by omega) ?_
                      refine G_if_eq 138 dr_cX17_rename_120 (by decide +kernel) (fun hc195167 => ?_) (fun hc195167 => ?_)
                      · have r195168 : o195165.toInt = 0 := gj_eq hc195167 (show Int32.toInt 0 = 0 by decide)
                        have bo195165' : gB o195165 0 0 := ⟨by omega, by omega⟩
                        obtain ⟨z195169, hz195169⟩ : ∃ z : Int32, z = g194830 + Int32.ofInt 1 := ⟨_, rfl⟩
                        have ez195169 : z195169.toInt = g194830.toInt + 1 := gI_inc hz195169 (by decide) bg194830' (by decide) (by decide)
                        have bz195169 : gB z195169 1 1000001 := ⟨by omega, by omega⟩
                        refine G_iinc (L' := [(5, .int z195169), (6, .ref q194025), (4, .ref q194014), (3, .int g193954), (0, .ref q171252), (1, .int p171253), (2, .int p171254)]) z195169 1 dr_cX17_rename_138 rfl hz195169.symm (Nat.le_of_ble_eq_true rfl) rfl ?_
                        refine G_goto 20 dr_cX17_rename_141 (by decide +kernel) ?_
                        refine G_lv (L' := [(5, .int z195169), (4, .ref q194014), (3, .int g193954), (0, .ref q171252), (1, .int p171253), (2, .int p171254)]) [0, 2, 3, 4, 5, 6] rfl ?_
                        exact ih20_194833 F195136 z195169 (gB_w bz195169 (by decide) (by decide)) hT195147 hs195145 (fun k e1 ht => kt20_194834 k e1 (fun R c1 c2 c3 c4 c5 c6 c7 c8 c9 c10 c11 c12 c13 c14 c15 c16 c17 c18 c19 c20 c21 c22 c23 c24 c25 c26 c27 c28 c29 c30 c31 c32 c33 c34 c35 c36 c37 c38 c39 c40 c41 c42 c43 c44 c45 c46 c47 c48 c49 c50 c51 c52 c53 c54 c55 => c20 F194831 g194830 q194024 p194845 q194025 p194875 p194880 o194894 p194877 F195136 p194881 o195155 o195165 z195169 k e1 bg194830 hT194832 hs194833 fq194841 fq194852 fq194853 r194863 fq194864 r194871 fq194872 fq194887 fq194888 bo194894 ht194896 r195015 fq195016 r195135 n195138 fq195146 fq195148 fq195149 bo195155 ht195157 r195159 bo195165 ht195166 r195168 ez195169 (ht R c1 c2 c3 c4 c5 c6 c7 c8 c9 c10 c11 c12 c13 c14 c15 c16 c17 c18 c19 c20 c21 c22 c23 c24 c25 c26 c27 c28 c29 c30 c31 c32 c33 c34 c35 c36 c37 c38 c39 c40 c41 c42 c43 c44 c45 c46 c47 c48 c49 c50 c51 c52 c53 c54 c55))) (by omega)
                      · have r195170 : o195165.toInt ≠ 0 := gj_neq hc195167 (show Int32.toInt 0 = 0 by decide)
                        have bo195165' : gB o195165 1 1 := ⟨by omega, by omega⟩
                        refine G_aload 0 dr_cX17_rename_123 rfl ?_
                        have fq195171 : fI (F195136 q194025) 1 = p194876 := by rw [he195144]; rfl
                        refine Gp_get 1 hm194873 he195144 dr_cX17_rename_125 (gk_X15 D I) (Nat.le_of_ble_eq_true rfl) wr_9_182 rfl ?_
                        refine G_iload_n 5 dr_cX17_rename_128 rfl ?_
                        refine G_icmp_ne 138 dr_cX17_rename_129 (by decide +kernel) (fun hc195172 => ?_) (fun hc195172 => ?_)
                        · have r195173 : p194876.toInt ≠ p171253.toInt := gC_ne hc195172
                          obtain ⟨z195174, hz195174⟩ : ∃ z : Int32, z = g194830 + Int32.ofInt 1 := ⟨_, rfl⟩
                          have ez195174 : z195174.toInt = g194830.toInt + 1 := gI_inc hz195174 (by decide) bg194830' (by decide) (by decide)
                          have bz195174 : gB z195174 1 1000001 := ⟨by omega, by omega⟩
                          refine G_iinc (L' := [(5, .int z195174), (6, .ref q194025), (4, .ref q194014), (3, .int g193954), (0, .ref q171252), (1, .int p171253), (2, .int p171254)]) z195174 1 dr_cX17_rename_138 rfl hz195174.symm (Nat.le_of_ble_eq_true rfl) rfl ?_
                          refine G_goto 20 dr_cX17_rename_141 (by decide +kernel) ?_
                          refine G_lv (L' := [(5, .int z195174), (4, .ref q194014), (3, .int g193954), (0, .ref q171252), (1, .int p171253), (2, .int p171254)]) [0, 2, 3, 4, 5, 6] rfl ?_
                          exact ih20_194833 F195136 z195174 (gB_w bz195174 (by decide) (by decide)) hT195147 hs195145 (fun k e1 ht => kt20_194834 k e1 (fun R c1 c2 c3 c4 c5 c6 c7 c8 c9 c10 c11 c12 c13 c14 c15 c16 c17 c18 c19 c20 c21 c22 c23 c24 c25 c26 c27 c28 c29 c30 c31 c32 c33 c34 c35 c36 c37 c38 c39 c40 c41 c42 c43 c44 c45 c46 c47 c48 c49 c50 c51 c52 c53 c54 c55 => c21 F194831 g194830 q194024 p194845 q194025 p194875 p194880 o194894 p194877 F195136 p194881 o195155 o195165 p194876 z195174 k e1 bg194830 hT194832 hs194833 fq194841 fq194852 fq194853 r194863 fq194864 r194871 fq194872 fq194887 fq194888 bo194894 ht194896 r195015 fq195016 r195135 n195138 fq195146 fq195148 fq195149 bo195155 ht195157 r195159 bo195165 ht195166 r195170 fq195171 r195173 ez195174 (ht R c1 c2 c3 c4 c5 c6 c7 c8 c9 c10 c11 c12 c13 c14 c15 c16 c17 c18 c19 c20 c21 c22 c23 c24 c25 c26 c27 c28 c29 c30 c31 c32 c33 c34 c35 c36 c37 c38 c39 c40 c41 c42 c43 c44 c45 c46 c47 c48 c49 c50 c51 c52 c53 c54 c55))) (by omega)
                        · have r195175 : p194876.toInt = p171253.toInt := gC_eq hc195172
                          refine G_aload 0 dr_cX17_rename_132 rfl ?_
                          refine G_iload_n 6 dr_cX17_rename_134 rfl ?_
                          refine Gp_put 1 hm194873 he195144 dr_cX17_rename_135 (gk_X15 D I) (Nat.le_of_ble_eq_true rfl) wr_9_182 rfl rfl rfl (Nat.le_of_ble_eq_true rfl) (fun F195176 e195177 n195178 => ?_)
                          have he195179 : F195176 q171252 = .inr (18, [.ref q193963, .ref q193964, .int p193965, .int p193966]) := (n195178 q171252 (rn_oo he195139 he195144 (by decide))).trans he195139
                          have he195180 : F195176 q193963 = .inr (4, [.int p193995, .ref q193997, .int p193996]) := (n195178 q193963 (rn_oo he195140 he195144 (by decide))).trans he195140
                          have he195181 : F195176 q193997 = .inl (I (.object "java/lang/Object"), n194011, .inr (.inr (.inr (.inr f194012)))) := (n195178 q193997 (rn_ao he195141 he195144)).trans he195141
                          have he195182 : F195176 q194014 = .inr (17, [.ref q194024, .ref q194025, .int p194026, .int p194027]) := (n195178 q194014 (rn_oo he195142 he195144 (by decide))).trans he195142
                          have he195183 : F195176 q194024 = .inr (4, [.int p194844, .ref q194846, .int p194845]) := (n195178 q194024 (rn_oo he195143 he195144 (by decide))).trans he195143
                          have he195184 : F195176 q194025 = .inr (20, [.int p194875, .int p171254, .int p171254, .int p194878, .int p194879, .int p194880, .int p194881]) := e195177
                          have hs195185 : rStr γ [1] F171251 F195176 := rStr_pu2 hs195145 n195178 ht194030 (by decide)
                          have fq195186 : F195176 q194025 = cF (F195136 q194025) 1 (.int p171254) := by rw [he195184, he195144]; rfl
                          obtain ⟨z195187, hz195187⟩ : ∃ z : Int32, z = g194830 + Int32.ofInt 1 := ⟨_, rfl⟩
                          have ez195187 : z195187.toInt = g194830.toInt + 1 := gI_inc hz195187 (by decide) bg194830' (by decide) (by decide)
                          have bz195187 : gB z195187 1 1000001 := ⟨by omega, by omega⟩
                          refine G_iinc (L' := [(5, .int z195187), (6, .ref q194025), (4, .ref q194014), (3, .int g193954), (0, .ref q171252), (1, .int p171253), (2, .int p171254)]) z195187 1 dr_cX17_rename_138 rfl hz195187.symm (Nat.le_of_ble_eq_true rfl) rfl ?_
                          refine G_goto 20 dr_cX17_rename_141 (by decide +kernel) ?_
                          have hT195188 : RS D I P171250 F195176 γ el := RS_set hT195147 n195178 ht194030 (by decide) ⟨p194875, p171254, p171254, p194878, p194879, p194880, p194881, he195184, bp194875, bp171254, bp194879, bp194880, bp194881, (by omega), (by omega), (by omega), (by omega), (by omega)⟩
                          refine G_lv (L' := [(5, .int z195187), (4, .ref q194014), (3, .int g193954), (0, .ref q171252), (1, .int p171253), (2, .int p171254)]) [0, 2, 3, 4, 5, 6] rfl ?_
                          exact ih20_194833 F195176 z195187 (gB_w bz195187 (by decide) (by decide)) hT195188 hs195185 (fun k e1 ht => kt20_194834 k e1 (fun R c1 c2 c3 c4 c5 c6 c7 c8 c9 c10 c11 c12 c13 c14 c15 c16 c17 c18 c19 c20 c21 c22 c23 c24 c25 c26 c27 c28 c29 c30 c31 c32 c33 c34 c35 c36 c37 c38 c39 c40 c41 c42 c43 c44 c45 c46 c47 c48 c49 c50 c51 c52 c53 c54 c55 => c22 F194831 g194830 q194024 p194845 q194025 p194875 p194880 o194894 p194877 F195136 p194881 o195155 o195165 p194876 F195176 z195187 k e1 bg194830 hT194832 hs194833 fq194841 fq194852 fq194853 r194863 fq194864 r194871 fq194872 fq194887 fq194888 bo194894 ht194896 r195015 fq195016 r195135 n195138 fq195146 fq195148 fq195149 bo195155 ht195157 r195159 bo195165 ht195166 r195170 fq195171 r195175 n195178 fq195186 ez195187 (ht R c1 c2 c3 c4 c5 c6 c7 c8 c9 c10 c11 c12 c13 c14 c15 c16 c17 c18 c19 c20 c21 c22 c23 c24 c25 c26 c27 c28 c29 c30 c31 c32 c33 c34 c35 c36 c37 c38 c39 c40 c41 c42 c43 c44 c45 c46 c47 c48 c49 c50 c51 c52 c53 c54 c55))) (by omega)
                    · have r195189 : o195155.toInt ≠ 0 := gj_neq hc195158 (show Int32.toInt 0 = 0 by decide)
                      have bo195155' : gB o195155 1 1 := ⟨by omega, by omega⟩
                      refine G_aload 0 dr_cX17_rename_100 rfl ?_
                      have fq195190 : fI (F195136 q194025) 3 = p194878 := by rw [he195144]; rfl
                      refine Gp_get 3 hm194873 he195144 dr_cX17_rename_102 (gk_X15 D I) (Nat.le_of_ble_eq_true rfl) wr_9_190 rfl ?_
                      refine G_iload_n 5 dr_cX17_rename_105 rfl ?_
                      refine G_icmp_ne 115 dr_cX17_rename_106 (by decide +kernel) (fun hc195191 => ?_) (fun hc195191 => ?_)
                      · have r195192 : p194878.toInt ≠ p171253.toInt := gC_ne hc195191
                        refine G_aload 0 dr_cX17_rename_115 rfl ?_
                        refine Gw_callV (As := []) (gV_ok D I) (cp_1660_Row_sets l hl0 D I P171250 F195136 q194025 p194875 p194876 p171254 p194878 p194879 p194880 p194881 hm194873 he195144 bp194875 bp194876 bp194879 bp194880 bp194881) dr_cX17_rename_117 ⟨wr_10_181, wr_1_39, wr_10_184, by decide, rfl, (Nat.le_of_ble_eq_true rfl), (Nat.le_of_ble_eq_true rfl)⟩ wr_10_182 wr_10_183 hm194873 he195144 rfl (show 0 + 0 ≤ 0 by first | omega | decide) (show 0 + 0 ≤ 0 by first | omega | decide) (Nat.le_of_ble_eq_true rfl) (fun r195196 w195197 dc195193 ds195194 hp195195 => ?_) (fun _ _ _ _ _ z => z.elim)
                        obtain ⟨o195198, rfl, rfl, hdc, hds, bo195198, ht195199⟩ := hp195195
                        change G _ _ _ _ _ _ _ (.int o195198 :: _) _ _ _
                        refine G_widen (cs' := 0) (sl' := 0) (by omega) (by omega) ?_
                        refine G_if_eq 138 dr_cX17_rename_120 (by decide +kernel) (fun hc195200 => ?_) (fun hc195200 => ?_)
                        · have r195201 : o195198.toInt = 0 := gj_eq hc195200 (show Int32.toInt 0 = 0 by decide)
                          have bo195198' : gB o195198 0 0 := ⟨by omega, by omega⟩
                          obtain ⟨z195202, hz195202⟩ : ∃ z : Int32, z = g194830 + Int32.ofInt 1 := ⟨_, rfl⟩
                          have ez195202 : z195202.toInt = g194830.toInt + 1 := gI_inc hz195202 (by decide) bg194830' (by decide) (by decide)
                          have bz195202 : gB z195202 1 1000001 := ⟨by omega, by omega⟩
                          refine G_iinc (L' := [(5, .int z195202), (6, .ref q194025), (4, .ref q194014), (3, .int g193954), (0, .ref q171252), (1, .int p171253), (2, .int p171254)]) z195202 1 dr_cX17_rename_138 rfl hz195202.symm (Nat.le_of_ble_eq_true rfl) rfl ?_
                          refine G_goto 20 dr_cX17_rename_141 (by decide +kernel) ?_
                          refine G_lv (L' := [(5, .int z195202), (4, .ref q194014), (3, .int g193954), (0, .ref q171252), (1, .int p171253), (2, .int p171254)]) [0, 2, 3, 4, 5, 6] rfl ?_
                          exact ih20_194833 F195136 z195202 (gB_w bz195202 (by decide) (by decide)) hT195147 hs195145 (fun k e1 ht => kt20_194834 k e1 (fun R c1 c2 c3 c4 c5 c6 c7 c8 c9 c10 c11 c12 c13 c14 c15 c16 c17 c18 c19 c20 c21 c22 c23 c24 c25 c26 c27 c28 c29 c30 c31 c32 c33 c34 c35 c36 c37 c38 c39 c40 c41 c42 c43 c44 c45 c46 c47 c48 c49 c50 c51 c52 c53 c54 c55 => c23 F194831 g194830 q194024 p194845 q194025 p194875 p194880 o194894 p194877 F195136 p194881 o195155 p194878 o195198 z195202 k e1 bg194830 hT194832 hs194833 fq194841 fq194852 fq194853 r194863 fq194864 r194871 fq194872 fq194887 fq194888 bo194894 ht194896 r195015 fq195016 r195135 n195138 fq195146 fq195148 fq195149 bo195155 ht195157 r195189 fq195190 r195192 bo195198 ht195199 r195201 ez195202 (ht R c1 c2 c3 c4 c5 c6 c7 c8 c9 c10 c11 c12 c13 c14 c15 c16 c17 c18 c19 c20 c21 c22 c23 c24 c25 c26 c27 c28 c29 c30 c31 c32 c33 c34 c35 c36 c37 c38 c39 c40 c41 c42 c43 c44 c45 c46 c47 c48 c49 c50 c51 c52 c53 c54 c55))) (by omega)
                        · have r195203 : o195198.toInt ≠ 0 := gj_neq hc195200 (show Int32.toInt 0 = 0 by decide)
                          have bo195198' : gB o195198 1 1 := ⟨by omega, by omega⟩
                          refine G_aload 0 dr_cX17_rename_123 rfl ?_
                          have fq195204 : fI (F195136 q194025) 1 = p194876 := by rw [he195144]; rfl
                          refine Gp_get 1 hm194873 he195144 dr_cX17_rename_125 (gk_X15 D I) (Nat.le_of_ble_eq_true rfl) wr_9_182 rfl ?_
                          refine G_iload_n 5 dr_cX17_rename_128 rfl ?_
                          refine G_icmp_ne 138 dr_cX17_rename_129 (by decide +kernel) (fun hc195205 => ?_) (fun hc195205 => ?_)
                          · have r195206 : p194876.toInt ≠ p171253.toInt := gC_ne hc195205
                            obtain ⟨z195207, hz195207⟩ : ∃ z : Int32, z = g194830 + Int32.ofInt 1 := ⟨_, rfl⟩
                            have ez195207 : z195207.toInt = g194830.toInt + 1 := gI_inc hz195207 (by decide) bg194830' (by decide) (by decide)
                            have bz195207 : gB z195207 1 1000001 := ⟨by omega, by omega⟩
                            refine G_iinc (L' := [(5, .int z195207), (6, .ref q194025), (4, .ref q194014), (3, .int g193954), (0, .ref q171252), (1, .int p171253), (2, .int p171254)]) z195207 1 dr_cX17_rename_138 rfl hz195207.symm (Nat.le_of_ble_eq_true rfl) rfl ?_
                            refine G_goto 20 dr_cX17_rename_141 (by decide +kernel) ?_
                            refine G_lv (L' := [(5, .int z195207), (4, .ref q194014), (3, .int g193954), (0, .ref q171252), (1, .int p171253), (2, .int p171254)]) [0, 2, 3, 4, 5, 6] rfl ?_
                            exact ih20_194833 F195136 z195207 (gB_w bz195207 (by decide) (by decide)) hT195147 hs195145 (fun k e1 ht => kt20_194834 k e1 (fun R c1 c2 c3 c4 c5 c6 c7 c8 c9 c10 c11 c12 c13 c14 c15 c16 c17 c18 c19 c20 c21 c22 c23 c24 c25 c26 c27 c28 c29 c30 c31 c32 c33 c34 c35 c36 c37 c38 c39 c40 c41 c42 c43 c44 c45 c46 c47 c48 c49 c50 c51 c52 c53 c54 c55 => c24 F194831 g194830 q194024 p194845 q194025 p194875 p194880 o194894 p194877 F195136 p194881 o195155 p194878 o195198 p194876 z195207 k e1 bg194830 hT194832 hs194833 fq194841 fq194852 fq194853 r194863 fq194864 r194871 fq194872 fq194887 fq194888 bo194894 ht194896 r195015 fq195016 r195135 n195138 fq195146 fq195148 fq195149 bo195155 ht195157 r195189 fq195190 r195192 bo195198 ht195199 r195203 fq195204 r195206 ez195207 (ht R c1 c2 c3 c4 c5 c6 c7 c8 c9 c10 c11 c12 c13 c14 c15 c16 c17 c18 c19 c20 c21 c22 c23 c24 c25 c26 c27 c28 c29 c30 c31 c32 c33 c34 c35 c36 c37 c38 c39 c40 c41 c42 c43 c44 c45 c46 c47 c48 c49 c50 c51 c52 c53 c54 c55))) (by omega)
                          · have r195208 : p194876.toInt = p171253.toInt := gC_eq hc195205
                            refine G_aload 0 dr_cX17_rename_132 rfl ?_
                            refine G_iload_n 6 dr_cX17_rename_134 rfl ?_
                            refine Gp_put 1 hm194873 he195144 dr_cX17_rename_135 (gk_X15 D I) (Nat.le_of_ble_eq_true rfl) wr_9_182 rfl rfl rfl (Nat.le_of_ble_eq_true rfl) (fun F195209 e195210 n195211 => ?_)
                            have he195212 : F195209 q171252 = .inr (18, [.ref q193963, .ref q193964, .int p193965, .int p193966]) := (n195211 q171252 (rn_oo he195139 he195144 (by decide))).trans he195139
                            have he195213 : F195209 q193963 = .inr (4, [.int p193995, .ref q193997, .int p193996]) := (n195211 q193963 (rn_oo he195140 he195144 (by decide))).trans he195140
                            have he195214 : F195209 q193997 = .inl (I (.object "java/lang/Object"), n194011, .inr (.inr (.inr (.inr f194012)))) := (n195211 q193997 (rn_ao he195141 he195144)).trans he195141
                            have he195215 : F195209 q194014 = .inr (17, [.ref q194024, .ref q194025, .int p194026, .int p194027]) := (n195211 q194014 (rn_oo he195142 he195144 (by decide))).trans he195142
                            have he195216 : F195209 q194024 = .inr (4, [.int p194844, .ref q194846, .int p194845]) := (n195211 q194024 (rn_oo he195143 he195144 (by decide))).trans he195143
                            have he195217 : F195209 q194025 = .inr (20, [.int p194875, .int p171254, .int p171254, .int p194878, .int p194879, .int p194880, .int p194881]) := e195210
                            have hs195218 : rStr γ [1] F171251 F195209 := rStr_pu2 hs195145 n195211 ht194030 (by decide)
                            have fq195219 : F195209 q194025 = cF (F195136 q194025) 1 (.int p171254) := by rw [he195217, he195144]; rfl
                            obtain ⟨z195220, hz195220⟩ : ∃ z : Int32, z = g194830 + Int32.ofInt 1 := ⟨_, rfl⟩
                            have ez195220 : z195220.toInt = g194830.toInt + 1 := gI_inc hz195220 (by decide) bg194830' (by decide) (by decide)
                            have bz195220 : gB z195220 1 1000001 := ⟨by omega, by omega⟩
                            refine G_iinc (L' := [(5, .int z195220), (6, .ref q194025), (4, .ref q194014), (3, .int g193954), (0, .ref q171252), (1, .int p171253), (2, .int p171254)]) z195220 1 dr_cX17_rename_138 rfl hz195220.symm (Nat.le_of_ble_eq_true rfl) rfl ?_
                            refine G_goto 20 dr_cX17_rename_141 (by decide +kernel) ?_
                            have hT195221 : RS D I P171250 F195209 γ el := RS_set hT195147 n195211 ht194030 (by decide) ⟨p194875, p171254, p171254, p194878, p194879, p194880, p194881, he195217, bp194875, bp171254, bp194879, bp194880, bp194881, (by omega), (by omega), (by omega), (by omega), (by omega)⟩
                            refine G_lv (L' := [(5, .int z195220), (4, .ref q194014), (3, .int g193954), (0, .ref q171252), (1, .int p171253), (2, .int p171254)]) [0, 2, 3, 4, 5, 6] rfl ?_
                            exact ih20_194833 F195209 z195220 (gB_w bz195220 (by decide) (by decide)) hT195221 hs195218 (fun k e1 ht => kt20_194834 k e1 (fun R c1 c2 c3 c4 c5 c6 c7 c8 c9 c10 c11 c12 c13 c14 c15 c16 c17 c18 c19 c20 c21 c22 c23 c24 c25 c26 c27 c28 c29 c30 c31 c32 c33 c34 c35 c36 c37 c38 c39 c40 c41 c42 c43 c44 c45 c46 c47 c48 c49 c50 c51 c52 c53 c54 c55 => c25 F194831 g194830 q194024 p194845 q194025 p194875 p194880 o194894 p194877 F195136 p194881 o195155 p194878 o195198 p194876 F195209 z195220 k e1 bg194830 hT194832 hs194833 fq194841 fq194852 fq194853 r194863 fq194864 r194871 fq194872 fq194887 fq194888 bo194894 ht194896 r195015 fq195016 r195135 n195138 fq195146 fq195148 fq195149 bo195155 ht195157 r195189 fq195190 r195192 bo195198 ht195199 r195203 fq195204 r195208 n195211 fq195219 ez195220 (ht R c1 c2 c3 c4 c5 c6 c7 c8 c9 c10 c11 c12 c13 c14 c15 c16 c17 c18 c19 c20 c21 c22 c23 c24 c25 c26 c27 c28 c29 c30 c31 c32 c33 c34 c35 c36 c37 c38 c39 c40 c41 c42 c43 c44 c45 c46 c47 c48 c49 c50 c51 c52 c53 c54 c55))) (by omega)
                      · have r195222 : p194878.toInt = p171253.toInt := gC_eq hc195191
                        have bp194878' : gB p194878 0 1999 := ⟨by omega, by omega⟩
                        refine G_aload 0 dr_cX17_rename_109 rfl ?_
                        refine G_iload_n 6 dr_cX17_rename_111 rfl ?_
                        refine Gp_put 3 hm194873 he195144 dr_cX17_rename_112 (gk_X15 D I) (Nat.le_of_ble_eq_true rfl) wr_9_190 rfl rfl rfl (Nat.le_of_ble_eq_true rfl) (fun F195223 e195224 n195225 => ?_)
                        have he195226 : F195223 q171252 = .inr (18, [.ref q193963, .ref q193964, .int p193965, .int p193966]) := (n195225 q171252 (rn_oo he195139 he195144 (by decide))).trans he195139
                        have he195227 : F195223 q193963 = .inr (4, [.int p193995, .ref q193997, .int p193996]) := (n195225 q193963 (rn_oo he195140 he195144 (by decide))).trans he195140
                        have he195228 : F195223 q193997 = .inl (I (.object "java/lang/Object"), n194011, .inr (.inr (.inr (.inr f194012)))) := (n195225 q193997 (rn_ao he195141 he195144)).trans he195141
                        have he195229 : F195223 q194014 = .inr (17, [.ref q194024, .ref q194025, .int p194026, .int p194027]) := (n195225 q194014 (rn_oo he195142 he195144 (by decide))).trans he195142
                        have he195230 : F195223 q194024 = .inr (4, [.int p194844, .ref q194846, .int p194845]) := (n195225 q194024 (rn_oo he195143 he195144 (by decide))).trans he195143
                        have he195231 : F195223 q194025 = .inr (20, [.int p194875, .int p194876, .int p171254, .int p171254, .int p194879, .int p194880, .int p194881]) := e195224
                        have hs195232 : rStr γ [1] F171251 F195223 := rStr_pu2 hs195145 n195225 ht194030 (by decide)
                        have fq195233 : F195223 q194025 = cF (F195136 q194025) 3 (.int p171254) := by rw [he195231, he195144]; rfl
                        refine G_aload 0 dr_cX17_rename_115 rfl ?_
                        have hT195234 : RS D I P171250 F195223 γ el := RS_set hT195147 n195225 ht194030 (by decide) ⟨p194875, p194876, p171254, p171254, p194879, p194880, p194881, he195231, bp194875, bp194876, bp194879, bp194880, bp194881, (by omega), (by omega), (by omega), (by omega), (by omega)⟩
                        have fq195235 : fI (F195223 q194025) 0 = p194875 := by rw [he195231]; rfl
                        refine Gw_callV (As := []) (gV_ok D I) (cp_1660_Row_sets l hl0 D I P171250 F195223 q194025 p194875 p194876 p171254 p171254 p194879 p194880 p194881 hm194873 he195231 bp194875 bp194876 bp194879 bp194880 bp194881) dr_cX17_rename_117 ⟨wr_10_181, wr_1_39, wr_10_184, by decide, rfl, (Nat.le_of_ble_eq_true rfl), (Nat.le_of_ble_eq_true rfl)⟩ wr_10_182 wr_10_183 hm194873 he195231 rfl (show 0 + 0 ≤ 0 by first | omega | decide) (show 0 + 0 ≤ 0 by first | omega | decide) (Nat.le_of_ble_eq_true rfl) (fun r195239 w195240 dc195236 ds195237 hp195238 => ?_) (fun _ _ _ _ _ z => z.elim)
                        obtain ⟨o195241, rfl, rfl, hdc, hds, bo195241, ht195242⟩ := hp195238
                        change G _ _ _ _ _ _ _ (.int o195241 :: _) _ _ _
                        refine G_widen (cs' := 0) (sl' := 0) (by omega) (by omega) ?_
                        refine G_if_eq 138 dr_cX17_rename_120 (by decide +kernel) (fun hc195243 => ?_) (fun hc195243 => ?_)
                        · have r195244 : o195241.toInt = 0 := gj_eq hc195243 (show Int32.toInt 0 = 0 by decide)
                          have bo195241' : gB o195241 0 0 := ⟨by omega, by omega⟩
                          obtain ⟨z195245, hz195245⟩ : ∃ z : Int32, z = g194830 + Int32.ofInt 1 := ⟨_, rfl⟩
                          have ez195245 : z195245.toInt = g194830.toInt + 1 := gI_inc hz195245 (by decide) bg194830' (by decide) (by decide)
                          have bz195245 : gB z195245 1 1000001 := ⟨by omega, by omega⟩
                          refine G_iinc (L' := [(5, .int z195245), (6, .ref q194025), (4, .ref q194014), (3, .int g193954), (0, .ref q171252), (1, .int p171253), (2, .int p171254)]) z195245 1 dr_cX17_rename_138 rfl hz195245.symm (Nat.le_of_ble_eq_true rfl) rfl ?_
                          refine G_goto 20 dr_cX17_rename_141 (by decide +kernel) ?_
                          refine G_lv (L' := [(5, .int z195245), (4, .ref q194014), (3, .int g193954), (0, .ref q171252), (1, .int p171253), (2, .int p171254)]) [0, 2, 3, 4, 5, 6] rfl ?_
                          exact ih20_194833 F195223 z195245 (gB_w bz195245 (by decide) (by decide)) hT195234 hs195232 (fun k e1 ht => kt20_194834 k e1 (fun R c1 c2 c3 c4 c5 c6 c7 c8 c9 c10 c11 c12 c13 c14 c15 c16 c17 c18 c19 c20 c21 c22 c23 c24 c25 c26 c27 c28 c29 c30 c31 c32 c33 c34 c35 c36 c37 c38 c39 c40 c41 c42 c43 c44 c45 c46 c47 c48 c49 c50 c51 c52 c53 c54 c55 => c26 F194831 g194830 q194024 p194845 q194025 p194875 p194880 o194894 p194877 F195136 p194881 o195155 p194878 F195223 o195241 z195245 k e1 bg194830 hT194832 hs194833 fq194841 fq194852 fq194853 r194863 fq194864 r194871 fq194872 fq194887 fq194888 bo194894 ht194896 r195015 fq195016 r195135 n195138 fq195146 fq195148 fq195149 bo195155 ht195157 r195189 fq195190 r195222 n195225 fq195233 fq195235 bo195241 ht195242 r195244 ez195245 (ht R c1 c2 c3 c4 c5 c6 c7 c8 c9 c10 c11 c12 c13 c14 c15 c16 c17 c18 c19 c20 c21 c22 c23 c24 c25 c26 c27 c28 c29 c30 c31 c32 c33 c34 c35 c36 c37 c38 c39 c40 c41 c42 c43 c44 c45 c46 c47 c48 c49 c50 c51 c52 c53 c54 c55))) (by omega)
                        · have r195246 : o195241.toInt ≠ 0 := gj_neq hc195243 (show Int32.toInt 0 = 0 by decide)
                          have bo195241' : gB o195241 1 1 := ⟨by omega, by omega⟩
                          refine G_aload 0 dr_cX17_rename_123 rfl ?_
                          have fq195247 : fI (F195223 q194025) 1 = p194876 := by rw [he195231]; rfl
                          refine Gp_get 1 hm194873 he195231 dr_cX17_rename_125 (gk_X15 D I) (Nat.le_of_ble_eq_true rfl) wr_9_182 rfl ?_
                          refine G_iload_n 5 dr_cX17_rename_128 rfl ?_
                          refine G_icmp_ne 138 dr_cX17_rename_129 (by decide +kernel) (fun hc195248 => ?_) (fun hc195248 => ?_)
                          · have r195249 : p194876.toInt ≠ p171253.toInt := gC_ne hc195248
                            obtain ⟨z195250, hz195250⟩ : ∃ z : Int32, z = g194830 + Int32.ofInt 1 := ⟨_, rfl⟩
                            have ez195250 : z195250.toInt = g194830.toInt + 1 := gI_inc hz195250 (by decide) bg194830' (by decide) (by decide)
                            have bz195250 : gB z195250 1 1000001 := ⟨by omega, by omega⟩
                            refine G_iinc (L' := [(5, .int z195250), (6, .ref q194025), (4, .ref q194014), (3, .int g193954), (0, .ref q171252), (1, .int p171253), (2, .int p171254)]) z195250 1 dr_cX17_rename_138 rfl hz195250.symm (Nat.le_of_ble_eq_true rfl) rfl ?_
                            refine G_goto 20 dr_cX17_rename_141 (by decide +kernel) ?_
                            refine G_lv (L' := [(5, .int z195250), (4, .ref q194014), (3, .int g193954), (0, .ref q171252), (1, .int p171253), (2, .int p171254)]) [0, 2, 3, 4, 5, 6] rfl ?_
                            exact ih20_194833 F195223 z195250 (gB_w bz195250 (by decide) (by decide)) hT195234 hs195232 (fun k e1 ht => kt20_194834 k e1 (fun R c1 c2 c3 c4 c5 c6 c7 c8 c9 c10 c11 c12 c13 c14 c15 c16 c17 c18 c19 c20 c21 c22 c23 c24 c25 c26 c27 c28 c29 c30 c31 c32 c33 c34 c35 c36 c37 c38 c39 c40 c41 c42 c43 c44 c45 c46 c47 c48 c49 c50 c51 c52 c53 c54 c55 => c27 F194831 g194830 q194024 p194845 q194025 p194875 p194880 o194894 p194877 F195136 p194881 o195155 p194878 F195223 o195241 p194876 z195250 k e1 bg194830 hT194832 hs194833 fq194841 fq194852 fq194853 r194863 fq194864 r194871 fq194872 fq194887 fq194888 bo194894 ht194896 r195015 fq195016 r195135 n195138 fq195146 fq195148 fq195149 bo195155 ht195157 r195189 fq195190 r195222 n195225 fq195233 fq195235 bo195241 ht195242 r195246 fq195247 r195249 ez195250 (ht R c1 c2 c3 c4 c5 c6 c7 c8 c9 c10 c11 c12 c13 c14 c15 c16 c17 c18 c19 c20 c21 c22 c23 c24 c25 c26 c27 c28 c29 c30 c31 c32 c33 c34 c35 c36 c37 c38 c39 c40 c41 c42 c43 c44 c45 c46 c47 c48 c49 c50 c51 c52 c53 c54 c55))) (by omega)
                          · have r195251 : p194876.toInt = p171253.toInt := gC_eq hc195248
                            refine G_aload 0 dr_cX17_rename_132 rfl ?_
                            refine G_iload_n 6 dr_cX17_rename_134 rfl ?_
                            refine Gp_put 1 hm194873 he195231 dr_cX17_rename_135 (gk_X15 D I) (Nat.le_of_ble_eq_true rfl) wr_9_182 rfl rfl rfl (Nat.le_of_ble_eq_true rfl) (fun F195252 e195253 n195254 => ?_)
                            have he195255 : F195252 q171252 = .inr (18, [.ref q193963, .ref q193964, .int p193965, .int p193966]) := (n195254 q171252 (rn_oo he195226 he195231 (by decide))).trans he195226
                            have he195256 : F195252 q193963 = .inr (4, [.int p193995, .ref q193997, .int p193996]) := (n195254 q193963 (rn_oo he195227 he195231 (by decide))).trans he195227
                            have he195257 : F195252 q193997 = .inl (I (.object "java/lang/Object"), n194011, .inr (.inr (.inr (.inr f194012)))) := (n195254 q193997 (rn_ao he195228 he195231)).trans he195228
                            have he195258 : F195252 q194014 = .inr (17, [.ref q194024, .ref q194025, .int p194026, .int p194027]) := (n195254 q194014 (rn_oo he195229 he195231 (by decide))).trans he195229
                            have he195259 : F195252 q194024 = .inr (4, [.int p194844, .ref q194846, .int p194845]) := (n195254 q194024 (rn_oo he195230 he195231 (by decide))).trans he195230
                            have he195260 : F195252 q194025 = .inr (20, [.int p194875, .int p171254, .int p171254, .int p171254, .int p194879, .int p194880, .int p194881]) := e195253
                            have hs195261 : rStr γ [1] F171251 F195252 := rStr_pu2 hs195232 n195254 ht194030 (by decide)
                            have fq195262 : F195252 q194025 = cF (F195223 q194025) 1 (.int p171254) := by rw [he195260, he195231]; rfl
                            obtain ⟨z195263, hz195263⟩ : ∃ z : Int32, z = g194830 + Int32.ofInt 1 := ⟨_, rfl⟩
                            have ez195263 : z195263.toInt = g194830.toInt + 1 := gI_inc hz195263 (by decide) bg194830' (by decide) (by decide)
                            have bz195263 : gB z195263 1 1000001 := ⟨by omega, by omega⟩
                            refine G_iinc (L' := [(5, .int z195263), (6, .ref q194025), (4, .ref q194014), (3, .int g193954), (0, .ref q171252), (1, .int p171253), (2, .int p171254)]) z195263 1 dr_cX17_rename_138 rfl hz195263.symm (Nat.le_of_ble_eq_true rfl) rfl ?_
                            refine G_goto 20 dr_cX17_rename_141 (by decide +kernel) ?_
                            have hT195264 : RS D I P171250 F195252 γ el := RS_set hT195234 n195254 ht194030 (by decide) ⟨p194875, p171254, p171254, p171254, p194879, p194880, p194881, he195260, bp194875, bp171254, bp194879, bp194880, bp194881, (by omega), (by omega), (by omega), (by omega), (by omega)⟩
                            refine G_lv (L' := [(5, .int z195263), (4, .ref q194014), (3, .int g193954), (0, .ref q171252), (1, .int p171253), (2, .int p171254)]) [0, 2, 3, 4, 5, 6] rfl ?_
                            exact ih20_194833 F195252 z195263 (gB_w bz195263 (by decide) (by decide)) hT195264 hs195261 (fun k e1 ht => kt20_194834 k e1 (fun R c1 c2 c3 c4 c5 c6 c7 c8 c9 c10 c11 c12 c13 c14 c15 c16 c17 c18 c19 c20 c21 c22 c23 c24 c25 c26 c27 c28 c29 c30 c31 c32 c33 c34 c35 c36 c37 c38 c39 c40 c41 c42 c43 c44 c45 c46 c47 c48 c49 c50 c51 c52 c53 c54 c55 => c28 F194831 g194830 q194024 p194845 q194025 p194875 p194880 o194894 p194877 F195136 p194881 o195155 p194878 F195223 o195241 p194876 F195252 z195263 k e1 bg194830 hT194832 hs194833 fq194841 fq194852 fq194853 r194863 fq194864 r194871 fq194872 fq194887 fq194888 bo194894 ht194896 r195015 fq195016 r195135 n195138 fq195146 fq195148 fq195149 bo195155 ht195157 r195189 fq195190 r195222 n195225 fq195233 fq195235 bo195241 ht195242 r195246 fq195247 r195251 n195254 fq195262 ez195263 (ht R c1 c2 c3 c4 c5 c6 c7 c8 c9 c10 c11 c12 c13 c14 c15 c16 c17 c18 c19 c20 c21 c22 c23 c24 c25 c26 c27 c28 c29 c30 c31 c32 c33 c34 c35 c36 c37 c38 c39 c40 c41 c42 c43 c44 c45 c46 c47 c48 c49 c50 c51 c52 c53 c54 c55))) (by omega)
              · have r195265 : g194830.toInt < p194845.toInt := gC_nle hc194870
                have bg194830'' : gB g194830 0 999999 := ⟨by omega, by omega⟩
                have bp194845' : gB p194845 1 1000000 := ⟨by omega, by omega⟩
                refine G_aload 1 dr_cX17_rename_46 rfl ?_
                refine Gp_get 0 hm194022 he194839 dr_cX17_rename_48 (gk_X12 D I) (Nat.le_of_ble_eq_true rfl) wr_9_220 rfl ?_
                refine G_iload 0 dr_cX17_rename_51 rfl ?_
                obtain ⟨r195266, r195267, n195274, f195275, r195268, r195269, r195270, r195271, r195272, r195273⟩ := rLC_n r194849 (by omega)
                have hm195276 : q194846 ∈ P171250 := RS_m hT194832 r195266 (by decide)
                obtain ⟨q195277, hx195278⟩ : ∃ x, x = el q194024 g194830.toInt.toNat := ⟨_, rfl⟩
                have hx195279 : f195275 g194830.toNatClampNeg = some q195277 := (r195272 _ (show g194830.toInt.toNat < γ 2 q194024 by omega)).trans (by rw [hx195278])
                have ht195280 : rKd γ q195277 1 := by rw [hx195278]; exact (r194850 _ (show g194830.toInt.toNat < γ 2 q194024 by omega)).1
                have ht195281 : rFm γ q195277 q194024 := by rw [hx195278]; exact (r194850 _ (show g194830.toInt.toNat < γ 2 q194024 by omega)).2.1
                refine Gw_callV (As := [.int g194830]) (gV_ok D I) (cp_22_ArrayList_get l hl0 D I P171250 F194831 q194024 q194846 g194830 p194844 p194845 f195275 n195274 q195277 hm194842 hm195276 he194843 r195268 (gB_w bg194830'' (by decide) (by decide)) (gB_w bp194845' (by decide) (by decide)) (by omega) (by omega) (by assumption) (by omega)) dr_cX17_rename_53 ⟨wr_10_201, wr_1_18, wr_10_65, by decide, rfl, (Nat.le_of_ble_eq_true rfl), (Nat.le_of_ble_eq_true rfl)⟩ wr_10_63 wr_10_64 hm194842 he194843 rfl (show 0 + 0 ≤ 0 by first | omega | decide) (show 0 + 0 ≤ 0 by first | omega | decide) (Nat.le_of_ble_eq_true rfl) (fun r195285 w195286 dc195282 ds195283 hp195284 => ?_) (fun _ _ _ _ _ z => z.elim)
                obtain ⟨rfl, rfl, hdc, hds, ht195287⟩ := hp195284
                change G _ _ _ _ _ _ _ (.ref q195277 :: _) _ _ _
                refine G_widen (cs' := 0) (sl' := 0) (by omega) (by omega) ?_
                have hm195288 : q195277 ∈ P171250 := RS_m hT194832 ht195280 (by decide)
                obtain ⟨p195290, p195291, p195292, p195293, p195294, p195295, p195296, he195289, bp195290, bp195291, bp195294, bp195295, bp195296, r195297, r195298, r195299, r195300, r195301⟩ := show rk_1 γ q195277 (F194831 q195277) from RS_o hT194832 ht195280
                have bp195292 := gB_any p195292
                have bp195293 := gB_any p195293
                refine Gp_cast hm195288 he195289 rfl dr_cX17_rename_56 wr_10_202 (gr_cast 1 rfl) ?_
                refine G_goto 67 dr_cX17_rename_59 (by decide +kernel) ?_
                refine G_astore (L' := [(6, .ref q195277), (5, .int g194830), (4, .ref q194014), (3, .int g193954), (0, .ref q171252), (1, .int p171253), (2, .int p171254)]) dr_cX17_rename_67 (Nat.le_of_ble_eq_true rfl) rfl ?_
                refine G_aload 0 dr_cX17_rename_69 rfl ?_
                have fq195302 : fI (F194831 q195277) 0 = p195290 := by rw [he195289]; rfl
                have fq195303 : fI (F194831 q195277) 5 = p195295 := by rw [he195289]; rfl
                refine Gw_callV (As := []) (gV_ok D I) (cp_1675_Row_usesA l hl0 D I P171250 F194831 q195277 p195290 p195291 p195292 p195293 p195294 p195295 p195296 hm195288 he195289 bp195290 bp195291 bp195294 bp195295 bp195296) dr_cX17_rename_71 ⟨wr_10_192, wr_1_39, wr_10_195, by decide, rfl, (Nat.le_of_ble_eq_true rfl), (Nat.le_of_ble_eq_true rfl)⟩ wr_10_193 wr_10_194 hm195288 he195289 rfl (show 0 + 0 ≤ 0 by first | omega | decide) (show 0 + 0 ≤ 0 by first | omega | decide) (Nat.le_of_ble_eq_true rfl) (fun r195307 w195308 dc195304 ds195305 hp195306 => ?_) (fun _ _ _ _ _ z => z.elim)
                obtain ⟨o195309, rfl, rfl, hdc, hds, bo195309, x195310, ht195311⟩ := hp195306
                change G _ _ _ _ _ _ _ (.int o195309 :: _) _ _ _
                refine G_widen (cs' := 0) (sl' := 0) (by omega) (by omega) ?_
                refine G_if_eq 92 dr_cX17_rename_74 (by decide +kernel) (fun hc195312 => ?_) (fun hc195312 => ?_)
                · have r195313 : o195309.toInt = 0 := gj_eq hc195312 (show Int32.toInt 0 = 0 by decide)
                  have bo195309' : gB o195309 0 0 := ⟨by omega, by omega⟩
                  refine G_aload 0 dr_cX17_rename_92 rfl ?_
                  have fq195314 : fI (F194831 q195277) 6 = p195296 := by rw [he195289]; rfl
                  refine Gw_callV (As := []) (gV_ok D I) (cp_1699_Row_usesB l hl0 D I P171250 F194831 q195277 p195290 p195291 p195292 p195293 p195294 p195295 p195296 hm195288 he195289 bp195290 bp195291 bp195294 bp195295 bp195296) dr_cX17_rename_94 ⟨wr_10_196, wr_1_39, wr_10_199, by decide, rfl, (Nat.le_of_ble_eq_true rfl), (Nat.le_of_ble_eq_true rfl)⟩ wr_10_197 wr_10_198 hm195288 he195289 rfl (show 0 + 0 ≤ 0 by first | omega | decide) (show 0 + 0 ≤ 0 by first | omega | decide) (Nat.le_of_ble_eq_true rfl) (fun r195318 w195319 dc195315 ds195316 hp195317 => ?_) (fun _ _ _ _ _ z => z.elim)
                  obtain ⟨o195320, rfl, rfl, hdc, hds, bo195320, x195321, ht195322⟩ := hp195317
                  change G _ _ _ _ _ _ _ (.int o195320 :: _) _ _ _
                  refine G_widen (cs' := 0) (sl' := 0) (by omega) (by omega) ?_
                  refine G_if_eq 115 dr_cX17_rename_97 (by decide +kernel) (fun hc195323 => ?_) (fun hc195323 => ?_)
                  · have r195324 : o195320.toInt = 0 := gj_eq hc195323 (show Int32.toInt 0 = 0 by decide)
                    have bo195320' : gB o195320 0 0 := ⟨by omega, by omega⟩
                    refine G_aload 0 dr_cX17_rename_115 rfl ?_
                    refine Gw_callV (As := []) (gV_ok D I) (cp_1660_Row_sets l hl0 D I P171250 F194831 q195277 p195290 p195291 p195292 p195293 p195294 p195295 p195296 hm195288 he195289 bp195290 bp195291 bp195294 bp195295 bp195296) dr_cX17_rename_117 ⟨wr_10_181, wr_1_39, wr_10_184, by decide, rfl, (Nat.le_of_ble_eq_true rfl), (Nat.le_of_ble_eq_true rfl)⟩ wr_10_182 wr_10_183 hm195288 he195289 rfl (show 0 + 0 ≤ 0 by first | omega | decide) (show 0 + 0 ≤ 0 by first | omega | decide) (Nat.le_of_ble_eq_true rfl) (fun r195328 w195329 dc195325 ds195326 hp195327 => ?_) (fun _ _ _ _ _ z => z.elim)
                    obtain ⟨o195330, rfl, rfl, hdc, hds, bo195330, ht195331⟩ := hp195327
                    change G _ _ _ _ _ _ _ (.int o195330 :: _) _ _ _
                    refine G_widen (cs' := 0) (sl' := 0) (by omega) (by omega) ?_
                    refine G_if_eq 138 dr_cX17_rename_120 (by decide +kernel) (fun hc195332 => ?_) (fun hc195332 => ?_)
                    · have r195333 : o195330.toInt = 0 := gj_eq hc195332 (show Int32.toInt 0 = 0 by decide)
                      have bo195330' : gB o195330 0 0 := ⟨by omega, by omega⟩
                      obtain ⟨z195334, hz195334⟩ : ∃ z : Int32, z = g194830 + Int32.ofInt 1 := ⟨_, rfl⟩
                      have ez195334 : z195334.toInt = g194830.toInt + 1 := gI_inc hz195334 (by decide) bg194830'' (by decide) (by decide)
                      have bz195334 : gB z195334 1 1000000 := ⟨by omega, by omega⟩
                      refine G_iinc (L' := [(5, .int z195334), (6, .ref q195277), (4, .ref q194014), (3, .int g193954), (0, .ref q171252), (1, .int p171253), (2, .int p171254)]) z195334 1 dr_cX17_rename_138 rfl hz195334.symm (Nat.le_of_ble_eq_true rfl) rfl ?_
                      refine G_goto 20 dr_cX17_rename_141 (by decide +kernel) ?_
                      refine G_lv (L' := [(5, .int z195334), (4, .ref q194014), (3, .int g193954), (0, .ref q171252), (1, .int p171253), (2, .int p171254)]) [0, 2, 3, 4, 5, 6] rfl ?_
                      exact ih20_194833 F194831 z195334 (gB_w bz195334 (by decide) (by decide)) hT194832 hs194833 (fun k e1 ht => kt20_194834 k e1 (fun R c1 c2 c3 c4 c5 c6 c7 c8 c9 c10 c11 c12 c13 c14 c15 c16 c17 c18 c19 c20 c21 c22 c23 c24 c25 c26 c27 c28 c29 c30 c31 c32 c33 c34 c35 c36 c37 c38 c39 c40 c41 c42 c43 c44 c45 c46 c47 c48 c49 c50 c51 c52 c53 c54 c55 => c29 F194831 g194830 q194024 p194845 q195277 p195290 p195295 o195309 p195296 o195320 o195330 z195334 k e1 bg194830 hT194832 hs194833 fq194841 fq194852 fq194853 r194863 fq194864 r195265 hx195278 ht195287 fq195302 fq195303 bo195309 ht195311 r195313 fq195314 bo195320 ht195322 r195324 bo195330 ht195331 r195333 ez195334 (ht R c1 c2 c3 c4 c5 c6 c7 c8 c9 c10 c11 c12 c13 c14 c15 c16 c17 c18 c19 c20 c21 c22 c23 c24 c25 c26 c27 c28 c29 c30 c31 c32 c33 c34 c35 c36 c37 c38 c39 c40 c41 c42 c43 c44 c45 c46 c47 c48 c49 c50 c51 c52 c53 c54 c55))) (by omega)
                    · have r195335 : o195330.toInt ≠ 0 := gj_neq hc195332 (show Int32.toInt 0 = 0 by decide)
                      have bo195330' : gB o195330 1 1 := ⟨by omega, by omega⟩
                      refine G_aload 0 dr_cX17_rename_123 rfl ?_
                      have fq195336 : fI (F194831 q195277) 1 = p195291 := by rw [he195289]; rfl
                      refine Gp_get 1 hm195288 he195289 dr_cX17_rename_125 (gk_X15 D I) (Nat.le_of_ble_eq_true rfl) wr_9_182 rfl ?_
                      refine G_iload_n 5 dr_cX17_rename_128 rfl ?_
                      refine G_icmp_ne 138 dr_cX17_rename_129 (by decide +kernel) (fun hc195337 => ?_) (fun hc195337 => ?_)
                      · have r195338 : p195291.toInt ≠ p171253.toInt := gC_ne hc195337
                        obtain ⟨z195339, hz195339⟩ : ∃ z : Int32, z = g194830 + Int32.ofInt 1 := ⟨_, rfl⟩
                        have ez195339 : z195339.toInt = g194830.toInt + 1 := gI_inc hz195339 (by decide) bg194830'' (by decide) (by decide)
                        have bz195339 : gB z195339 1 1000000 := ⟨by omega, by omega⟩
                        refine G_iinc (L' := [(5, .int z195339), (6, .ref q195277), (4, .ref q194014), (3, .int g193954), (0, .ref q171252), (1, .int p171253), (2, .int p171254)]) z195339 1 dr_cX17_rename_138 rfl hz195339.symm (Nat.le_of_ble_eq_true rfl) rfl ?_
                        refine G_goto 20 dr_cX17_rename_141 (by decide +kernel) ?_
                        refine G_lv (L' := [(5, .int z195339), (4, .ref q194014), (3, .int g193954), (0, .ref q171252), (1, .int p171253), (2, .int p171254)]) [0, 2, 3, 4, 5, 6] rfl ?_
                        exact ih20_194833 F194831 z195339 (gB_w bz195339 (by decide) (by decide)) hT194832 hs194833 (fun k e1 ht => kt20_194834 k e1 (fun R c1 c2 c3 c4 c5 c6 c7 c8 c9 c10 c11 c12 c13 c14 c15 c16 c17 c18 c19 c20 c21 c22 c23 c24 c25 c26 c27 c28 c29 c30 c31 c32 c33 c34 c35 c36 c37 c38 c39 c40 c41 c42 c43 c44 c45 c46 c47 c48 c49 c50 c51 c52 c53 c54 c55 => c30 F194831 g194830 q194024 p194845 q195277 p195290 p195295 o195309 p195296 o195320 o195330 p195291 z195339 k e1 bg194830 hT194832 hs194833 fq194841 fq194852 fq194853 r194863 fq194864 r195265 hx195278 ht195287 fq195302 fq195303 bo195309 ht195311 r195313 fq195314 bo195320 ht195322 r195324 bo195330 ht195331 r195335 fq195336 r195338 ez195339 (ht R c1 c2 c3 c4 c5 c6 c7 c8 c9 c10 c11 c12 c13 c14 c15 c16 c17 c18 c19 c20 c21 c22 c23 c24 c25 c26 c27 c28 c29 c30 c31 c32 c33 c34 c35 c36 c37 c38 c39 c40 c41 c42 c43 c44 c45 c46 c47 c48 c49 c50 c51 c52 c53 c54 c55))) (by omega)
                      · have r195340 : p195291.toInt = p171253.toInt := gC_eq hc195337
                        refine G_aload 0 dr_cX17_rename_132 rfl ?_
                        refine G_iload_n 6 dr_cX17_rename_134 rfl ?_
                        refine Gp_put 1 hm195288 he195289 dr_cX17_rename_135 (gk_X15 D I) (Nat.le_of_ble_eq_true rfl) wr_9_182 rfl rfl rfl (Nat.le_of_ble_eq_true rfl) (fun F195341 e195342 n195343 => ?_)
                        have he195344 : F195341 q171252 = .inr (18, [.ref q193963, .ref q193964, .int p193965, .int p193966]) := (n195343 q171252 (rn_oo he194836 he195289 (by decide))).trans he194836
                        have he195345 : F195341 q193963 = .inr (4, [.int p193995, .ref q193997, .int p193996]) := (n195343 q193963 (rn_oo he194837 he195289 (by decide))).trans he194837
                        have he195346 : F195341 q193997 = .inl (I (.object "java/lang/Object"), n194011, .inr (.inr (.inr (.inr f194012)))) := (n195343 q193997 (rn_ao he194838 he195289)).trans he194838
                        have he195347 : F195341 q194014 = .inr (17, [.ref q194024, .ref q194025, .int p194026, .int p194027]) := (n195343 q194014 (rn_oo he194839 he195289 (by decide))).trans he194839
                        have he195348 : F195341 q194024 = .inr (4, [.int p194844, .ref q194846, .int p194845]) := (n195343 q194024 (rn_oo he194843 he195289 (by decide))).trans he194843
                        have he195349 : F195341 q194846 = .inl (I (.object "java/lang/Object"), n195274, .inr (.inr (.inr (.inr f195275)))) := (n195343 q194846 (rn_ao r195268 he195289)).trans r195268
                        have he195350 : F195341 q195277 = .inr (20, [.int p195290, .int p171254, .int p195292, .int p195293, .int p195294, .int p195295, .int p195296]) := e195342
                        have hs195351 : rStr γ [1] F171251 F195341 := rStr_pu2 hs194833 n195343 ht195280 (by decide)
                        have fq195352 : F195341 q195277 = cF (F194831 q195277) 1 (.int p171254) := by rw [he195350, he195289]; rfl
                        obtain ⟨z195353, hz195353⟩ : ∃ z : Int32, z = g194830 + Int32.ofInt 1 := ⟨_, rfl⟩
                        have ez195353 : z195353.toInt = g194830.toInt + 1 := gI_inc hz195353 (by decide) bg194830'' (by decide) (by decide)
                        have bz195353 : gB z195353 1 1000000 := ⟨by omega, by omega⟩
                        refine G_iinc (L' := [(5, .int z195353), (6, .ref q195277), (4, .ref q194014), (3, .int g193954), (0, .ref q171252), (1, .int p171253), (2, .int p171254)]) z195353 1 dr_cX17_rename_138 rfl hz195353.symm (Nat.le_of_ble_eq_true rfl) rfl ?_
                        refine G_goto 20 dr_cX17_rename_141 (by decide +kernel) ?_
                        have hT195354 : RS D I P171250 F195341 γ el := RS_set hT194832 n195343 ht195280 (by decide) ⟨p195290, p171254, p195292, p195293, p195294, p195295, p195296, he195350, bp195290, bp171254, bp195294, bp195295, bp195296, (by omega), (by omega), (by omega), (by omega), (by omega)⟩
                        refine G_lv (L' := [(5, .int z195353), (4, .ref q194014), (3, .int g193954), (0, .ref q171252), (1, .int p171253), (2, .int p171254)]) [0, 2, 3, 4, 5, 6] rfl ?_
                        exact ih20_194833 F195341 z195353 (gB_w bz195353 (by decide) (by decide)) hT195354 hs195351 (fun k e1 ht => kt20_194834 k e1 (fun R c1 c2 c3 c4 c5 c6 c7 c8 c9 c10 c11 c12 c13 c14 c15 c16 c17 c18 c19 c20 c21 c22 c23 c24 c25 c26 c27 c28 c29 c30 c31 c32 c33 c34 c35 c36 c37 c38 c39 c40 c41 c42 c43 c44 c45 c46 c47 c48 c49 c50 c51 c52 c53 c54 c55 => c31 F194831 g194830 q194024 p194845 q195277 p195290 p195295 o195309 p195296 o195320 o195330 p195291 F195341 z195353 k e1 bg194830 hT194832 hs194833 fq194841 fq194852 fq194853 r194863 fq194864 r195265 hx195278 ht195287 fq195302 fq195303 bo195309 ht195311 r195313 fq195314 bo195320 ht195322 r195324 bo195330 ht195331 r195335 fq195336 r195340 n195343 fq195352 ez195353 (ht R c1 c2 c3 c4 c5 c6 c7 c8 c9 c10 c11 c12 c13 c14 c15 c16 c17 c18 c19 c20 c21 c22 c23 c24 c25 c26 c27 c28 c29 c30 c31 c32 c33 c34 c35 c36 c37 c38 c39 c40 c41 c42 c43 c44 c45 c46 c47 c48 c49 c50 c51 c52 c53 c54 c55))) (by omega)
                  · have r195355 : o195320.toInt ≠ 0 := gj_neq hc195323 (show Int32.toInt 0 = 0 by decide)
                    have bo195320' : gB o195320 1 1 := ⟨by omega, by omega⟩
                    refine G_aload 0 dr_cX17_rename_100 rfl ?_
                    have fq195356 : fI (F194831 q195277) 3 = p195293 := by rw [he195289]; rfl
                    refine Gp_get 3 hm195288 he195289 dr_cX17_rename_102 (gk_X15 D I) (Nat.le_of_ble_eq_true rfl) wr_9_190 rfl ?_
                    refine G_iload_n 5 dr_cX17_rename_105 rfl ?_
                    refine G_icmp_ne 115 dr_cX17_rename_106 (by decide +kernel) (fun hc195357 => ?_) (fun hc195357 => ?_)
                    · have r195358 : p195293.toInt ≠ p171253.toInt := gC_ne hc195357
                      refine G_aload 0 dr_cX17_rename_115 rfl ?_
                      refine Gw_callV (As := []) (gV_ok D I) (cp_1660_Row_sets l hl0 D I P171250 F194831 q195277 p195290 p195291 p195292 p195293 p195294 p195295 p195296 hm195288 he195289 bp195290 bp195291 bp195294 bp195295 bp195296) dr_cX17_rename_117 ⟨wr_10_181, wr_1_39, wr_10_184, by decide, rfl, (Nat.le_of_ble_eq_true rfl), (Nat.le_of_ble_eq_true rfl)⟩ wr_10_182 wr_10_183 hm195288 he195289 rfl (show 0 + 0 ≤ 0 by first | omega | decide) (show 0 + 0 ≤ 0 by first | omega | decide) (Nat.le_of_ble_eq_true rfl) (fun r195362 w195363 dc195359 ds195360 hp195361 => ?_) (fun _ _ _ _ _ z => z.elim)
                      obtain ⟨o195364, rfl, rfl, hdc, hds, bo195364, ht195365⟩ := hp195361
                      change G _ _ _ _ _ _ _ (.int o195364 :: _) _ _ _
                      refine G_widen (cs' := 0) (sl' := 0) (by omega) (by omega) ?_
                      refine G_if_eq 138 dr_cX17_rename_120 (by decide +kernel) (fun hc195366 => ?_) (fun hc195366 => ?_)
                      · have r195367 : o195364.toInt = 0 := gj_eq hc195366 (show Int32.toInt 0 = 0 by decide)
                        have bo195364' : gB o195364 0 0 := ⟨by omega, by omega⟩
                        obtain ⟨z195368, hz195368⟩ : ∃ z : Int32, z = g194830 + Int32.ofInt 1 := ⟨_, rfl⟩
                        have ez195368 : z195368.toInt = g194830.toInt + 1 := gI_inc hz195368 (by decide) bg194830'' (by decide) (by decide)
                        have bz195368 : gB z195368 1 1000000 := ⟨by omega, by omega⟩
                        refine G_iinc (L' := [(5, .int z195368), (6, .ref q195277), (4, .ref q194014), (3, .int g193954), (0, .ref q171252), (1, .int p171253), (2, .int p171254)]) z195368 1 dr_cX17_rename_138 rfl hz195368.symm (Nat.le_of_ble_eq_true rfl) rfl ?_
                        refine G_goto 20 dr_cX17_rename_141 (by decide +kernel) ?_
                        refine G_lv (L' := [(5, .int z195368), (4, .ref q194014), (3, .int g193954), (0, .ref q171252), (1, .int p171253), (2, .int p171254)]) [0, 2, 3, 4, 5, 6] rfl ?_
                        exact ih20_194833 F194831 z195368 (gB_w bz195368 (by decide) (by decide)) hT194832 hs194833 (fun k e1 ht => kt20_194834 k e1 (fun R c1 c2 c3 c4 c5 c6 c7 c8 c9 c10 c11 c12 c13 c14 c15 c16 c17 c18 c19 c20 c21 c22 c23 c24 c25 c26 c27 c28 c29 c30 c31 c32 c33 c34 c35 c36 c37 c38 c39 c40 c41 c42 c43 c44 c45 c46 c47 c48 c49 c50 c51 c52 c53 c54 c55 => c32 F194831 g194830 q194024 p194845 q195277 p195290 p195295 o195309 p195296 o195320 p195293 o195364 z195368 k e1 bg194830 hT194832 hs194833 fq194841 fq194852 fq194853 r194863 fq194864 r195265 hx195278 ht195287 fq195302 fq195303 bo195309 ht195311 r195313 fq195314 bo195320 ht195322 r195355 fq195356 r195358 bo195364 ht195365 r195367 ez195368 (ht R c1 c2 c3 c4 c5 c6 c7 c8 c9 c10 c11 c12 c13 c14 c15 c16 c17 c18 c19 c20 c21 c22 c23 c24 c25 c26 c27 c28 c29 c30 c31 c32 c33 c34 c35 c36 c37 c38 c39 c40 c41 c42 c43 c44 c45 c46 c47 c48 c49 c50 c51 c52 c53 c54 c55))) (by omega)
                      · have r195369 : o195364.toInt ≠ 0 := gj_neq hc195366 (show Int32.toInt 0 = 0 by decide)
                        have bo195364' : gB o195364 1 1 := ⟨by omega, by omega⟩
                        refine G_aload 0 dr_cX17_rename_123 rfl ?_
                        have fq195370 : fI (F194831 q195277) 1 = p195291 := by rw [he195289]; rfl
                        refine Gp_get 1 hm195288 he195289 dr_cX17_rename_125 (gk_X15 D I) (Nat.le_of_ble_eq_true rfl) wr_9_182 rfl ?_
                        refine G_iload_n 5 dr_cX17_rename_128 rfl ?_
                        refine G_icmp_ne 138 dr_cX17_rename_129 (by decide +kernel) (fun hc195371 => ?_) (fun hc195371 => ?_)
                        · have r195372 : p195291.toInt ≠ p171253.toInt := gC_ne hc195371
                          obtain ⟨z195373, hz195373⟩ : ∃ z : Int32, z = g194830 + Int32.ofInt 1 := ⟨_, rfl⟩
                          have ez195373 : z195373.toInt = g194830.toInt + 1 := gI_inc hz195373 (by decide) bg194830'' (by decide) (by decide)
                          have bz195373 : gB z195373 1 1000000 := ⟨by omega, by omega⟩
                          refine G_iinc (L' := [(5, .int z195373), (6, .ref q195277), (4, .ref q194014), (3, .int g193954), (0, .ref q171252), (1, .int p171253), (2, .int p171254)]) z195373 1 dr_cX17_rename_138 rfl hz195373.symm (Nat.le_of_ble_eq_true rfl) rfl ?_
                          refine G_goto 20 dr_cX17_rename_141 (by decide +kernel) ?_
                          refine G_lv (L' := [(5, .int z195373), (4, .ref q194014), (3, .int g193954), (0, .ref q171252), (1, .int p171253), (2, .int p171254)]) [0, 2, 3, 4, 5, 6] rfl ?_
                          exact ih20_194833 F194831 z195373 (gB_w bz195373 (by decide) (by decide)) hT194832 hs194833 (fun k e1 ht => kt20_194834 k e1 (fun R c1 c2 c3 c4 c5 c6 c7 c8 c9 c10 c11 c12 c13 c14 c15 c16 c17 c18 c19 c20 c21 c22 c23 c24 c25 c26 c27 c28 c29 c30 c31 c32 c33 c34 c35 c36 c37 c38 c39 c40 c41 c42 c43 c44 c45 c46 c47 c48 c49 c50 c51 c52 c53 c54 c55 => c33 F194831 g194830 q194024 p194845 q195277 p195290 p195295 o195309 p195296 o195320 p195293 o195364 p195291 z195373 k e1 bg194830 hT194832 hs194833 fq194841 fq194852 fq194853 r194863 fq194864 r195265 hx195278 ht195287 fq195302 fq195303 bo195309 ht195311 r195313 fq195314 bo195320 ht195322 r195355 fq195356 r195358 bo195364 ht195365 r195369 fq195370 r195372 ez195373 (ht R c1 c2 c3 c4 c5 c6 c7 c8 c9 c10 c11 c12 c13 c14 c15 c16 c17 c18 c19 c20 c21 c22 c23 c24 c25 c26 c27 c28 c29 c30 c31 c32 c33 c34 c35 c36 c37 c38 c39 c40 c41 c42 c43 c44 c45 c46 c47 c48 c49 c50 c51 c52 c53 c54 c55))) (by omega)
                        · have r195374 : p195291.toInt = p171253.toInt := gC_eq hc195371
                          refine G_aload 0 dr_cX17_rename_132 rfl ?_
                          refine G_iload_n 6 dr_cX17_rename_134 rfl ?_
                          refine Gp_put 1 hm195288 he195289 dr_cX17_rename_135 (gk_X15 D I) (Nat.le_of_ble_eq_true rfl) wr_9_182 rfl rfl rfl (Nat.le_of_ble_eq_true rfl) (fun F195375 e195376 n195377 => ?_)
                          have he195378 : F195375 q171252 = .inr (18, [.ref q193963, .ref q193964, .int p193965, .int p193966]) := (n195377 q171252 (rn_oo he194836 he195289 (by decide))).trans he194836
                          have he195379 : F195375 q193963 = .inr (4, [.int p193995, .ref q193997, .int p193996]) := (n195377 q193963 (rn_oo he194837 he195289 (by decide))).trans he194837
                          have he195380 : F195375 q193997 = .inl (I (.object "java/lang/Object"), n194011, .inr (.inr (.inr (.inr f194012)))) := (n195377 q193997 (rn_ao he194838 he195289)).trans he194838
                          have he195381 : F195375 q194014 = .inr (17, [.ref q194024, .ref q194025, .int p194026, .int p194027]) := (n195377 q194014 (rn_oo he194839 he195289 (by decide))).trans he194839
                          have he195382 : F195375 q194024 = .inr (4, [.int p194844, .ref q194846, .int p194845]) := (n195377 q194024 (rn_oo he194843 he195289 (by decide))).trans he194843
                          have he195383 : F195375 q194846 = .inl (I (.object "java/lang/Object"), n195274, .inr (.inr (.inr (.inr f195275)))) := (n195377 q194846 (rn_ao r195268 he195289)).trans r195268
                          have he195384 : F195375 q195277 = .inr (20, [.int p195290, .int p171254, .int p195292, .int p195293, .int p195294, .int p195295, .int p195296]) := e195376
                          have hs195385 : rStr γ [1] F171251 F195375 := rStr_pu2 hs194833 n195377 ht195280 (by decide)
                          have fq195386 : F195375 q195277 = cF (F194831 q195277) 1 (.int p171254) := by rw [he195384, he195289]; rfl
                          obtain ⟨z195387, hz195387⟩ : ∃ z : Int32, z = g194830 + Int32.ofInt 1 := ⟨_, rfl⟩
                          have ez195387 : z195387.toInt = g194830.toInt + 1 := gI_inc hz195387 (by decide) bg194830'' (by decide) (by decide)
                          have bz195387 : gB z195387 1 1000000 := ⟨by omega, by omega⟩
                          refine G_iinc (L' := [(5, .int z195387), (6, .ref q195277), (4, .ref q194014), (3, .int g193954), (0, .ref q171252), (1, .int p171253), (2, .int p171254)]) z195387 1 dr_cX17_rename_138 rfl hz195387.symm (Nat.le_of_ble_eq_true rfl) rfl ?_
                          refine G_goto 20 dr_cX17_rename_141 (by decide +kernel) ?_
                          have hT195388 : RS D I P171250 F195375 γ el := RS_set hT194832 n195377 ht195280 (by decide) ⟨p195290, p171254, p195292, p195293, p195294, p195295, p195296, he195384, bp195290, bp171254, bp195294, bp195295, bp195296, (by omega), (by omega), (by omega), (by omega), (by omega)⟩
                          refine G_lv (L' := [(5, .int z195387), (4, .ref q194014), (3, .int g193954), (0, .ref q171252), (1, .int p171253), (2, .int p171254)]) [0, 2, 3, 4, 5, 6] rfl ?_
                          exact ih20_194833 F195375 z195387 (gB_w bz195387 (by decide) (by decide)) hT195388 hs195385 (fun k e1 ht => kt20_194834 k e1 (fun R c1 c2 c3 c4 c5 c6 c7 c8 c9 c10 c11 c12 c13 c14 c15 c16 c17 c18 c19 c20 c21 c22 c23 c24 c25 c26 c27 c28 c29 c30 c31 c32 c33 c34 c35 c36 c37 c38 c39 c40 c41 c42 c43 c44 c45 c46 c47 c48 c49 c50 c51 c52 c53 c54 c55 => c34 F194831 g194830 q194024 p194845 q195277 p195290 p195295 o195309 p195296 o195320 p195293 o195364 p195291 F195375 z195387 k e1 bg194830 hT194832 hs194833 fq194841 fq194852 fq194853 r194863 fq194864 r195265 hx195278 ht195287 fq195302 fq195303 bo195309 ht195311 r195313 fq195314 bo195320 ht195322 r195355 fq195356 r195358 bo195364 ht195365 r195369 fq195370 r195374 n195377 fq195386 ez195387 (ht R c1 c2 c3 c4 c5 c6 c7 c8 c9 c10 c11 c12 c13 c14 c15 c16 c17 c18 c19 c20 c21 c22 c23 c24 c25 c26 c27 c28 c29 c30 c31 c32 c33 c34 c35 c36 c37 c38 c39 c40 c41 c42 c43 c44 c45 c46 c47 c48 c49 c50 c51 c52 c53 c54 c55))) (by omega)
                    · have r195389 : p195293.toInt = p171253.toInt := gC_eq hc195357
                      have bp195293' : gB p195293 0 1999 := ⟨by omega, by omega⟩
                      refine G_aload 0 dr_cX17_rename_109 rfl ?_
                      refine G_iload_n 6 dr_cX17_rename_111 rfl ?_
                      refine Gp_put 3 hm195288 he195289 dr_cX17_rename_112 (gk_X15 D I) (Nat.le_of_ble_eq_true rfl) wr_9_190 rfl rfl rfl (Nat.le_of_ble_eq_true rfl) (fun F195390 e195391 n195392 => ?_)
                      have he195393 : F195390 q171252 = .inr (18, [.ref q193963, .ref q193964, .int p193965, .int p193966]) := (n195392 q171252 (rn_oo he194836 he195289 (by decide))).trans he194836
                      have he195394 : F195390 q193963 = .inr (4, [.int p193995, .ref q193997, .int p193996]) := (n195392 q193963 (rn_oo he194837 he195289 (by decide))).trans he194837
                      have he195395 : F195390 q193997 = .inl (I (.object "java/lang/Object"), n194011, .inr (.inr (.inr (.inr f194012)))) := (n195392 q193997 (rn_ao he194838 he195289)).trans he194838
                      have he195396 : F195390 q194014 = .inr (17, [.ref q194024, .ref q194025, .int p194026, .int p194027]) := (n195392 q194014 (rn_oo he194839 he195289 (by decide))).trans he194839
                      have he195397 : F195390 q194024 = .inr (4, [.int p194844, .ref q194846, .int p194845]) := (n195392 q194024 (rn_oo he194843 he195289 (by decide))).trans he194843
                      have he195398 : F195390 q194846 = .inl (I (.object "java/lang/Object"), n195274, .inr (.inr (.inr (.inr f195275)))) := (n195392 q194846 (rn_ao r195268 he195289)).trans r195268
                      have he195399 : F195390 q195277 = .inr (20, [.int p195290, .int p195291, .int p195292, .int p171254, .int p195294, .int p195295, .int p195296]) := e195391
                      have hs195400 : rStr γ [1] F171251 F195390 := rStr_pu2 hs194833 n195392 ht195280 (by decide)
                      have fq195401 : F195390 q195277 = cF (F194831 q195277) 3 (.int p171254) := by rw [he195399, he195289]; rfl
                      refine G_aload 0 dr_cX17_rename_115 rfl ?_
                      have hT195402 : RS D I P171250 F195390 γ el := RS_set hT194832 n195392 ht195280 (by decide) ⟨p195290, p195291, p195292, p171254, p195294, p195295, p195296, he195399, bp195290, bp195291, bp195294, bp195295, bp195296, (by omega), (by omega), (by omega), (by omega), (by omega)⟩
                      have fq195403 : fI (F195390 q195277) 0 = p195290 := by rw [he195399]; rfl
                      refine Gw_callV (As := []) (gV_ok D I) (cp_1660_Row_sets l hl0 D I P171250 F195390 q195277 p195290 p195291 p195292 p171254 p195294 p195295 p195296 hm195288 he195399 bp195290 bp195291 bp195294 bp195295 bp195296) dr_cX17_rename_117 ⟨wr_10_181, wr_1_39, wr_10_184, by decide, rfl, (Nat.le_of_ble_eq_true rfl), (Nat.le_of_ble_eq_true rfl)⟩ wr_10_182 wr_10_183 hm195288 he195399 rfl (show 0 + 0 ≤ 0 by first | omega | decide) (show 0 + 0 ≤ 0 by first | omega | decide) (Nat.le_of_ble_eq_true rfl) (fun r195407 w195408 dc195404 ds195405 hp195406 => ?_) (fun _ _ _ _ _ z => z.elim)
                      obtain ⟨o195409, rfl, rfl, hdc, hds, bo195409, ht195410⟩ := hp195406
                      change G _ _ _ _ _ _ _ (.int o195409 :: _) _ _ _
                      refine G_widen (cs' := 0) (sl' := 0) (by omega) (by omega) ?_
                      refine G_if_eq 138 dr_cX17_rename_120 (by decide +kernel) (fun hc195411 => ?_) (fun hc195411 => ?_)
                      · have r195412 : o195409.toInt = 0 := gj_eq hc195411 (show Int32.toInt 0 = 0 by decide)
                        have bo195409' : gB o195409 0 0 := ⟨by omega, by omega⟩
                        obtain ⟨z195413, hz195413⟩ : ∃ z : Int32, z = g194830 + Int32.ofInt 1 := ⟨_, rfl⟩
                        have ez195413 : z195413.toInt = g194830.toInt + 1 := gI_inc hz195413 (by decide) bg194830'' (by decide) (by decide)
                        have bz195413 : gB z195413 1 1000000 := ⟨by omega, by omega⟩
                        refine G_iinc (L' := [(5, .int z195413), (6, .ref q195277), (4, .ref q194014), (3, .int g193954), (0, .ref q171252), (1, .int p171253), (2, .int p171254)]) z195413 1 dr_cX17_rename_138 rfl hz195413.symm (Nat.le_of_ble_eq_true rfl) rfl ?_
                        refine G_goto 20 dr_cX17_rename_141 (by decide +kernel) ?_
                        refine G_lv (L' := [(5, .int z195413), (4, .ref q194014), (3, .int g193954), (0, .ref q171252), (1, .int p171253), (2, .int p171254)]) [0, 2, 3, 4, 5, 6] rfl ?_
                        exact ih20_194833 F195390 z195413 (gB_w bz195413 (by decide) (by decide)) hT195402 hs195400 (fun k e1 ht => kt20_194834 k e1 (fun R c1 c2 c3 c4 c5 c6 c7 c8 c9 c10 c11 c12 c13 c14 c15 c16 c17 c18 c19 c20 c21 c22 c23 c24 c25 c26 c27 c28 c29 c30 c31 c32 c33 c34 c35 c36 c37 c38 c39 c40 c41 c42 c43 c44 c45 c46 c47 c48 c49 c50 c51 c52 c53 c54 c55 => c35 F194831 g194830 q194024 p194845 q195277 p195290 p195295 o195309 p195296 o195320 p195293 F195390 o195409 z195413 k e1 bg194830 hT194832 hs194833 fq194841 fq194852 fq194853 r194863 fq194864 r195265 hx195278 ht195287 fq195302 fq195303 bo195309 ht195311 r195313 fq195314 bo195320 ht195322 r195355 fq195356 r195389 n195392 fq195401 fq195403 bo195409 ht195410 r195412 ez195413 (ht R c1 c2 c3 c4 c5 c6 c7 c8 c9 c10 c11 c12 c13 c14 c15 c16 c17 c18 c19 c20 c21 c22 c23 c24 c25 c26 c27 c28 c29 c30 c31 c32 c33 c34 c35 c36 c37 c38 c39 c40 c41 c42 c43 c44 c45 c46 c47 c48 c49 c50 c51 c52 c53 c54 c55))) (by omega)
                      · have r195414 : o195409.toInt ≠ 0 := gj_neq hc195411 (show Int32.toInt 0 = 0 by decide)
                        have bo195409' : gB o195409 1 1 := ⟨by omega, by omega⟩
                        refine G_aload 0 dr_cX17_rename_123 rfl ?_
                        have fq195415 : fI (F195390 q195277) 1 = p195291 := by rw [he195399]; rfl
                        refine Gp_get 1 hm195288 he195399 dr_cX17_rename_125 (gk_X15 D I) (Nat.le_of_ble_eq_true rfl) wr_9_182 rfl ?_
                        refine G_iload_n 5 dr_cX17_rename_128 rfl ?_
                        refine G_icmp_ne 138 dr_cX17_rename_129 (by decide +kernel) (fun hc195416 => ?_) (fun hc195416 => ?_)
                        · have r195417 : p195291.toInt ≠ p171253.toInt := gC_ne hc195416
                          obtain ⟨z195418, hz195418⟩ : ∃ z : Int32, z = g194830 + Int32.ofInt 1 := ⟨_, rfl⟩
                          have ez195418 : z195418.toInt = g194830.toInt + 1 := gI_inc hz195418 (by decide) bg194830'' (by decide) (by decide)
                          have bz195418 : gB z195418 1 1000000 := ⟨by omega, by omega⟩
                          refine G_iinc (L' := [(5, .int z195418), (6, .ref q195277), (4, .ref q194014), (3, .int g193954), (0, .ref q171252), (1, .int p171253), (2, .int p171254)]) z195418 1 dr_cX17_rename_138 rfl hz195418.symm (Nat.le_of_ble_eq_true rfl) rfl ?_
                          refine G_goto 20 dr_cX17_rename_141 (by decide +kernel) ?_
                          refine G_lv (L' := [(5, .int z195418), (4, .ref q194014), (3, .int g193954), (0, .ref q171252), (1, .int p171253), (2, .int p171254)]) [0, 2, 3, 4, 5, 6] rfl ?_
                          exact ih20_194833 F195390 z195418 (gB_w bz195418 (by decide) (by decide)) hT195402 hs195400 (fun k e1 ht => kt20_194834 k e1 (fun R c1 c2 c3 c4 c5 c6 c7 c8 c9 c10 c11 c12 c13 c14 c15 c16 c17 c18 c19 c20 c21 c22 c23 c24 c25 c26 c27 c28 c29 c30 c31 c32 c33 c34 c35 c36 c37 c38 c39 c40 c41 c42 c43 c44 c45 c46 c47 c48 c49 c50 c51 c52 c53 c54 c55 => c36 F194831 g194830 q194024 p194845 q195277 p195290 p195295 o195309 p195296 o195320 p195293 F195390 o195409 p195291 z195418 k e1 bg194830 hT194832 hs194833 fq194841 fq194852 fq194853 r194863 fq194864 r195265 hx195278 ht195287 fq195302 fq195303 bo195309 ht195311 r195313 fq195314 bo195320 ht195322 r195355 fq195356 r195389 n195392 fq195401 fq195403 bo195409 ht195410 r195414 fq195415 r195417 ez195418 (ht R c1 c2 c3 c4 c5 c6 c7 c8 c9 c10 c11 c12 c13 c14 c15 c16 c17 c18 c19 c20 c21 c22 c23 c24 c25 c26 c27 c28 c29 c30 c31 c32 c33 c34 c35 c36 c37 c38 c39 c40 c41 c42 c43 c44 c45 c46 c47 c48 c49 c50 c51 c52 c53 c54 c55))) (by omega)
                        · have r195419 : p195291.toInt = p171253.toInt := gC_eq hc195416
                          refine G_aload 0 dr_cX17_rename_132 rfl ?_
                          refine G_iload_n 6 dr_cX17_rename_134 rfl ?_
                          refine Gp_put 1 hm195288 he195399 dr_cX17_rename_135 (gk_X15 D I) (Nat.le_of_ble_eq_true rfl) wr_9_182 rfl rfl rfl (Nat.le_of_ble_eq_true rfl) (fun F195420 e195421 n195422 => ?_)
                          have he195423 : F195420 q171252 = .inr (18, [.ref q193963, .ref q193964, .int p193965, .int p193966]) := (n195422 q171252 (rn_oo he195393 he195399 (by decide))).trans he195393
                          have he195424 : F195420 q193963 = .inr (4, [.int p193995, .ref q193997, .int p193996]) := (n195422 q193963 (rn_oo he195394 he195399 (by decide))).trans he195394
                          have he195425 : F195420 q193997 = .inl (I (.object "java/lang/Object"), n194011, .inr (.inr (.inr (.inr f194012)))) := (n195422 q193997 (rn_ao he195395 he195399)).trans he195395
                          have he195426 : F195420 q194014 = .inr (17, [.ref q194024, .ref q194025, .int p194026, .int p194027]) := (n195422 q194014 (rn_oo he195396 he195399 (by decide))).trans he195396
                          have he195427 : F195420 q194024 = .inr (4, [.int p194844, .ref q194846, .int p194845]) := (n195422 q194024 (rn_oo he195397 he195399 (by decide))).trans he195397
                          have he195428 : F195420 q194846 = .inl (I (.object "java/lang/Object"), n195274, .inr (.inr (.inr (.inr f195275)))) := (n195422 q194846 (rn_ao he195398 he195399)).trans he195398
                          have he195429 : F195420 q195277 = .inr (20, [.int p195290, .int p171254, .int p195292, .int p171254, .int p195294, .int p195295, .int p195296]) := e195421
                          have hs195430 : rStr γ [1] F171251 F195420 := rStr_pu2 hs195400 n195422 ht195280 (by decide)
                          have fq195431 : F195420 q195277 = cF (F195390 q195277) 1 (.int p171254) := by rw [he195429, he195399]; rfl
                          obtain ⟨z195432, hz195432⟩ : ∃ z : Int32, z = g194830 + Int32.ofInt 1 := ⟨_, rfl⟩
                          have ez195432 : z195432.toInt = g194830.toInt + 1 := gI_inc hz195432 (by decide) bg194830'' (by decide) (by decide)
                          have bz195432 : gB z195432 1 1000000 := ⟨by omega, by omega⟩
                          refine G_iinc (L' := [(5, .int z195432), (6, .ref q195277), (4, .ref q194014), (3, .int g193954), (0, .ref q171252), (1, .int p171253), (2, .int p171254)]) z195432 1 dr_cX17_rename_138 rfl hz195432.symm (Nat.le_of_ble_eq_true rfl) rfl ?_
                          refine G_goto 20 dr_cX17_rename_141 (by decide +kernel) ?_
                          have hT195433 : RS D I P171250 F195420 γ el := RS_set hT195402 n195422 ht195280 (by decide) ⟨p195290, p171254, p195292, p171254, p195294, p195295, p195296, he195429, bp195290, bp171254, bp195294, bp195295, bp195296, (by omega), (by omega), (by omega), (by omega), (by omega)⟩
                          refine G_lv (L' := [(5, .int z195432), (4, .ref q194014), (3, .int g193954), (0, .ref q171252), (1, .int p171253), (2, .int p171254)]) [0, 2, 3, 4, 5, 6] rfl ?_
                          exact ih20_194833 F195420 z195432 (gB_w bz195432 (by decide) (by decide)) hT195433 hs195430 (fun k e1 ht => kt20_194834 k e1 (fun R c1 c2 c3 c4 c5 c6 c7 c8 c9 c10 c11 c12 c13 c14 c15 c16 c17 c18 c19 c20 c21 c22 c23 c24 c25 c26 c27 c28 c29 c30 c31 c32 c33 c34 c35 c36 c37 c38 c39 c40 c41 c42 c43 c44 c45 c46 c47 c48 c49 c50 c51 c52 c53 c54 c55 => c37 F194831 g194830 q194024 p194845 q195277 p195290 p195295 o195309 p195296 o195320 p195293 F195390 o195409 p195291 F195420 z195432 k e1 bg194830 hT194832 hs194833 fq194841 fq194852 fq194853 r194863 fq194864 r195265 hx195278 ht195287 fq195302 fq195303 bo195309 ht195311 r195313 fq195314 bo195320 ht195322 r195355 fq195356 r195389 n195392 fq195401 fq195403 bo195409 ht195410 r195414 fq195415 r195419 n195422 fq195431 ez195432 (ht R c1 c2 c3 c4 c5 c6 c7 c8 c9 c10 c11 c12 c13 c14 c15 c16 c17 c18 c19 c20 c21 c22 c23 c24 c25 c26 c27 c28 c29 c30 c31 c32 c33 c34 c35 c36 c37 c38 c39 c40 c41 c42 c43 c44 c45 c46 c47 c48 c49 c50 c51 c52 c53 c54 c55))) (by omega)
                · have r195434 : o195309.toInt ≠ 0 := gj_neq hc195312 (show Int32.toInt 0 = 0 by decide)
                  have bo195309' : gB o195309 1 1 := ⟨by omega, by omega⟩
                  refine G_aload 0 dr_cX17_rename_77 rfl ?_
                  have fq195435 : fI (F194831 q195277) 2 = p195292 := by rw [he195289]; rfl
                  refine Gp_get 2 hm195288 he195289 dr_cX17_rename_79 (gk_X15 D I) (Nat.le_of_ble_eq_true rfl) wr_9_186 rfl ?_
                  refine G_iload_n 5 dr_cX17_rename_82 rfl ?_
                  refine G_icmp_ne 92 dr_cX17_rename_83 (by decide +kernel) (fun hc195436 => ?_) (fun hc195436 => ?_)
                  · have r195437 : p195292.toInt ≠ p171253.toInt := gC_ne hc195436
                    refine G_aload 0 dr_cX17_rename_92 rfl ?_
                    have fq195438 : fI (F194831 q195277) 6 = p195296 := by rw [he195289]; rfl
                    refine Gw_callV (As := []) (gV_ok D I) (cp_1699_Row_usesB l hl0 D I P171250 F194831 q195277 p195290 p195291 p195292 p195293 p195294 p195295 p195296 hm195288 he195289 bp195290 bp195291 bp195294 bp195295 bp195296) dr_cX17_rename_94 ⟨wr_10_196, wr_1_39, wr_10_199, by decide, rfl, (Nat.le_of_ble_eq_true rfl), (Nat.le_of_ble_eq_true rfl)⟩ wr_10_197 wr_10_198 hm195288 he195289 rfl (show 0 + 0 ≤ 0 by first | omega | decide) (show 0 + 0 ≤ 0 by first | omega | decide) (Nat.le_of_ble_eq_true rfl) (fun r195442 w195443 dc195439 ds195440 hp195441 => ?_) (fun _ _ _ _ _ z => z.elim)
                    obtain ⟨o195444, rfl, rfl, hdc, hds, bo195444, x195445, ht195446⟩ := hp195441
                    change G _ _ _ _ _ _ _ (.int o195444 :: _) _ _ _
                    refine G_widen (cs' := 0) (sl' := 0) (by omega) (by omega) ?_
                    refine G_if_eq 115 dr_cX17_rename_97 (by decide +kernel) (fun hc195447 => ?_) (fun hc195447 => ?_)
                    · have r195448 : o195444.toInt = 0 := gj_eq hc195447 (show Int32.toInt 0 = 0 by decide)
                      have bo195444' : gB o195444 0 0 := ⟨by omega, by omega⟩
                      refine G_aload 0 dr_cX17_rename_115 rfl ?_
                      refine Gw_callV (As := []) (gV_ok D I) (cp_1660_Row_sets l hl0 D I P171250 F194831 q195277 p195290 p195291 p195292 p195293 p195294 p195295 p195296 hm195288 he195289 bp195290 bp195291 bp195294 bp195295 bp195296) dr_cX17_rename_117 ⟨wr_10_181, wr_1_39, wr_10_184, by decide, rfl, (Nat.le_of_ble_eq_true rfl), (Nat.le_of_ble_eq_true rfl)⟩ wr_10_182 wr_10_183 hm195288 he195289 rfl (show 0 + 0 ≤ 0 by first | omega | decide) (show 0 + 0 ≤ 0 by first | omega | decide) (Nat.le_of_ble_eq_true rfl) (fun r195452 w195453 dc195449 ds195450 hp195451 => ?_) (fun _ _ _ _ _ z => z.elim)
                      obtain ⟨o195454, rfl, rfl, hdc, hds, bo195454, ht195455⟩ := hp195451
                      change G _ _ _ _ _ _ _ (.int o195454 :: _) _ _ _
                      refine G_widen (cs' := 0) (sl' := 0) (by omega) (by omega) ?_
                      refine G_if_eq 138 dr_cX17_rename_120 (by decide +kernel) (fun hc195456 => ?_) (fun hc195456 => ?_)
                      · have r195457 : o195454.toInt = 0 := gj_eq hc195456 (show Int32.toInt 0 = 0 by decide)
                        have bo195454' : gB o195454 0 0 := ⟨by omega, by omega⟩
                        obtain ⟨z195458, hz195458⟩ : ∃ z : Int32, z = g194830 + Int32.ofInt 1 := ⟨_, rfl⟩
                        have ez195458 : z195458.toInt = g194830.toInt + 1 := gI_inc hz195458 (by decide) bg194830'' (by decide) (by decide)
                        have bz195458 : gB z195458 1 1000000 := ⟨by omega, by omega⟩
                        refine G_iinc (L' := [(5, .int z195458), (6, .ref q195277), (4, .ref q194014), (3, .int g193954), (0, .ref q171252), (1, .int p171253), (2, .int p171254)]) z195458 1 dr_cX17_rename_138 rfl hz195458.symm (Nat.le_of_ble_eq_true rfl) rfl ?_
                        refine G_goto 20 dr_cX17_rename_141 (by decide +kernel) ?_
                        refine G_lv (L' := [(5, .int z195458), (4, .ref q194014), (3, .int g193954), (0, .ref q171252), (1, .int p171253), (2, .int p171254)]) [0, 2, 3, 4, 5, 6] rfl ?_
                        exact ih20_194833 F194831 z195458 (gB_w bz195458 (by decide) (by decide)) hT194832 hs194833 (fun k e1 ht => kt20_194834 k e1 (fun R c1 c2 c3 c4 c5 c6 c7 c8 c9 c10 c11 c12 c13 c14 c15 c16 c17 c18 c19 c20 c21 c22 c23 c24 c25 c26 c27 c28 c29 c30 c31 c32 c33 c34 c35 c36 c37 c38 c39 c40 c41 c42 c43 c44 c45 c46 c47 c48 c49 c50 c51 c52 c53 c54 c55 => c38 F194831 g194830 q194024 p194845 q195277 p195290 p195295 o195309 p195292 p195296 o195444 o195454 z195458 k e1 bg194830 hT194832 hs194833 fq194841 fq194852 fq194853 r194863 fq194864 r195265 hx195278 ht195287 fq195302 fq195303 bo195309 ht195311 r195434 fq195435 r195437 fq195438 bo195444 ht195446 r195448 bo195454 ht195455 r195457 ez195458 (ht R c1 c2 c3 c4 c5 c6 c7 c8 c9 c10 c11 c12 c13 c14 c15 c16 c17 c18 c19 c20 c21 c22 c23 c24 c25 c26 c27 c28 c29 c30 c31 c32 c33 c34 c35 c36 c37 c38 c39 c40 c41 c42 c43 c44 c45 c46 c47 c48 c49 c50 c51 c52 c53 c54 c55))) (by omega)
                      · have r195459 : o195454.toInt ≠ 0 := gj_neq hc195456 (show Int32.toInt 0 = 0 by decide)
                        have bo195454' : gB o195454 1 1 := ⟨by omega, by omega⟩
                        refine G_aload 0 dr_cX17_rename_123 rfl ?_
                        have fq195460 : fI (F194831 q195277) 1 = p195291 := by rw [he195289]; rfl
                        refine Gp_get 1 hm195288 he195289 dr_cX17_rename_125 (gk_X15 D I) (Nat.le_of_ble_eq_true rfl) wr_9_182 rfl ?_
                        refine G_iload_n 5 dr_cX17_rename_128 rfl ?_
                        refine G_icmp_ne 138 dr_cX17_rename_129 (by decide +kernel) (fun hc195461 => ?_) (fun hc195461 => ?_)
                        · have r195462 : p195291.toInt ≠ p171253.toInt := gC_ne hc195461
                          obtain ⟨z195463, hz195463⟩ : ∃ z : Int32, z = g194830 + Int32.ofInt 1 := ⟨_, rfl⟩
                          have ez195463 : z195463.toInt = g194830.toInt + 1 := gI_inc hz195463 (by decide) bg194830'' (by decide) (by decide)
                          have bz195463 : gB z195463 1 1000000 := ⟨by omega, by omega⟩
                          refine G_iinc (L' := [(5, .int z195463), (6, .ref q195277), (4, .ref q194014), (3, .int g193954), (0, .ref q171252), (1, .int p171253), (2, .int p171254)]) z195463 1 dr_cX17_rename_138 rfl hz195463.symm (Nat.le_of_ble_eq_true rfl) rfl ?_
                          refine G_goto 20 dr_cX17_rename_141 (by decide +kernel) ?_
                          refine G_lv (L' := [(5, .int z195463), (4, .ref q194014), (3, .int g193954), (0, .ref q171252), (1, .int p171253), (2, .int p171254)]) [0, 2, 3, 4, 5, 6] rfl ?_
                          exact ih20_194833 F194831 z195463 (gB_w bz195463 (by decide) (by decide)) hT194832 hs194833 (fun k e1 ht => kt20_194834 k e1 (fun R c1 c2 c3 c4 c5 c6 c7 c8 c9 c10 c11 c12 c13 c14 c15 c16 c17 c18 c19 c20 c21 c22 c23 c24 c25 c26 c27 c28 c29 c30 c31 c32 c33 c34 c35 c36 c37 c38 c39 c40 c41 c42 c43 c44 c45 c46 c47 c48 c49 c50 c51 c52 c53 c54 c55 => c39 F194831 g194830 q194024 p194845 q195277 p195290 p195295 o195309 p195292 p195296 o195444 o195454 p195291 z195463 k e1 bg194830 hT194832 hs194833 fq194841 fq194852 fq194853 r194863 fq194864 r195265 hx195278 ht195287 fq195302 fq195303 bo195309 ht195311 r195434 fq195435 r195437 fq195438 bo195444 ht195446 r195448 bo195454 ht195455 r195459 fq195460 r195462 ez195463 (ht R c1 c2 c3 c4 c5 c6 c7 c8 c9 c10 c11 c12 c13 c14 c15 c16 c17 c18 c19 c20 c21 c22 c23 c24 c25 c26 c27 c28 c29 c30 c31 c32 c33 c34 c35 c36 c37 c38 c39 c40 c41 c42 c43 c44 c45 c46 c47 c48 c49 c50 c51 c52 c53 c54 c55))) (by omega)
                        · have r195464 : p195291.toInt = p171253.toInt := gC_eq hc195461
                          refine G_aload 0 dr_cX17_rename_132 rfl ?_
                          refine G_iload_n 6 dr_cX17_rename_134 rfl ?_
                          refine Gp_put 1 hm195288 he195289 dr_cX17_rename_135 (gk_X15 D I) (Nat.le_of_ble_eq_true rfl) wr_9_182 rfl rfl rfl (Nat.le_of_ble_eq_true rfl) (fun F195465 e195466 n195467 => ?_)
                          have he195468 : F195465 q171252 = .inr (18, [.ref q193963, .ref q193964, .int p193965, .int p193966]) := (n195467 q171252 (rn_oo he194836 he195289 (by decide))).trans he194836
                          have he195469 : F195465 q193963 = .inr (4, [.int p193995, .ref q193997, .int p193996]) := (n195467 q193963 (rn_oo he194837 he195289 (by decide))).trans he194837
                          have he195470 : F195465 q193997 = .inl (I (.object "java/lang/Object"), n194011, .inr (.inr (.inr (.inr f194012)))) := (n195467 q193997 (rn_ao he194838 he195289)).trans he194838
                          have he195471 : F195465 q194014 = .inr (17, [.ref q194024, .ref q194025, .int p194026, .int p194027]) := (n195467 q194014 (rn_oo he194839 he195289 (by decide))).trans he194839
                          have he195472 : F195465 q194024 = .inr (4, [.int p194844, .ref q194846, .int p194845]) := (n195467 q194024 (rn_oo he194843 he195289 (by decide))).trans he194843
                          have he195473 : F195465 q194846 = .inl (I (.object "java/lang/Object"), n195274, .inr (.inr (.inr (.inr f195275)))) := (n195467 q194846 (rn_ao r195268 he195289)).trans r195268
                          have he195474 : F195465 q195277 = .inr (20, [.int p195290, .int p171254, .int p195292, .int p195293, .int p195294, .int p195295, .int p195296]) := e195466
                          have hs195475 : rStr γ [1] F171251 F195465 := rStr_pu2 hs194833 n195467 ht195280 (by decide)
                          have fq195476 : F195465 q195277 = cF (F194831 q195277) 1 (.int p171254) := by rw [he195474, he195289]; rfl
                          obtain ⟨z195477, hz195477⟩ : ∃ z : Int32, z = g194830 + Int32.ofInt 1 := ⟨_, rfl⟩
                          have ez195477 : z195477.toInt = g194830.toInt + 1 := gI_inc hz195477 (by decide) bg194830'' (by decide) (by decide)
                          have bz195477 : gB z195477 1 1000000 := ⟨by omega, by omega⟩
                          refine G_iinc (L' := [(5, .int z195477), (6, .ref q195277), (4, .ref q194014), (3, .int g193954), (0, .ref q171252), (1, .int p171253), (2, .int p171254)]) z195477 1 dr_cX17_rename_138 rfl hz195477.symm (Nat.le_of_ble_eq_true rfl) rfl ?_
                          refine G_goto 20 dr_cX17_rename_141 (by decide +kernel) ?_
                          have hT195478 : RS D I P171250 F195465 γ el := RS_set hT194832 n195467 ht195280 (by decide) ⟨p195290, p171254, p195292, p195293, p195294, p195295, p195296, he195474, bp195290, bp171254, bp195294, bp195295, bp195296, (by omega), (by omega), (by omega), (by omega), (by omega)⟩
                          refine G_lv (L' := [(5, .int z195477), (4, .ref q194014), (3, .int g193954), (0, .ref q171252), (1, .int p171253), (2, .int p171254)]) [0, 2, 3, 4, 5, 6] rfl ?_
                          exact ih20_194833 F195465 z195477 (gB_w bz195477 (by decide) (by decide)) hT195478 hs195475 (fun k e1 ht => kt20_194834 k e1 (fun R c1 c2 c3 c4 c5 c6 c7 c8 c9 c10 c11 c12 c13 c14 c15 c16 c17 c18 c19 c20 c21 c22 c23 c24 c25 c26 c27 c28 c29 c30 c31 c32 c33 c34 c35 c36 c37 c38 c39 c40 c41 c42 c43 c44 c45 c46 c47 c48 c49 c50 c51 c52 c53 c54 c55 => c40 F194831 g194830 q194024 p194845 q195277 p195290 p195295 o195309 p195292 p195296 o195444 o195454 p195291 F195465 z195477 k e1 bg194830 hT194832 hs194833 fq194841 fq194852 fq194853 r194863 fq194864 r195265 hx195278 ht195287 fq195302 fq195303 bo195309 ht195311 r195434 fq195435 r195437 fq195438 bo195444 ht195446 r195448 bo195454 ht195455 r195459 fq195460 r195464 n195467 fq195476 ez195477 (ht R c1 c2 c3 c4 c5 c6 c7 c8 c9 c10 c11 c12 c13 c14 c15 c16 c17 c18 c19 c20 c21 c22 c23 c24 c25 c26 c27 c28 c29 c30 c31 c32 c33 c34 c35 c36 c37 c38 c39 c40 c41 c42 c43 c44 c45 c46 c47 c48 c49 c50 c51 c52 c53 c54 c55))) (by omega)
                    · have r195479 : o195444.toInt ≠ 0 := gj_neq hc195447 (show Int32.toInt 0 = 0 by decide)
                      have bo195444' : gB o195444 1 1 := ⟨by omega, by omega⟩
                      refine G_aload 0 dr_cX17_rename_100 rfl ?_
                      have fq195480 : fI (F194831 q195277) 3 = p195293 := by rw [he195289]; rfl
                      refine Gp_get 3 hm195288 he195289 dr_cX17_rename_102 (gk_X15 D I) (Nat.le_of_ble_eq_true rfl) wr_9_190 rfl ?_
                      refine G_iload_n 5 dr_cX17_rename_105 rfl ?_
                      refine G_icmp_ne 115 dr_cX17_rename_106 (by decide +kernel) (fun hc195481 => ?_) (fun hc195481 => ?_)
                      · have r195482 : p195293.toInt ≠ p171253.toInt := gC_ne hc195481
                        refine G_aload 0 dr_cX17_rename_115 rfl ?_
                        refine Gw_callV (As := []) (gV_ok D I) (cp_1660_Row_sets l hl0 D I P171250 F194831 q195277 p195290 p195291 p195292 p195293 p195294 p195295 p195296 hm195288 he195289 bp195290 bp195291 bp195294 bp195295 bp195296) dr_cX17_rename_117 ⟨wr_10_181, wr_1_39, wr_10_184, by decide, rfl, (Nat.le_of_ble_eq_true rfl), (Nat.le_of_ble_eq_true rfl)⟩ wr_10_182 wr_10_183 hm195288 he195289 rfl (show 0 + 0 ≤ 0 by first | omega | decide) (show 0 + 0 ≤ 0 by first | omega | decide) (Nat.le_of_ble_eq_true rfl) (fun r195486 w195487 dc195483 ds195484 hp195485 => ?_) (fun _ _ _ _ _ z => z.elim)
                        obtain ⟨o195488, rfl, rfl, hdc, hds, bo195488, ht195489⟩ := hp195485
                        change G _ _ _ _ _ _ _ (.int o195488 :: _) _ _ _
                        refine G_widen (cs' := 0) (sl' := 0) (by omega) (by omega) ?_
                        refine G_if_eq 138 dr_cX17_rename_120 (by decide +kernel) (fun hc195490 => ?_) (fun hc195490 => ?_)
                        · have r195491 : o195488.toInt = 0 := gj_eq hc195490 (show Int32.toInt 0 = 0 by decide)
                          have bo195488' : gB o195488 0 0 := ⟨by omega, by omega⟩
                          obtain ⟨z195492, hz195492⟩ : ∃ z : Int32, z = g194830 + Int32.ofInt 1 := ⟨_, rfl⟩
                          have ez195492 : z195492.toInt = g194830.toInt + 1 := gI_inc hz195492 (by decide) bg194830'' (by decide) (by decide)
                          have bz195492 : gB z195492 1 1000000 := ⟨by omega, by omega⟩
                          refine G_iinc (L' := [(5, .int z195492), (6, .ref q195277), (4, .ref q194014), (3, .int g193954), (0, .ref q171252), (1, .int p171253), (2, .int p171254)]) z195492 1 dr_cX17_rename_138 rfl hz195492.symm (Nat.le_of_ble_eq_true rfl) rfl ?_
                          refine G_goto 20 dr_cX17_rename_141 (by decide +kernel) ?_
                          refine G_lv (L' := [(5, .int z195492), (4, .ref q194014), (3, .int g193954), (0, .ref q171252), (1, .int p171253), (2, .int p171254)]) [0, 2, 3, 4, 5, 6] rfl ?_
                          exact ih20_194833 F194831 z195492 (gB_w bz195492 (by decide) (by decide)) hT194832 hs194833 (fun k e1 ht => kt20_194834 k e1 (fun R c1 c2 c3 c4 c5 c6 c7 c8 c9 c10 c11 c12 c13 c14 c15 c16 c17 c18 c19 c20 c21 c22 c23 c24 c25 c26 c27 c28 c29 c30 c31 c32 c33 c34 c35 c36 c37 c38 c39 c40 c41 c42 c43 c44 c45 c46 c47 c48 c49 c50 c51 c52 c53 c54 c55 => c41 F194831 g194830 q194024 p194845 q195277 p195290 p195295 o195309 p195292 p195296 o195444 p195293 o195488 z195492 k e1 bg194830 hT194832 hs194833 fq194841 fq194852 fq194853 r194863 fq194864 r195265 hx195278 ht195287 fq195302 fq195303 bo195309 ht195311 r195434 fq195435 r195437 fq195438 bo195444 ht195446 r195479 fq195480 r195482 bo195488 ht195489 r195491 ez195492 (ht R c1 c2 c3 c4 c5 c6 c7 c8 c9 c10 c11 c12 c13 c14 c15 c16 c17 c18 c19 c20 c21 c22 c23 c24 c25 c26 c27 c28 c29 c30 c31 c32 c33 c34 c35 c36 c37 c38 c39 c40 c41 c42 c43 c44 c45 c46 c47 c48 c49 c50 c51 c52 c53 c54 c55))) (by omega)
                        · have r195493 : o195488.toInt ≠ 0 := gj_neq hc195490 (show Int32.toInt 0 = 0 by decide)
                          have bo195488' : gB o195488 1 1 := ⟨by omega, by omega⟩
                          refine G_aload 0 dr_cX17_rename_123 rfl ?_
                          have fq195494 : fI (F194831 q195277) 1 = p195291 := by rw [he195289]; rfl
                          refine Gp_get 1 hm195288 he195289 dr_cX17_rename_125 (gk_X15 D I) (Nat.le_of_ble_eq_true rfl) wr_9_182 rfl ?_
                          refine G_iload_n 5 dr_cX17_rename_128 rfl ?_
                          refine G_icmp_ne 138 dr_cX17_rename_129 (by decide +kernel) (fun hc195495 => ?_) (fun hc195495 => ?_)
                          · have r195496 : p195291.toInt ≠ p171253.toInt := gC_ne hc195495
                            obtain ⟨z195497, hz195497⟩ : ∃ z : Int32, z = g194830 + Int32.ofInt 1 := ⟨_, rfl⟩
                            have ez195497 : z195497.toInt = g194830.toInt + 1 := gI_inc hz195497 (by decide) bg194830'' (by decide) (by decide)
                            have bz195497 : gB z195497 1 1000000 := ⟨by omega, by omega⟩
                            refine G_iinc (L' := [(5, .int z195497), (6, .ref q195277), (4, .ref q194014), (3, .int g193954), (0, .ref q171252), (1, .int p171253), (2, .int p171254)]) z195497 1 dr_cX17_rename_138 rfl hz195497.symm (Nat.le_of_ble_eq_true rfl) rfl ?_
                            refine G_goto 20 dr_cX17_rename_141 (by decide +kernel) ?_
                            refine G_lv (L' := [(5, .int z195497), (4, .ref q194014), (3, .int g193954), (0, .ref q171252), (1, .int p171253), (2, .int p171254)]) [0, 2, 3, 4, 5, 6] rfl ?_
                            exact ih20_194833 F194831 z195497 (gB_w bz195497 (by decide) (by decide)) hT194832 hs194833 (fun k e1 ht => kt20_194834 k e1 (fun R c1 c2 c3 c4 c5 c6 c7 c8 c9 c10 c11 c12 c13 c14 c15 c16 c17 c18 c19 c20 c21 c22 c23 c24 c25 c26 c27 c28 c29 c30 c31 c32 c33 c34 c35 c36 c37 c38 c39 c40 c41 c42 c43 c44 c45 c46 c47 c48 c49 c50 c51 c52 c53 c54 c55 => c42 F194831 g194830 q194024 p194845 q195277 p195290 p195295 o195309 p195292 p195296 o195444 p195293 o195488 p195291 z195497 k e1 bg194830 hT194832 hs194833 fq194841 fq194852 fq194853 r194863 fq194864 r195265 hx195278 ht195287 fq195302 fq195303 bo195309 ht195311 r195434 fq195435 r195437 fq195438 bo195444 ht195446 r195479 fq195480 r195482 bo195488 ht195489 r195493 fq195494 r195496 ez195497 (ht R c1 c2 c3 c4 c5 c6 c7 c8 c9 c10 c11 c12 c13 c14 c15 c16 c17 c18 c19 c20 c21 c22 c23 c24 c25 c26 c27 c28 c29 c30 c31 c32 c33 c34 c35 c36 c37 c38 c39 c40 c41 c42 c43 c44 c45 c46 c47 c48 c49 c50 c51 c52 c53 c54 c55))) (by omega)
                          · have r195498 : p195291.toInt = p171253.toInt := gC_eq hc195495
                            refine G_aload 0 dr_cX17_rename_132 rfl ?_
                            refine G_iload_n 6 dr_cX17_rename_134 rfl ?_
                            refine Gp_put 1 hm195288 he195289 dr_cX17_rename_135 (gk_X15 D I) (Nat.le_of_ble_eq_true rfl) wr_9_182 rfl rfl rfl (Nat.le_of_ble_eq_true rfl) (fun F195499 e195500 n195501 => ?_)
                            have he195502 : F195499 q171252 = .inr (18, [.ref q193963, .ref q193964, .int p193965, .int p193966]) := (n195501 q171252 (rn_oo he194836 he195289 (by decide))).trans he194836
                            have he195503 : F195499 q193963 = .inr (4, [.int p193995, .ref q193997, .int p193996]) := (n195501 q193963 (rn_oo he194837 he195289 (by decide))).trans he194837
                            have he195504 : F195499 q193997 = .inl (I (.object "java/lang/Object"), n194011, .inr (.inr (.inr (.inr f194012)))) := (n195501 q193997 (rn_ao he194838 he195289)).trans he194838
                            have he195505 : F195499 q194014 = .inr (17, [.ref q194024, .ref q194025, .int p194026, .int p194027]) := (n195501 q194014 (rn_oo he194839 he195289 (by decide))).trans he194839
                            have he195506 : F195499 q194024 = .inr (4, [.int p194844, .ref q194846, .int p194845]) := (n195501 q194024 (rn_oo he194843 he195289 (by decide))).trans he194843
                            have he195507 : F195499 q194846 = .inl (I (.object "java/lang/Object"), n195274, .inr (.inr (.inr (.inr f195275)))) := (n195501 q194846 (rn_ao r195268 he195289)).trans r195268
                            have he195508 : F195499 q195277 = .inr (20, [.int p195290, .int p171254, .int p195292, .int p195293, .int p195294, .int p195295, .int p195296]) := e195500
                            have hs195509 : rStr γ [1] F171251 F195499 := rStr_pu2 hs194833 n195501 ht195280 (by decide)
                            have fq195510 : F195499 q195277 = cF (F194831 q195277) 1 (.int p171254) := by rw [he195508, he195289]; rfl
                            obtain ⟨z195511, hz195511⟩ : ∃ z : Int32, z = g194830 + Int32.ofInt 1 := ⟨_, rfl⟩
                            have ez195511 : z195511.toInt = g194830.toInt + 1 := gI_inc hz195511 (by decide) bg194830'' (by decide) (by decide)
                            have bz195511 : gB z195511 1 1000000 := ⟨by omega, by omega⟩
                            refine G_iinc (L' := [(5, .int z195511), (6, .ref q195277), (4, .ref q194014), (3, .int g193954), (0, .ref q171252), (1, .int p171253), (2, .int p171254)]) z195511 1 dr_cX17_rename_138 rfl hz195511.symm (Nat.le_of_ble_eq_true rfl) rfl ?_
                            refine G_goto 20 dr_cX17_rename_141 (by decide +kernel) ?_
                            have hT195512 : RS D I P171250 F195499 γ el := RS_set hT194832 n195501 ht195280 (by decide) ⟨p195290, p171254, p195292, p195293, p195294, p195295, p195296, he195508, bp195290, bp171254, bp195294, bp195295, bp195296, (by omega), (by omega), (by omega), (by omega), (by omega)⟩
                            refine G_lv (L' := [(5, .int z195511), (4, .ref q194014), (3, .int g193954), (0, .ref q171252), (1, .int p171253), (2, .int p171254)]) [0, 2, 3, 4, 5, 6] rfl ?_
                            exact ih20_194833 F195499 z195511 (gB_w bz195511 (by decide) (by decide)) hT195512 hs195509 (fun k e1 ht => kt20_194834 k e1 (fun R c1 c2 c3 c4 c5 c6 c7 c8 c9 c10 c11 c12 c13 c14 c15 c16 c17 c18 c19 c20 c21 c22 c23 c24 c25 c26 c27 c28 c29 c30 c31 c32 c33 c34 c35 c36 c37 c38 c39 c40 c41 c42 c43 c44 c45 c46 c47 c48 c49 c50 c51 c52 c53 c54 c55 => c43 F194831 g194830 q194024 p194845 q195277 p195290 p195295 o195309 p195292 p195296 o195444 p195293 o195488 p195291 F195499 z195511 k e1 bg194830 hT194832 hs194833 fq194841 fq194852 fq194853 r194863 fq194864 r195265 hx195278 ht195287 fq195302 fq195303 bo195309 ht195311 r195434 fq195435 r195437 fq195438 bo195444 ht195446 r195479 fq195480 r195482 bo195488 ht195489 r195493 fq195494 r195498 n195501 fq195510 ez195511 (ht R c1 c2 c3 c4 c5 c6 c7 c8 c9 c10 c11 c12 c13 c14 c15 c16 c17 c18 c19 c20 c21 c22 c23 c24 c25 c26 c27 c28 c29 c30 c31 c32 c33 c34 c35 c36 c37 c38 c39 c40 c41 c42 c43 c44 c45 c46 c47 c48 c49 c50 c51 c52 c53 c54 c55))) (by omega)
                      · have r195513 : p195293.toInt = p171253.toInt := gC_eq hc195481
                        have bp195293' : gB p195293 0 1999 := ⟨by omega, by omega⟩
                        refine G_aload 0 dr_cX17_rename_109 rfl ?_
                        refine G_iload_n 6 dr_cX17_rename_111 rfl ?_
                        refine Gp_put 3 hm195288 he195289 dr_cX17_rename_112 (gk_X15 D I) (Nat.le_of_ble_eq_true rfl) wr_9_190 rfl rfl rfl (Nat.le_of_ble_eq_true rfl) (fun F195514 e195515 n195516 => ?_)
                        have he195517 : F195514 q171252 = .inr (18, [.ref q193963, .ref q193964, .int p193965, .int p193966]) := (n195516 q171252 (rn_oo he194836 he195289 (by decide))).trans he194836
                        have he195518 : F195514 q193963 = .inr (4, [.int p193995, .ref q193997, .int p193996]) := (n195516 q193963 (rn_oo he194837 he195289 (by decide))).trans he194837
                        have he195519 : F195514 q193997 = .inl (I (.object "java/lang/Object"), n194011, .inr (.inr (.inr (.inr f194012)))) := (n195516 q193997 (rn_ao he194838 he195289)).trans he194838
                        have he195520 : F195514 q194014 = .inr (17, [.ref q194024, .ref q194025, .int p194026, .int p194027]) := (n195516 q194014 (rn_oo he194839 he195289 (by decide))).trans he194839
                        have he195521 : F195514 q194024 = .inr (4, [.int p194844, .ref q194846, .int p194845]) := (n195516 q194024 (rn_oo he194843 he195289 (by decide))).trans he194843
                        have he195522 : F195514 q194846 = .inl (I (.object "java/lang/Object"), n195274, .inr (.inr (.inr (.inr f195275)))) := (n195516 q194846 (rn_ao r195268 he195289)).trans r195268
                        have he195523 : F195514 q195277 = .inr (20, [.int p195290, .int p195291, .int p195292, .int p171254, .int p195294, .int p195295, .int p195296]) := e195515
                        have hs195524 : rStr γ [1] F171251 F195514 := rStr_pu2 hs194833 n195516 ht195280 (by decide)
                        have fq195525 : F195514 q195277 = cF (F194831 q195277) 3 (.int p171254) := by rw [he195523, he195289]; rfl
                        refine G_aload 0 dr_cX17_rename_115 rfl ?_
                        have hT195526 : RS D I P171250 F195514 γ el := RS_set hT194832 n195516 ht195280 (by decide) ⟨p195290, p195291, p195292, p171254, p195294, p195295, p195296, he195523, bp195290, bp195291, bp195294, bp195295, bp195296, (by omega), (by omega), (by omega), (by omega), (by omega)⟩
                        have fq195527 : fI (F195514 q195277) 0 = p195290 := by rw [he195523]; rfl
                        refine Gw_callV (As := []) (gV_ok D I) (cp_1660_Row_sets l hl0 D I P171250 F195514 q195277 p195290 p195291 p195292 p171254 p195294 p195295 p195296 hm195288 he195523 bp195290 bp195291 bp195294 bp195295 bp195296) dr_cX17_rename_117 ⟨wr_10_181, wr_1_39, wr_10_184, by decide, rfl, (Nat.le_of_ble_eq_true rfl), (Nat.le_of_ble_eq_true rfl)⟩ wr_10_182 wr_10_183 hm195288 he195523 rfl (show 0 + 0 ≤ 0 by first | omega | decide) (show 0 + 0 ≤ 0 by first | omega | decide) (Nat.le_of_ble_eq_true rfl) (fun r195531 w195532 dc195528 ds195529 hp195530 => ?_) (fun _ _ _ _ _ z => z.elim)
                        obtain ⟨o195533, rfl, rfl, hdc, hds, bo195533, ht195534⟩ := hp195530
                        change G _ _ _ _ _ _ _ (.int o195533 :: _) _ _ _
                        refine G_widen (cs' := 0) (sl' := 0) (by omega) (by omega) ?_
                        refine G_if_eq 138 dr_cX17_rename_120 (by decide +kernel) (fun hc195535 => ?_) (fun hc195535 => ?_)
                        · have r195536 : o195533.toInt = 0 := gj_eq hc195535 (show Int32.toInt 0 = 0 by decide)
                          have bo195533' : gB o195533 0 0 := ⟨by omega, by omega⟩
                          obtain ⟨z195537, hz195537⟩ : ∃ z : Int32, z = g194830 + Int32.ofInt 1 := ⟨_, rfl⟩
                          have ez195537 : z195537.toInt = g194830.toInt + 1 := gI_inc hz195537 (by decide) bg194830'' (by decide) (by decide)
                          have bz195537 : gB z195537 1 1000000 := ⟨by omega, by omega⟩
                          refine G_iinc (L' := [(5, .int z195537), (6, .ref q195277), (4, .ref q194014), (3, .int g193954), (0, .ref q171252), (1, .int p171253), (2, .int p171254)]) z195537 1 dr_cX17_rename_138 rfl hz195537.symm (Nat.le_of_ble_eq_true rfl) rfl ?_
                          refine G_goto 20 dr_cX17_rename_141 (by decide +kernel) ?_
                          refine G_lv (L' := [(5, .int z195537), (4, .ref q194014), (3, .int g193954), (0, .ref q171252), (1, .int p171253), (2, .int p171254)]) [0, 2, 3, 4, 5, 6] rfl ?_
                          exact ih20_194833 F195514 z195537 (gB_w bz195537 (by decide) (by decide)) hT195526 hs195524 (fun k e1 ht => kt20_194834 k e1 (fun R c1 c2 c3 c4 c5 c6 c7 c8 c9 c10 c11 c12 c13 c14 c15 c16 c17 c18 c19 c20 c21 c22 c23 c24 c25 c26 c27 c28 c29 c30 c31 c32 c33 c34 c35 c36 c37 c38 c39 c40 c41 c42 c43 c44 c45 c46 c47 c48 c49 c50 c51 c52 c53 c54 c55 => c44 F194831 g194830 q194024 p194845 q195277 p195290 p195295 o195309 p195292 p195296 o195444 p195293 F195514 o195533 z195537 k e1 bg194830 hT194832 hs194833 fq194841 fq194852 fq194853 r194863 fq194864 r195265 hx195278 ht195287 fq195302 fq195303 bo195309 ht195311 r195434 fq195435 r195437 fq195438 bo195444 ht195446 r195479 fq195480 r195513 n195516 fq195525 fq195527 bo195533 ht195534 r195536 ez195537 (ht R c1 c2 c3 c4 c5 c6 c7 c8 c9 c10 c11 c12 c13 c14 c15 c16 c17 c18 c19 c20 c21 c22 c23 c24 c25 c26 c27 c28 c29 c30 c31 c32 c33 c34 c35 c36 c37 c38 c39 c40 c41 c42 c43 c44 c45 c46 c47 c48 c49 c50 c51 c52 c53 c54 c55))) (by omega)
                        · have r195538 : o195533.toInt ≠ 0 := gj_neq hc195535 (show Int32.toInt 0 = 0 by decide)
                          have bo195533' : gB o195533 1 1 := ⟨by omega, by omega⟩
                          refine G_aload 0 dr_cX17_rename_123 rfl ?_
                          have fq195539 : fI (F195514 q195277) 1 = p195291 := by rw [he195523]; rfl
                          refine Gp_get 1 hm195288 he195523 dr_cX17_rename_125 (gk_X15 D I) (Nat.le_of_ble_eq_true rfl) wr_9_182 rfl ?_
                          refine G_iload_n 5 dr_cX17_rename_128 rfl ?_
                          refine G_icmp_ne 138 dr_cX17_rename_129 (by decide +kernel) (fun hc195540 => ?_) (fun hc195540 => ?_)
                          · have r195541 : p195291.toInt ≠ p171253.toInt := gC_ne hc195540
                            obtain ⟨z195542, hz195542⟩ : ∃ z : Int32, z = g194830 + Int32.ofInt 1 := ⟨_, rfl⟩
                            have ez195542 : z195542.toInt = g194830.toInt + 1 := gI_inc hz195542 (by decide) bg194830'' (by decide) (by decide)
                            have bz195542 : gB z195542 1 1000000 := ⟨by omega, by omega⟩
                            refine G_iinc (L' := [(5, .int z195542), (6, .ref q195277), (4, .ref q194014), (3, .int g193954), (0, .ref q171252), (1, .int p171253), (2, .int p171254)]) z195542 1 dr_cX17_rename_138 rfl hz195542.symm (Nat.le_of_ble_eq_true rfl) rfl ?_
                            refine G_goto 20 dr_cX17_rename_141 (by decide +kernel) ?_
                            refine G_lv (L' := [(5, .int z195542), (4, .ref q194014), (3, .int g193954), (0, .ref q171252), (1, .int p171253), (2, .int p171254)]) [0, 2, 3, 4, 5, 6] rfl ?_
                            exact ih20_194833 F195514 z195542 (gB_w bz195542 (by decide) (by decide)) hT195526 hs195524 (fun k e1 ht => kt20_194834 k e1 (fun R c1 c2 c3 c4 c5 c6 c7 c8 c9 c10 c11 c12 c13 c14 c15 c16 c17 c18 c19 c20 c21 c22 c23 c24 c25 c26 c27 c28 c29 c30 c31 c32 c33 c34 c35 c36 c37 c38 c39 c40 c41 c42 c43 c44 c45 c46 c47 c48 c49 c50 c51 c52 c53 c54 c55 => c45 F194831 g194830 q194024 p194845 q195277 p195290 p195295 o195309 p195292 p195296 o195444 p195293 F195514 o195533 p195291 z195542 k e1 bg194830 hT194832 hs194833 fq194841 fq194852 fq194853 r194863 fq194864 r195265 hx195278 ht195287 fq195302 fq195303 bo195309 ht195311 r195434 fq195435 r195437 fq195438 bo195444 ht195446 r195479 fq195480 r195513 n195516 fq195525 fq195527 bo195533 ht195534 r195538 fq195539 r195541 ez195542 (ht R c1 c2 c3 c4 c5 c6 c7 c8 c9 c10 c11 c12 c13 c14 c15 c16 c17 c18 c19 c20 c21 c22 c23 c24 c25 c26 c27 c28 c29 c30 c31 c32 c33 c34 c35 c36 c37 c38 c39 c40 c41 c42 c43 c44 c45 c46 c47 c48 c49 c50 c51 c52 c53 c54 c55))) (by omega)
                          · have r195543 : p195291.toInt = p171253.toInt := gC_eq hc195540
                            refine G_aload 0 dr_cX17_rename_132 rfl ?_
                            refine G_iload_n 6 dr_cX17_rename_134 rfl ?_
                            refine Gp_put 1 hm195288 he195523 dr_cX17_rename_135 (gk_X15 D I) (Nat.le_of_ble_eq_true rfl) wr_9_182 rfl rfl rfl (Nat.le_of_ble_eq_true rfl) (fun F195544 e195545 n195546 => ?_)
                            have he195547 : F195544 q171252 = .inr (18, [.ref q193963, .ref q193964, .int p193965, .int p193966]) := (n195546 q171252 (rn_oo he195517 he195523 (by decide))).trans he195517
                            have he195548 : F195544 q193963 = .inr (4, [.int p193995, .ref q193997, .int p193996]) := (n195546 q193963 (rn_oo he195518 he195523 (by decide))).trans he195518
                            have he195549 : F195544 q193997 = .inl (I (.object "java/lang/Object"), n194011, .inr (.inr (.inr (.inr f194012)))) := (n195546 q193997 (rn_ao he195519 he195523)).trans he195519
                            have he195550 : F195544 q194014 = .inr (17, [.ref q194024, .ref q194025, .int p194026, .int p194027]) := (n195546 q194014 (rn_oo he195520 he195523 (by decide))).trans he195520
                            have he195551 : F195544 q194024 = .inr (4, [.int p194844, .ref q194846, .int p194845]) := (n195546 q194024 (rn_oo he195521 he195523 (by decide))).trans he195521
                            have he195552 : F195544 q194846 = .inl (I (.object "java/lang/Object"), n195274, .inr (.inr (.inr (.inr f195275)))) := (n195546 q194846 (rn_ao he195522 he195523)).trans he195522
                            have he195553 : F195544 q195277 = .inr (20, [.int p195290, .int p171254, .int p195292, .int p171254, .int p195294, .int p195295, .int p195296]) := e195545
                            have hs195554 : rStr γ [1] F171251 F195544 := rStr_pu2 hs195524 n195546 ht195280 (by decide)
                            have fq195555 : F195544 q195277 = cF (F195514 q195277) 1 (.int p171254) := by rw [he195553, he195523]; rfl
                            obtain ⟨z195556, hz195556⟩ : ∃ z : Int32, z = g194830 + Int32.ofInt 1 := ⟨_, rfl⟩
                            have ez195556 : z195556.toInt = g194830.toInt + 1 := gI_inc hz195556 (by decide) bg194830'' (by decide) (by decide)
                            have bz195556 : gB z195556 1 1000000 := ⟨by omega, by omega⟩
                            refine G_iinc (L' := [(5, .int z195556), (6, .ref q195277), (4, .ref q194014), (3, .int g193954), (0, .ref q171252), (1, .int p171253), (2, .int p171254)]) z195556 1 dr_cX17_rename_138 rfl hz195556.symm (Nat.le_of_ble_eq_true rfl) rfl ?_
                            refine G_goto 20 dr_cX17_rename_141 (by decide +kernel) ?_
                            have hT195557 : RS D I P171250 F195544 γ el := RS_set hT195526 n195546 ht195280 (by decide) ⟨p195290, p171254, p195292, p171254, p195294, p195295, p195296, he195553, bp195290, bp171254, bp195294, bp195295, bp195296, (by omega), (by omega), (by omega), (by omega), (by omega)⟩
                            refine G_lv (L' := [(5, .int z195556), (4, .ref q194014), (3, .int g193954), (0, .ref q171252), (1, .int p171253), (2, .int p171254)]) [0, 2, 3, 4, 5, 6] rfl ?_
                            exact ih20_194833 F195544 z195556 (gB_w bz195556 (by decide) (by decide)) hT195557 hs195554 (fun k e1 ht => kt20_194834 k e1 (fun R c1 c2 c3 c4 c5 c6 c7 c8 c9 c10 c11 c12 c13 c14 c15 c16 c17 c18 c19 c20 c21 c22 c23 c24 c25 c26 c27 c28 c29 c30 c31 c32 c33 c34 c35 c36 c37 c38 c39 c40 c41 c42 c43 c44 c45 c46 c47 c48 c49 c50 c51 c52 c53 c54 c55 => c46 F194831 g194830 q194024 p194845 q195277 p195290 p195295 o195309 p195292 p195296 o195444 p195293 F195514 o195533 p195291 F195544 z195556 k e1 bg194830 hT194832 hs194833 fq194841 fq194852 fq194853 r194863 fq194864 r195265 hx195278 ht195287 fq195302 fq195303 bo195309 ht195311 r195434 fq195435 r195437 fq195438 bo195444 ht195446 r195479 fq195480 r195513 n195516 fq195525 fq195527 bo195533 ht195534 r195538 fq195539 r195543 n195546 fq195555 ez195556 (ht R c1 c2 c3 c4 c5 c6 c7 c8 c9 c10 c11 c12 c13 c14 c15 c16 c17 c18 c19 c20 c21 c22 c23 c24 c25 c26 c27 c28 c29 c30 c31 c32 c33 c34 c35 c36 c37 c38 c39 c40 c41 c42 c43 c44 c45 c46 c47 c48 c49 c50 c51 c52 c53 c54 c55))) (by omega)
                  · have r195558 : p195292.toInt = p171253.toInt := gC_eq hc195436
                    have bp195292' : gB p195292 0 1999 := ⟨by omega, by omega⟩
                    refine G_aload 0 dr_cX17_rename_86 rfl ?_
                    refine G_iload_n 6 dr_cX17_rename_88 rfl ?_
                    refine Gp_put 2 hm195288 he195289 dr_cX17_rename_89 (gk_X15 D I) (Nat.le_of_ble_eq_true rfl) wr_9_186 rfl rfl rfl (Nat.le_of_ble_eq_true rfl) (fun F195559 e195560 n195561 => ?_)
                    have he195562 : F195559 q171252 = .inr (18, [.ref q193963, .ref q193964, .int p193965, .int p193966]) := (n195561 q171252 (rn_oo he194836 he195289 (by decide))).trans he194836
                    have he195563 : F195559 q193963 = .inr (4, [.int p193995, .ref q193997, .int p193996]) := (n195561 q193963 (rn_oo he194837 he195289 (by decide))).trans he194837
                    have he195564 : F195559 q193997 = .inl (I (.object "java/lang/Object"), n194011, .inr (.inr (.inr (.inr f194012)))) := (n195561 q193997 (rn_ao he194838 he195289)).trans he194838
                    have he195565 : F195559 q194014 = .inr (17, [.ref q194024, .ref q194025, .int p194026, .int p194027]) := (n195561 q194014 (rn_oo he194839 he195289 (by decide))).trans he194839
                    have he195566 : F195559 q194024 = .inr (4, [.int p194844, .ref q194846, .int p194845]) := (n195561 q194024 (rn_oo he194843 he195289 (by decide))).trans he194843
                    have he195567 : F195559 q194846 = .inl (I (.object "java/lang/Object"), n195274, .inr (.inr (.inr (.inr f195275)))) := (n195561 q194846 (rn_ao r195268 he195289)).trans r195268
                    have he195568 : F195559 q195277 = .inr (20, [.int p195290, .int p195291, .int p171254, .int p195293, .int p195294, .int p195295, .int p195296]) := e195560
                    have hs195569 : rStr γ [1] F171251 F195559 := rStr_pu2 hs194833 n195561 ht195280 (by decide)
                    have fq195570 : F195559 q195277 = cF (F194831 q195277) 2 (.int p171254) := by rw [he195568, he195289]; rfl
                    refine G_aload 0 dr_cX17_rename_92 rfl ?_
                    have hT195571 : RS D I P171250 F195559 γ el := RS_set hT194832 n195561 ht195280 (by decide) ⟨p195290, p195291, p171254, p195293, p195294, p195295, p195296, he195568, bp195290, bp195291, bp195294, bp195295, bp195296, (by omega), (by omega), (by omega), (by omega), (by omega)⟩
                    have fq195572 : fI (F195559 q195277) 0 = p195290 := by rw [he195568]; rfl
                    have fq195573 : fI (F195559 q195277) 6 = p195296 := by rw [he195568]; rfl
                    refine Gw_callV (As := []) (gV_ok D I) (cp_1699_Row_usesB l hl0 D I P171250 F195559 q195277 p195290 p195291 p171254 p195293 p195294 p195295 p195296 hm195288 he195568 bp195290 bp195291 bp195294 bp195295 bp195296) dr_cX17_rename_94 ⟨wr_10_196, wr_1_39, wr_10_199, by decide, rfl, (Nat.le_of_ble_eq_true rfl), (Nat.le_of_ble_eq_true rfl)⟩ wr_10_197 wr_10_198 hm195288 he195568 rfl (show 0 + 0 ≤ 0 by first | omega | decide) (show 0 + 0 ≤ 0 by first | omega | decide) (Nat.le_of_ble_eq_true rfl) (fun r195577 w195578 dc195574 ds195575 hp195576 => ?_) (fun _ _ _ _ _ z => z.elim)
                    obtain ⟨o195579, rfl, rfl, hdc, hds, bo195579, x195580, ht195581⟩ := hp195576
                    change G _ _ _ _ _ _ _ (.int o195579 :: _) _ _ _
                    refine G_widen (cs' := 0) (sl' := 0) (by omega) (by omega) ?_
                    refine G_if_eq 115 dr_cX17_rename_97 (by decide +kernel) (fun hc195582 => ?_) (fun hc195582 => ?_)
                    · have r195583 : o195579.toInt = 0 := gj_eq hc195582 (show Int32.toInt 0 = 0 by decide)
                      have bo195579' : gB o195579 0 0 := ⟨by omega, by omega⟩
                      refine G_aload 0 dr_cX17_rename_115 rfl ?_
                      refine Gw_callV (As := []) (gV_ok D I) (cp_1660_Row_sets l hl0 D I P171250 F195559 q195277 p195290 p195291 p171254 p195293 p195294 p195295 p195296 hm195288 he195568 bp195290 bp195291 bp195294 bp195295 bp195296) dr_cX17_rename_117 ⟨wr_10_181, wr_1_39, wr_10_184, by decide, rfl, (Nat.le_of_ble_eq_true rfl), (Nat.le_of_ble_eq_true rfl)⟩ wr_10_182 wr_10_183 hm195288 he195568 rfl (show 0 + 0 ≤ 0 by first | omega | decide) (show 0 + 0 ≤ 0 by first | omega | decide) (Nat.le_of_ble_eq_true rfl) (fun r195587 w195588 dc195584 ds195585 hp195586 => ?_) (fun _ _ _ _ _ z => z.elim)
                      obtain ⟨o195589, rfl, rfl, hdc, hds, bo195589, ht195590⟩ := hp195586
                      change G _ _ _ _ _ _ _ (.int o195589 :: _) _ _ _
                      refine G_widen (cs' := 0) (sl' := 0) (by omega) (by omega) ?_
                      refine G_if_eq 138 dr_cX17_rename_120 (by decide +kernel) (fun hc195591 => ?_) (fun hc195591 => ?_)
                      · have r195592 : o195589.toInt = 0 := gj_eq hc195591 (show Int32.toInt 0 = 0 by decide)
                        have bo195589' : gB o195589 0 0 := ⟨by omega, by omega⟩
                        obtain ⟨z195593, hz195593⟩ : ∃ z : Int32, z = g194830 + Int32.ofInt 1 := ⟨_, rfl⟩
                        have ez195593 : z195593.toInt = g194830.toInt + 1 := gI_inc hz195593 (by decide) bg194830'' (by decide) (by decide)
                        have bz195593 : gB z195593 1 1000000 := ⟨by omega, by omega⟩
                        refine G_iinc (L' := [(5, .int z195593), (6, .ref q195277), (4, .ref q194014), (3, .int g193954), (0, .ref q171252), (1, .int p171253), (2, .int p171254)]) z195593 1 dr_cX17_rename_138 rfl hz195593.symm (Nat.le_of_ble_eq_true rfl) rfl ?_
                        refine G_goto 20 dr_cX17_rename_141 (by decide +kernel) ?_
                        refine G_lv (L' := [(5, .int z195593), (4, .ref q194014), (3, .int g193954), (0, .ref q171252), (1, .int p171253), (2, .int p171254)]) [0, 2, 3, 4, 5, 6] rfl ?_
                        exact ih20_194833 F195559 z195593 (gB_w bz195593 (by decide) (by decide)) hT195571 hs195569 (fun k e1 ht => kt20_194834 k e1 (fun R c1 c2 c3 c4 c5 c6 c7 c8 c9 c10 c11 c12 c13 c14 c15 c16 c17 c18 c19 c20 c21 c22 c23 c24 c25 c26 c27 c28 c29 c30 c31 c32 c33 c34 c35 c36 c37 c38 c39 c40 c41 c42 c43 c44 c45 c46 c47 c48 c49 c50 c51 c52 c53 c54 c55 => c47 F194831 g194830 q194024 p194845 q195277 p195290 p195295 o195309 p195292 F195559 p195296 o195579 o195589 z195593 k e1 bg194830 hT194832 hs194833 fq194841 fq194852 fq194853 r194863 fq194864 r195265 hx195278 ht195287 fq195302 fq195303 bo195309 ht195311 r195434 fq195435 r195558 n195561 fq195570 fq195572 fq195573 bo195579 ht195581 r195583 bo195589 ht195590 r195592 ez195593 (ht R c1 c2 c3 c4 c5 c6 c7 c8 c9 c10 c11 c12 c13 c14 c15 c16 c17 c18 c19 c20 c21 c22 c23 c24 c25 c26 c27 c28 c29 c30 c31 c32 c33 c34 c35 c36 c37 c38 c39 c40 c41 c42 c43 c44 c45 c46 c47 c48 c49 c50 c51 c52 c53 c54 c55))) (by omega)
                      · have r195594 : o195589.toInt ≠ 0 := gj_neq hc195591 (show Int32.toInt 0 = 0 by decide)
                        have bo195589' : gB o195589 1 1 := ⟨by omega, by omega⟩
                        refine G_aload 0 dr_cX17_rename_123 rfl ?_
                        have fq195595 : fI (F195559 q195277) 1 = p195291 := by rw [he195568]; rfl
                        refine Gp_get 1 hm195288 he195568 dr_cX17_rename_125 (gk_X15 D I) (Nat.le_of_ble_eq_true rfl) wr_9_182 rfl ?_
                        refine G_iload_n 5 dr_cX17_rename_128 rfl ?_
                        refine G_icmp_ne 138 dr_cX17_rename_129 (by decide +kernel) (fun hc195596 => ?_) (fun hc195596 => ?_)
                        · have r195597 : p195291.toInt ≠ p171253.toInt := gC_ne hc195596
                          obtain ⟨z195598, hz195598⟩ : ∃ z : Int32, z = g194830 + Int32.ofInt 1 := ⟨_, rfl⟩
                          have ez195598 : z195598.toInt = g194830.toInt + 1 := gI_inc hz195598 (by decide) bg194830'' (by decide) (by decide)
                          have bz195598 : gB z195598 1 1000000 := ⟨by omega, by omega⟩
                          refine G_iinc (L' := [(5, .int z195598), (6, .ref q195277), (4, .ref q194014), (3, .int g193954), (0, .ref q171252), (1, .int p171253), (2, .int p171254)]) z195598 1 dr_cX17_rename_138 rfl hz195598.symm (Nat.le_of_ble_eq_true rfl) rfl ?_
                          refine G_goto 20 dr_cX17_rename_141 (by decide +kernel) ?_
                          refine G_lv (L' := [(5, .int z195598), (4, .ref q194014), (3, .int g193954), (0, .ref q171252), (1, .int p171253), (2, .int p171254)]) [0, 2, 3, 4, 5, 6] rfl ?_
                          exact ih20_194833 F195559 z195598 (gB_w bz195598 (by decide) (by decide)) hT195571 hs195569 (fun k e1 ht => kt20_194834 k e1 (fun R c1 c2 c3 c4 c5 c6 c7 c8 c9 c10 c11 c12 c13 c14 c15 c16 c17 c18 c19 c20 c21 c22 c23 c24 c25 c26 c27 c28 c29 c30 c31 c32 c33 c34 c35 c36 c37 c38 c39 c40 c41 c42 c43 c44 c45 c46 c47 c48 c49 c50 c51 c52 c53 c54 c55 => c48 F194831 g194830 q194024 p194845 q195277 p195290 p195295 o195309 p195292 F195559 p195296 o195579 o195589 p195291 z195598 k e1 bg194830 hT194832 hs194833 fq194841 fq194852 fq194853 r194863 fq194864 r195265 hx195278 ht195287 fq195302 fq195303 bo195309 ht195311 r195434 fq195435 r195558 n195561 fq195570 fq195572 fq195573 bo195579 ht195581 r195583 bo195589 ht195590 r195594 fq195595 r195597 ez195598 (ht R c1 c2 c3 c4 c5 c6 c7 c8 c9 c10 c11 c12 c13 c14 c15 c16 c17 c18 c19 c20 c21 c22 c23 c24 c25 c26 c27 c28 c29 c30 c31 c32 c33 c34 c35 c36 c37 c38 c39 c40 c41 c42 c43 c44 c45 c46 c47 c48 c49 c50 c51 c52 c53 c54 c55))) (by omega)
                        · have r195599 : p195291.toInt = p171253.toInt := gC_eq hc195596
                          refine G_aload 0 dr_cX17_rename_132 rfl ?_
                          refine G_iload_n 6 dr_cX17_rename_134 rfl ?_
                          refine Gp_put 1 hm195288 he195568 dr_cX17_rename_135 (gk_X15 D I) (Nat.le_of_ble_eq_true rfl) wr_9_182 rfl rfl rfl (Nat.le_of_ble_eq_true rfl) (fun F195600 e195601 n195602 => ?_)
                          have he195603 : F195600 q171252 = .inr (18, [.ref q193963, .ref q193964, .int p193965, .int p193966]) := (n195602 q171252 (rn_oo he195562 he195568 (by decide))).trans he195562
                          have he195604 : F195600 q193963 = .inr (4, [.int p193995, .ref q193997, .int p193996]) := (n195602 q193963 (rn_oo he195563 he195568 (by decide))).trans he195563
                          have he195605 : F195600 q193997 = .inl (I (.object "java/lang/Object"), n194011, .inr (.inr (.inr (.inr f194012)))) := (n195602 q193997 (rn_ao he195564 he195568)).trans he195564
                          have he195606 : F195600 q194014 = .inr (17, [.ref q194024, .ref q194025, .int p194026, .int p194027]) := (n195602 q194014 (rn_oo he195565 he195568 (by decide))).trans he195565
                          have he195607 : F195600 q194024 = .inr (4, [.int p194844, .ref q194846, .int p194845]) := (n195602 q194024 (rn_oo he195566 he195568 (by decide))).trans he195566
                          have he195608 : F195600 q194846 = .inl (I (.object "java/lang/Object"), n195274, .inr (.inr (.inr (.inr f195275)))) := (n195602 q194846 (rn_ao he195567 he195568)).trans he195567
                          have he195609 : F195600 q195277 = .inr (20, [.int p195290, .int p171254, .int p171254, .int p195293, .int p195294, .int p195295, .int p195296]) := e195601
                          have hs195610 : rStr γ [1] F171251 F195600 := rStr_pu2 hs195569 n195602 ht195280 (by decide)
                          have fq195611 : F195600 q195277 = cF (F195559 q195277) 1 (.int p171254) := by rw [he195609, he195568]; rfl
                          obtain ⟨z195612, hz195612⟩ : ∃ z : Int32, z = g194830 + Int32.ofInt 1 := ⟨_, rfl⟩
                          have ez195612 : z195612.toInt = g194830.toInt + 1 := gI_inc hz195612 (by decide) bg194830'' (by decide) (by decide)
                          have bz195612 : gB z195612 1 1000000 := ⟨by omega, by omega⟩
                          refine G_iinc (L' := [(5, .int z195612), (6, .ref q195277), (4, .ref q194014), (3, .int g193954), (0, .ref q171252), (1, .int p171253), (2, .int p171254)]) z195612 1 dr_cX17_rename_138 rfl hz195612.symm (Nat.le_of_ble_eq_true rfl) rfl ?_
                          refine G_goto 20 dr_cX17_rename_141 (by decide +kernel) ?_
                          have hT195613 : RS D I P171250 F195600 γ el := RS_set hT195571 n195602 ht195280 (by decide) ⟨p195290, p171254, p171254, p195293, p195294, p195295, p195296, he195609, bp195290, bp171254, bp195294, bp195295, bp195296, (by omega), (by omega), (by omega), (by omega), (by omega)⟩
                          refine G_lv (L' := [(5, .int z195612), (4, .ref q194014), (3, .int g193954), (0, .ref q171252), (1, .int p171253), (2, .int p171254)]) [0, 2, 3, 4, 5, 6] rfl ?_
                          exact ih20_194833 F195600 z195612 (gB_w bz195612 (by decide) (by decide)) hT195613 hs195610 (fun k e1 ht => kt20_194834 k e1 (fun R c1 c2 c3 c4 c5 c6 c7 c8 c9 c10 c11 c12 c13 c14 c15 c16 c17 c18 c19 c20 c21 c22 c23 c24 c25 c26 c27 c28 c29 c30 c31 c32 c33 c34 c35 c36 c37 c38 c39 c40 c41 c42 c43 c44 c45 c46 c47 c48 c49 c50 c51 c52 c53 c54 c55 => c49 F194831 g194830 q194024 p194845 q195277 p195290 p195295 o195309 p195292 F195559 p195296 o195579 o195589 p195291 F195600 z195612 k e1 bg194830 hT194832 hs194833 fq194841 fq194852 fq194853 r194863 fq194864 r195265 hx195278 ht195287 fq195302 fq195303 bo195309 ht195311 r195434 fq195435 r195558 n195561 fq195570 fq195572 fq195573 bo195579 ht195581 r195583 bo195589 ht195590 r195594 fq195595 r195599 n195602 fq195611 ez195612 (ht R c1 c2 c3 c4 c5 c6 c7 c8 c9 c10 c11 c12 c13 c14 c15 c16 c17 c18 c19 c20 c21 c22 c23 c24 c25 c26 c27 c28 c29 c30 c31 c32 c33 c34 c35 c36 c37 c38 c39 c40 c41 c42 c43 c44 c45 c46 c47 c48 c49 c50 c51 c52 c53 c54 c55))) (by omega)
                    · have r195614 : o195579.toInt ≠ 0 := gj_neq hc195582 (show Int32.toInt 0 = 0 by decide)
                      have bo195579' : gB o195579 1 1 := ⟨by omega, by omega⟩
                      refine G_aload 0 dr_cX17_rename_100 rfl ?_
                      have fq195615 : fI (F195559 q195277) 3 = p195293 := by rw [he195568]; rfl
                      refine Gp_get 3 hm195288 he195568 dr_cX17_rename_102 (gk_X15 D I) (Nat.le_of_ble_eq_true rfl) wr_9_190 rfl ?_
                      refine G_iload_n 5 dr_cX17_rename_105 rfl ?_
                      refine G_icmp_ne 115 dr_cX17_rename_106 (by decide +kernel) (fun hc195616 => ?_) (fun hc195616 => ?_)
                      · have r195617 : p195293.toInt ≠ p171253.toInt := gC_ne hc195616
                        refine G_aload 0 dr_cX17_rename_115 rfl ?_
                        refine Gw_callV (As := []) (gV_ok D I) (cp_1660_Row_sets l hl0 D I P171250 F195559 q195277 p195290 p195291 p171254 p195293 p195294 p195295 p195296 hm195288 he195568 bp195290 bp195291 bp195294 bp195295 bp195296) dr_cX17_rename_117 ⟨wr_10_181, wr_1_39, wr_10_184, by decide, rfl, (Nat.le_of_ble_eq_true rfl), (Nat.le_of_ble_eq_true rfl)⟩ wr_10_182 wr_10_183 hm195288 he195568 rfl (show 0 + 0 ≤ 0 by first | omega | decide) (show 0 + 0 ≤ 0 by first | omega | decide) (Nat.le_of_ble_eq_true rfl) (fun r195621 w195622 dc195618 ds195619 hp195620 => ?_) (fun _ _ _ _ _ z => z.elim)
                        obtain ⟨o195623, rfl, rfl, hdc, hds, bo195623, ht195624⟩ := hp195620
                        change G _ _ _ _ _ _ _ (.int o195623 :: _) _ _ _
                        refine G_widen (cs' := 0) (sl' := 0) (by omega) (by omega) ?_
                        refine G_if_eq 138 dr_cX17_rename_120 (by decide +kernel) (fun hc195625 => ?_) (fun hc195625 => ?_)
                        · have r195626 : o195623.toInt = 0 := gj_eq hc195625 (show Int32.toInt 0 = 0 by decide)
                          have bo195623' : gB o195623 0 0 := ⟨by omega, by omega⟩
                          obtain ⟨z195627, hz195627⟩ : ∃ z : Int32, z = g194830 + Int32.ofInt 1 := ⟨_, rfl⟩
                          have ez195627 : z195627.toInt = g194830.toInt + 1 := gI_inc hz195627 (by decide) bg194830'' (by decide) (by decide)
                          have bz195627 : gB z195627 1 1000000 := ⟨by omega, by omega⟩
                          refine G_iinc (L' := [(5, .int z195627), (6, .ref q195277), (4, .ref q194014), (3, .int g193954), (0, .ref q171252), (1, .int p171253), (2, .int p171254)]) z195627 1 dr_cX17_rename_138 rfl hz195627.symm (Nat.le_of_ble_eq_true rfl) rfl ?_
                          refine G_goto 20 dr_cX17_rename_141 (by decide +kernel) ?_
                          refine G_lv (L' := [(5, .int z195627), (4, .ref q194014), (3, .int g193954), (0, .ref q171252), (1, .int p171253), (2, .int p171254)]) [0, 2, 3, 4, 5, 6] rfl ?_
                          exact ih20_194833 F195559 z195627 (gB_w bz195627 (by decide) (by decide)) hT195571 hs195569 (fun k e1 ht => kt20_194834 k e1 (fun R c1 c2 c3 c4 c5 c6 c7 c8 c9 c10 c11 c12 c13 c14 c15 c16 c17 c18 c19 c20 c21 c22 c23 c24 c25 c26 c27 c28 c29 c30 c31 c32 c33 c34 c35 c36 c37 c38 c39 c40 c41 c42 c43 c44 c45 c46 c47 c48 c49 c50 c51 c52 c53 c54 c55 => c50 F194831 g194830 q194024 p194845 q195277 p195290 p195295 o195309 p195292 F195559 p195296 o195579 p195293 o195623 z195627 k e1 bg194830 hT194832 hs194833 fq194841 fq194852 fq194853 r194863 fq194864 r195265 hx195278 ht195287 fq195302 fq195303 bo195309 ht195311 r195434 fq195435 r195558 n195561 fq195570 fq195572 fq195573 bo195579 ht195581 r195614 fq195615 r195617 bo195623 ht195624 r195626 ez195627 (ht R c1 c2 c3 c4 c5 c6 c7 c8 c9 c10 c11 c12 c13 c14 c15 c16 c17 c18 c19 c20 c21 c22 c23 c24 c25 c26 c27 c28 c29 c30 c31 c32 c33 c34 c35 c36 c37 c38 c39 c40 c41 c42 c43 c44 c45 c46 c47 c48 c49 c50 c51 c52 c53 c54 c55))) (by omega)
                        · have r195628 : o195623.toInt ≠ 0 := gj_neq hc195625 (show Int32.toInt 0 = 0 by decide)
                          have bo195623' : gB o195623 1 1 := ⟨by omega, by omega⟩
                          refine G_aload 0 dr_cX17_rename_123 rfl ?_
                          have fq195629 : fI (F195559 q195277) 1 = p195291 := by rw [he195568]; rfl
                          refine Gp_get 1 hm195288 he195568 dr_cX17_rename_125 (gk_X15 D I) (Nat.le_of_ble_eq_true rfl) wr_9_182 rfl ?_
                          refine G_iload_n 5 dr_cX17_rename_128 rfl ?_
                          refine G_icmp_ne 138 dr_cX17_rename_129 (by decide +kernel) (fun hc195630 => ?_) (fun hc195630 => ?_)
                          · have r195631 : p195291.toInt ≠ p171253.toInt := gC_ne hc195630
                            obtain ⟨z195632, hz195632⟩ : ∃ z : Int32, z = g194830 + Int32.ofInt 1 := ⟨_, rfl⟩
                            have ez195632 : z195632.toInt = g194830.toInt + 1 := gI_inc hz195632 (by decide) bg194830'' (by decide) (by decide)
                            have bz195632 : gB z195632 1 1000000 := ⟨by omega, by omega⟩
                            refine G_iinc (L' := [(5, .int z195632), (6, .ref q195277), (4, .ref q194014), (3, .int g193954), (0, .ref q171252), (1, .int p171253), (2, .int p171254)]) z195632 1 dr_cX17_rename_138 rfl hz195632.symm (Nat.le_of_ble_eq_true rfl) rfl ?_
                            refine G_goto 20 dr_cX17_rename_141 (by decide +kernel) ?_
                            refine G_lv (L' := [(5, .int z195632), (4, .ref q194014), (3, .int g193954), (0, .ref q171252), (1, .int p171253), (2, .int p171254)]) [0, 2, 3, 4, 5, 6] rfl ?_
                            exact ih20_194833 F195559 z195632 (gB_w bz195632 (by decide) (by decide)) hT195571 hs195569 (fun k e1 ht => kt20_194834 k e1 (fun R c1 c2 c3 c4 c5 c6 c7 c8 c9 c10 c11 c12 c13 c14 c15 c16 c17 c18 c19 c20 c21 c22 c23 c24 c25 c26 c27 c28 c29 c30 c31 c32 c33 c34 c35 c36 c37 c38 c39 c40 c41 c42 c43 c44 c45 c46 c47 c48 c49 c50 c51 c52 c53 c54 c55 => c51 F194831 g194830 q194024 p194845 q195277 p195290 p195295 o195309 p195292 F195559 p195296 o195579 p195293 o195623 p195291 z195632 k e1 bg194830 hT194832 hs194833 fq194841 fq194852 fq194853 r194863 fq194864 r195265 hx195278 ht195287 fq195302 fq195303 bo195309 ht195311 r195434 fq195435 r195558 n195561 fq195570 fq195572 fq195573 bo195579 ht195581 r195614 fq195615 r195617 bo195623 ht195624 r195628 fq195629 r195631 ez195632 (ht R c1 c2 c3 c4 c5 c6 c7 c8 c9 c10 c11 c12 c13 c14 c15 c16 c17 c18 c19 c20 c21 c22 c23 c24 c25 c26 c27 c28 c29 c30 c31 c32 c33 c34 c35 c36 c37 c38 c39 c40 c41 c42 c43 c44 c45 c46 c47 c48 c49 c50 c51 c52 c53 c54 c55))) (by omega)
                          · have r195633 : p195291.toInt = p171253.toInt := gC_eq hc195630
                            refine G_aload 0 dr_cX17_rename_132 rfl ?_
                            refine G_iload_n 6 dr_cX17_rename_134 rfl ?_
                            refine Gp_put 1 hm195288 he195568 dr_cX17_rename_135 (gk_X15 D I) (Nat.le_of_ble_eq_true rfl) wr_9_182 rfl rfl rfl (Nat.le_of_ble_eq_true rfl) (fun F195634 e195635 n195636 => ?_)
                            have he195637 : F195634 q171252 = .inr (18, [.ref q193963, .ref q193964, .int p193965, .int p193966]) := (n195636 q171252 (rn_oo he195562 he195568 (by decide))).trans he195562
                            have he195638 : F195634 q193963 = .inr (4, [.int p193995, .ref q193997, .int p193996]) := (n195636 q193963 (rn_oo he195563 he195568 (by decide))).trans he195563
                            have he195639 : F195634 q193997 = .inl (I (.object "java/lang/Object"), n194011, .inr (.inr (.inr (.inr f194012)))) := (n195636 q193997 (rn_ao he195564 he195568)).trans he195564
                            have he195640 : F195634 q194014 = .inr (17, [.ref q194024, .ref q194025, .int p194026, .int p194027]) := (n195636 q194014 (rn_oo he195565 he195568 (by decide))).trans he195565
                            have he195641 : F195634 q194024 = .inr (4, [.int p194844, .ref q194846, .int p194845]) := (n195636 q194024 (rn_oo he195566 he195568 (by decide))).trans he195566
                            have he195642 : F195634 q194846 = .inl (I (.object "java/lang/Object"), n195274, .inr (.inr (.inr (.inr f195275)))) := (n195636 q194846 (rn_ao he195567 he195568)).trans he195567
                            have he195643 : F195634 q195277 = .inr (20, [.int p195290, .int p171254, .int p171254, .int p195293, .int p195294, .int p195295, .int p195296]) := e195635
                            have hs195644 : rStr γ [1] F171251 F195634 := rStr_pu2 hs195569 n195636 ht195280 (by decide)
                            have fq195645 : F195634 q195277 = cF (F195559 q195277) 1 (.int p171254) := by rw [he195643, he195568]; rfl
                            obtain ⟨z195646, hz195646⟩ : ∃ z : Int32, z = g194830 + Int32.ofInt 1 := ⟨_, rfl⟩
                            have ez195646 : z195646.toInt = g194830.toInt + 1 := gI_inc hz195646 (by decide) bg194830'' (by decide) (by decide)
                            have bz195646 : gB z195646 1 1000000 := ⟨by omega, by omega⟩
                            refine G_iinc (L' := [(5, .int z195646), (6, .ref q195277), (4, .ref q194014), (3, .int g193954), (0, .ref q171252), (1, .int p171253), (2, .int p171254)]) z195646 1 dr_cX17_rename_138 rfl hz195646.symm (Nat.le_of_ble_eq_true rfl) rfl ?_
                            refine G_goto 20 dr_cX17_rename_141 (by decide +kernel) ?_
                            have hT195647 : RS D I P171250 F195634 γ el := RS_set hT195571 n195636 ht195280 (by decide) ⟨p195290, p171254, p171254, p195293, p195294, p195295, p195296, he195643, bp195290, bp171254, bp195294, bp195295, bp195296, (by omega), (by omega), (by omega), (by omega), (by omega)⟩
                            refine G_lv (L' := [(5, .int z195646), (4, .ref q194014), (3, .int g193954), (0, .ref q171252), (1, .int p171253), (2, .int p171254)]) [0, 2, 3, 4, 5, 6] rfl ?_
                            exact ih20_194833 F195634 z195646 (gB_w bz195646 (by decide) (by decide)) hT195647 hs195644 (fun k e1 ht => kt20_194834 k e1 (fun R c1 c2 c3 c4 c5 c6 c7 c8 c9 c10 c11 c12 c13 c14 c15 c16 c17 c18 c19 c20 c21 c22 c23 c24 c25 c26 c27 c28 c29 c30 c31 c32 c33 c34 c35 c36 c37 c38 c39 c40 c41 c42 c43 c44 c45 c46 c47 c48 c49 c50 c51 c52 c53 c54 c55 => c52 F194831 g194830 q194024 p194845 q195277 p195290 p195295 o195309 p195292 F195559 p195296 o195579 p195293 o195623 p195291 F195634 z195646 k e1 bg194830 hT194832 hs194833 fq194841 fq194852 fq194853 r194863 fq194864 r195265 hx195278 ht195287 fq195302 fq195303 bo195309 ht195311 r195434 fq195435 r195558 n195561 fq195570 fq195572 fq195573 bo195579 ht195581 r195614 fq195615 r195617 bo195623 ht195624 r195628 fq195629 r195633 n195636 fq195645 ez195646 (ht R c1 c2 c3 c4 c5 c6 c7 c8 c9 c10 c11 c12 c13 c14 c15 c16 c17 c18 c19 c20 c21 c22 c23 c24 c25 c26 c27 c28 c29 c30 c31 c32 c33 c34 c35 c36 c37 c38 c39 c40 c41 c42 c43 c44 c45 c46 c47 c48 c49 c50 c51 c52 c53 c54 c55))) (by omega)
                      · have r195648 : p195293.toInt = p171253.toInt := gC_eq hc195616
                        have bp195293' : gB p195293 0 1999 := ⟨by omega, by omega⟩
                        refine G_aload 0 dr_cX17_rename_109 rfl ?_
                        refine G_iload_n 6 dr_cX17_rename_111 rfl ?_
                        refine Gp_put 3 hm195288 he195568 dr_cX17_rename_112 (gk_X15 D I) (Nat.le_of_ble_eq_true rfl) wr_9_190 rfl rfl rfl (Nat.le_of_ble_eq_true rfl) (fun F195649 e195650 n195651 => ?_)
                        have he195652 : F195649 q171252 = .inr (18, [.ref q193963, .ref q193964, .int p193965, .int p193966]) := (n195651 q171252 (rn_oo he195562 he195568 (by decide))).trans he195562
                        have he195653 : F195649 q193963 = .inr (4, [.int p193995, .ref q193997, .int p193996]) := (n195651 q193963 (rn_oo he195563 he195568 (by decide))).trans he195563
                        have he195654 : F195649 q193997 = .inl (I (.object "java/lang/Object"), n194011, .inr (.inr (.inr (.inr f194012)))) := (n195651 q193997 (rn_ao he195564 he195568)).trans he195564
                        have he195655 : F195649 q194014 = .inr (17, [.ref q194024, .ref q194025, .int p194026, .int p194027]) := (n195651 q194014 (rn_oo he195565 he195568 (by decide))).trans he195565
                        have he195656 : F195649 q194024 = .inr (4, [.int p194844, .ref q194846, .int p194845]) := (n195651 q194024 (rn_oo he195566 he195568 (by decide))).trans he195566
                        have he195657 : F195649 q194846 = .inl (I (.object "java/lang/Object"), n195274, .inr (.inr (.inr (.inr f195275)))) := (n195651 q194846 (rn_ao he195567 he195568)).trans he195567
                        have he195658 : F195649 q195277 = .inr (20, [.int p195290, .int p195291, .int p171254, .int p171254, .int p195294, .int p195295, .int p195296]) := e195650
                        have hs195659 : rStr γ [1] F171251 F195649 := rStr_pu2 hs195569 n195651 ht195280 (by decide)
                        have fq195660 : F195649 q195277 = cF (F195559 q195277) 3 (.int p171254) := by rw [he195658, he195568]; rfl
                        refine G_aload 0 dr_cX17_rename_115 rfl ?_
                        have hT195661 : RS D I P171250 F195649 γ el := RS_set hT195571 n195651 ht195280 (by decide) ⟨p195290, p195291, p171254, p171254, p195294, p195295, p195296, he195658, bp195290, bp195291, bp195294, bp195295, bp195296, (by omega), (by omega), (by omega), (by omega), (by omega)⟩
                        have fq195662 : fI (F195649 q195277) 0 = p195290 := by rw [he195658]; rfl
                        refine Gw_callV (As := []) (gV_ok D I) (cp_1660_Row_sets l hl0 D I P171250 F195649 q195277 p195290 p195291 p171254 p171254 p195294 p195295 p195296 hm195288 he195658 bp195290 bp195291 bp195294 bp195295 bp195296) dr_cX17_rename_117 ⟨wr_10_181, wr_1_39, wr_10_184, by decide, rfl, (Nat.le_of_ble_eq_true rfl), (Nat.le_of_ble_eq_true rfl)⟩ wr_10_182 wr_10_183 hm195288 he195658 rfl (show 0 + 0 ≤ 0 by first | omega | decide) (show 0 + 0 ≤ 0 by first | omega | decide) (Nat.le_of_ble_eq_true rfl) (fun r195666 w195667 dc195663 ds195664 hp195665 => ?_) (fun _ _ _ _ _ z => z.elim)
                        obtain ⟨o195668, rfl, rfl, hdc, hds, bo195668, ht195669⟩ := hp195665
                        change G _ _ _ _ _ _ _ (.int o195668 :: _) _ _ _
                        refine G_widen (cs' := 0) (sl' := 0) (by omega) (by omega) ?_
                        refine G_if_eq 138 dr_cX17_rename_120 (by decide +kernel) (fun hc195670 => ?_) (fun hc195670 => ?_)
                        · have r195671 : o195668.toInt = 0 := gj_eq hc195670 (show Int32.toInt 0 = 0 by decide)
                          have bo195668' : gB o195668 0 0 := ⟨by omega, by omega⟩
                          obtain ⟨z195672, hz195672⟩ : ∃ z : Int32, z = g194830 + Int32.ofInt 1 := ⟨_, rfl⟩
                          have ez195672 : z195672.toInt = g194830.toInt + 1 := gI_inc hz195672 (by decide) bg194830'' (by decide) (by decide)
                          have bz195672 : gB z195672 1 1000000 := ⟨by omega, by omega⟩
                          refine G_iinc (L' := [(5, .int z195672), (6, .ref q195277), (4, .ref q194014), (3, .int g193954), (0, .ref q171252), (1, .int p171253), (2, .int p171254)]) z195672 1 dr_cX17_rename_138 rfl hz195672.symm (Nat.le_of_ble_eq_true rfl) rfl ?_
                          refine G_goto 20 dr_cX17_rename_141 (by decide +kernel) ?_
                          refine G_lv (L' := [(5, .int z195672), (4, .ref q194014), (3, .int g193954), (0, .ref q171252), (1, .int p171253), (2, .int p171254)]) [0, 2, 3, 4, 5, 6] rfl ?_
                          exact ih20_194833 F195649 z195672 (gB_w bz195672 (by decide) (by decide)) hT195661 hs195659 (fun k e1 ht => kt20_194834 k e1 (fun R c1 c2 c3 c4 c5 c6 c7 c8 c9 c10 c11 c12 c13 c14 c15 c16 c17 c18 c19 c20 c21 c22 c23 c24 c25 c26 c27 c28 c29 c30 c31 c32 c33 c34 c35 c36 c37 c38 c39 c40 c41 c42 c43 c44 c45 c46 c47 c48 c49 c50 c51 c52 c53 c54 c55 => c53 F194831 g194830 q194024 p194845 q195277 p195290 p195295 o195309 p195292 F195559 p195296 o195579 p195293 F195649 o195668 z195672 k e1 bg194830 hT194832 hs194833 fq194841 fq194852 fq194853 r194863 fq194864 r195265 hx195278 ht195287 fq195302 fq195303 bo195309 ht195311 r195434 fq195435 r195558 n195561 fq195570 fq195572 fq195573 bo195579 ht195581 r195614 fq195615 r195648 n195651 fq195660 fq195662 bo195668 ht195669 r195671 ez195672 (ht R c1 c2 c3 c4 c5 c6 c7 c8 c9 c10 c11 c12 c13 c14 c15 c16 c17 c18 c19 c20 c21 c22 c23 c24 c25 c26 c27 c28 c29 c30 c31 c32 c33 c34 c35 c36 c37 c38 c39 c40 c41 c42 c43 c44 c45 c46 c47 c48 c49 c50 c51 c52 c53 c54 c55))) (by omega)
                        · have r195673 : o195668.toInt ≠ 0 := gj_neq hc195670 (show Int32.toInt 0 = 0 by decide)
                          have bo195668' : gB o195668 1 1 := ⟨by omega, by omega⟩
                          refine G_aload 0 dr_cX17_rename_123 rfl ?_
                          have fq195674 : fI (F195649 q195277) 1 = p195291 := by rw [he195658]; rfl
                          refine Gp_get 1 hm195288 he195658 dr_cX17_rename_125 (gk_X15 D I) (Nat.le_of_ble_eq_true rfl) wr_9_182 rfl ?_
                          refine G_iload_n 5 dr_cX17_rename_128 rfl ?_
                          refine G_icmp_ne 138 dr_cX17_rename_129 (by decide +kernel) (fun hc195675 => ?_) (fun hc195675 => ?_)
                          · have r195676 : p195291.toInt ≠ p171253.toInt := gC_ne hc195675
                            obtain ⟨z195677, hz195677⟩ : ∃ z : Int32, z = g194830 + Int32.ofInt 1 := ⟨_, rfl⟩
                            have ez195677 : z195677.toInt = g194830.toInt + 1 := gI_inc hz195677 (by decide) bg194830'' (by decide) (by decide)
                            have bz195677 : gB z195677 1 1000000 := ⟨by omega, by omega⟩
                            refine G_iinc (L' := [(5, .int z195677), (6, .ref q195277), (4, .ref q194014), (3, .int g193954), (0, .ref q171252), (1, .int p171253), (2, .int p171254)]) z195677 1 dr_cX17_rename_138 rfl hz195677.symm (Nat.le_of_ble_eq_true rfl) rfl ?_
                            refine G_goto 20 dr_cX17_rename_141 (by decide +kernel) ?_
                            refine G_lv (L' := [(5, .int z195677), (4, .ref q194014), (3, .int g193954), (0, .ref q171252), (1, .int p171253), (2, .int p171254)]) [0, 2, 3, 4, 5, 6] rfl ?_
                            exact ih20_194833 F195649 z195677 (gB_w bz195677 (by decide) (by decide)) hT195661 hs195659 (fun k e1 ht => kt20_194834 k e1 (fun R c1 c2 c3 c4 c5 c6 c7 c8 c9 c10 c11 c12 c13 c14 c15 c16 c17 c18 c19 c20 c21 c22 c23 c24 c25 c26 c27 c28 c29 c30 c31 c32 c33 c34 c35 c36 c37 c38 c39 c40 c41 c42 c43 c44 c45 c46 c47 c48 c49 c50 c51 c52 c53 c54 c55 => c54 F194831 g194830 q194024 p194845 q195277 p195290 p195295 o195309 p195292 F195559 p195296 o195579 p195293 F195649 o195668 p195291 z195677 k e1 bg194830 hT194832 hs194833 fq194841 fq194852 fq194853 r194863 fq194864 r195265 hx195278 ht195287 fq195302 fq195303 bo195309 ht195311 r195434 fq195435 r195558 n195561 fq195570 fq195572 fq195573 bo195579 ht195581 r195614 fq195615 r195648 n195651 fq195660 fq195662 bo195668 ht195669 r195673 fq195674 r195676 ez195677 (ht R c1 c2 c3 c4 c5 c6 c7 c8 c9 c10 c11 c12 c13 c14 c15 c16 c17 c18 c19 c20 c21 c22 c23 c24 c25 c26 c27 c28 c29 c30 c31 c32 c33 c34 c35 c36 c37 c38 c39 c40 c41 c42 c43 c44 c45 c46 c47 c48 c49 c50 c51 c52 c53 c54 c55))) (by omega)
                          · have r195678 : p195291.toInt = p171253.toInt := gC_eq hc195675
                            refine G_aload 0 dr_cX17_rename_132 rfl ?_
                            refine G_iload_n 6 dr_cX17_rename_134 rfl ?_
                            refine Gp_put 1 hm195288 he195658 dr_cX17_rename_135 (gk_X15 D I) (Nat.le_of_ble_eq_true rfl) wr_9_182 rfl rfl rfl (Nat.le_of_ble_eq_true rfl) (fun F195679 e195680 n195681 => ?_)
                            have he195682 : F195679 q171252 = .inr (18, [.ref q193963, .ref q193964, .int p193965, .int p193966]) := (n195681 q171252 (rn_oo he195652 he195658 (by decide))).trans he195652
                            have he195683 : F195679 q193963 = .inr (4, [.int p193995, .ref q193997, .int p193996]) := (n195681 q193963 (rn_oo he195653 he195658 (by decide))).trans he195653
                            have he195684 : F195679 q193997 = .inl (I (.object "java/lang/Object"), n194011, .inr (.inr (.inr (.inr f194012)))) := (n195681 q193997 (rn_ao he195654 he195658)).trans he195654
                            have he195685 : F195679 q194014 = .inr (17, [.ref q194024, .ref q194025, .int p194026, .int p194027]) := (n195681 q194014 (rn_oo he195655 he195658 (by decide))).trans he195655
                            have he195686 : F195679 q194024 = .inr (4, [.int p194844, .ref q194846, .int p194845]) := (n195681 q194024 (rn_oo he195656 he195658 (by decide))).trans he195656
                            have he195687 : F195679 q194846 = .inl (I (.object "java/lang/Object"), n195274, .inr (.inr (.inr (.inr f195275)))) := (n195681 q194846 (rn_ao he195657 he195658)).trans he195657
                            have he195688 : F195679 q195277 = .inr (20, [.int p195290, .int p171254, .int p171254, .int p171254, .int p195294, .int p195295, .int p195296]) := e195680
                            have hs195689 : rStr γ [1] F171251 F195679 := rStr_pu2 hs195659 n195681 ht195280 (by decide)
                            have fq195690 : F195679 q195277 = cF (F195649 q195277) 1 (.int p171254) := by rw [he195688, he195658]; rfl
                            obtain ⟨z195691, hz195691⟩ : ∃ z : Int32, z = g194830 + Int32.ofInt 1 := ⟨_, rfl⟩
                            have ez195691 : z195691.toInt = g194830.toInt + 1 := gI_inc hz195691 (by decide) bg194830'' (by decide) (by decide)
                            have bz195691 : gB z195691 1 1000000 := ⟨by omega, by omega⟩
                            refine G_iinc (L' := [(5, .int z195691), (6, .ref q195277), (4, .ref q194014), (3, .int g193954), (0, .ref q171252), (1, .int p171253), (2, .int p171254)]) z195691 1 dr_cX17_rename_138 rfl hz195691.symm (Nat.le_of_ble_eq_true rfl) rfl ?_
                            refine G_goto 20 dr_cX17_rename_141 (by decide +kernel) ?_
                            have hT195692 : RS D I P171250 F195679 γ el := RS_set hT195661 n195681 ht195280 (by decide) ⟨p195290, p171254, p171254, p171254, p195294, p195295, p195296, he195688, bp195290, bp171254, bp195294, bp195295, bp195296, (by omega), (by omega), (by omega), (by omega), (by omega)⟩
                            refine G_lv (L' := [(5, .int z195691), (4, .ref q194014), (3, .int g193954), (0, .ref q171252), (1, .int p171253), (2, .int p171254)]) [0, 2, 3, 4, 5, 6] rfl ?_
                            exact ih20_194833 F195679 z195691 (gB_w bz195691 (by decide) (by decide)) hT195692 hs195689 (fun k e1 ht => kt20_194834 k e1 (fun R c1 c2 c3 c4 c5 c6 c7 c8 c9 c10 c11 c12 c13 c14 c15 c16 c17 c18 c19 c20 c21 c22 c23 c24 c25 c26 c27 c28 c29 c30 c31 c32 c33 c34 c35 c36 c37 c38 c39 c40 c41 c42 c43 c44 c45 c46 c47 c48 c49 c50 c51 c52 c53 c54 c55 => c55 F194831 g194830 q194024 p194845 q195277 p195290 p195295 o195309 p195292 F195559 p195296 o195579 p195293 F195649 o195668 p195291 F195679 z195691 k e1 bg194830 hT194832 hs194833 fq194841 fq194852 fq194853 r194863 fq194864 r195265 hx195278 ht195287 fq195302 fq195303 bo195309 ht195311 r195434 fq195435 r195558 n195561 fq195570 fq195572 fq195573 bo195579 ht195581 r195614 fq195615 r195648 n195651 fq195660 fq195662 bo195668 ht195669 r195673 fq195674 r195678 n195681 fq195690 ez195691 (ht R c1 c2 c3 c4 c5 c6 c7 c8 c9 c10 c11 c12 c13 c14 c15 c16 c17 c18 c19 c20 c21 c22 c23 c24 c25 c26 c27 c28 c29 c30 c31 c32 c33 c34 c35 c36 c37 c38 c39 c40 c41 c42 c43 c44 c45 c46 c47 c48 c49 c50 c51 c52 c53 c54 c55))) (by omega)
        exact hlp20_194833 (((1000002 : Int) - 0).toNat + 1) F193955 0 (gB_w (gBl (show Int32.toInt 0 = 0 by decide)) (by decide) (by decide)) hT193956 hs193957 (fun k e1 ht => ht) (Nat.lt_succ_self _)
  exact hlp2_193957 (((1000001 : Int) - 0).toNat + 1) F171251 0 (gB_w (gBl (show Int32.toInt 0 = 0 by decide)) (by decide) (by decide)) hT (rStr_rf (γ := γ) (W := [1]) (F := F171251)) (fun k e1 ht => ht) (Nat.lt_succ_self _)
/- tr_RModel_load: result, P, F, gm, el -/
def tr_RModel_load (D : va_G) (I : FieldType → ClassId) (γ0 el0 : Nat → Nat → Nat) (f : Nat) (P : List Nat) (F : Nat → va_E) (q0 : Nat) (q1 : Nat) (q2 : Nat) (a3 : Int32) (a4 : Int32) (o1 : Int32) (o2 : List Nat) (o3 : Nat → va_E) (o4 : Nat → Nat → Nat) (o5 : Nat → Nat → Nat) : Prop := ∀ R : (Int32) → (List Nat) → (Nat → va_E) → (Nat → Nat → Nat) → (Nat → Nat → Nat) → Prop,
  (∀ (x1 : Nat → Nat → Nat) (x2 : Nat → Nat → Nat) (x3 : Int32) (x4 : List Nat) (x5 : Nat → va_E) (x6 : Nat → Nat → Nat) (x7 : Nat → Nat → Nat) (x8 : Nat) (x9 : Nat) (x10 : Nat) (x11 : Nat → va_E) (x12 : Int32) (x13 : Nat → va_E) (x14 : Nat → va_E) (x15 : Nat) (x16 : List Nat) (x17 : Nat → va_E) (x18 : Nat → Nat → Nat) (x19 : Nat → Nat → Nat) (x20 : Nat) (x21 : Nat) (x22 : Int32) (x23 : Int32) (x24 : Nat → va_E) (x25 : Int32), x1 = γ0 → x2 = el0 → fI (F q0) 14 = x3 → x3.toInt ≠ 2000 → rRq D I P F x1 x2 f q1 x4 x5 x6 x7 x8 x9 x10 → (∀ b, b ≠ x8 → x11 b = x5 b) → x11 x8 = cF (x5 x8) 0 (.int 21) → fI (x11 q0) 14 = x12 → (∀ b, b ≠ x8 → x13 b = x11 b) → x13 x8 = cF (x11 x8) 1 (.int x12) → (∀ b, b ≠ x8 → x14 b = x13 b) → x14 x8 = cF (x13 x8) 4 (.int a4) → fR (x14 q2) 0 = x15 → rIq D I x4 x14 x6 x7 f x15 a3.toInt.toNat x8 x16 x17 x18 x19 x20 x21 → fI (x17 q0) 14 = x22 → x23.toInt = x22.toInt + 1 → (∀ b, b ≠ q0 → x24 b = x17 b) → x24 q0 = cF (x17 q0) 14 (.int x23) → fI (x24 x8) 1 = x25 → R x25 x16 x24 x18 x19) →
  (∀ (x1 : Nat → Nat → Nat) (x2 : Nat → Nat → Nat) (x3 : Int32), x1 = γ0 → x2 = el0 → fI (F q0) 14 = x3 → x3.toInt = 2000 → R (-1 : Int32) P F x1 x2) →
  R o1 o2 o3 o4 o5
