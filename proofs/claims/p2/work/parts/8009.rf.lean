theorem dr_cX17_run__0 : decode cX17_run_ 0 = .ok (.aload_n 0, 1) := by decide +kernel
theorem dr_cX17_run__1 : decode cX17_run_ 1 = .ok (.iconst 0, 1) := by decide +kernel
theorem dr_cX17_run__2 : decode cX17_run_ 2 = .ok (.putfield 380, 3) := by decide +kernel
theorem dr_cX17_run__5 : decode cX17_run_ 5 = .ok (.iload_n 2, 1) := by decide +kernel
theorem dr_cX17_run__6 : decode cX17_run_ 6 = .ok (.iconst 1, 1) := by decide +kernel
theorem dr_cX17_run__7 : decode cX17_run_ 7 = .ok (.if_icmp .lt 10, 3) := by decide +kernel
theorem dr_cX17_run__17 : decode cX17_run_ 17 = .ok (.aload_n 0, 1) := by decide +kernel
theorem dr_cX17_run__18 : decode cX17_run_ 18 = .ok (.iconst 1, 1) := by decide +kernel
theorem dr_cX17_run__19 : decode cX17_run_ 19 = .ok (.invokevirtual 385, 3) := by decide +kernel
theorem dr_cX17_run__22 : decode cX17_run_ 22 = .ok (.ireturn, 1) := by decide +kernel
theorem dr_cX17_run__10 : decode cX17_run_ 10 = .ok (.iload_n 2, 1) := by decide +kernel
theorem dr_cX17_run__11 : decode cX17_run_ 11 = .ok (.ldc_w 434, 3) := by decide +kernel
theorem wr_11_91 : (Jvm.Cond.constant "SpillForgeModel" (434 : Nat) (100000 : Int32)) ∈ gw := gw_11 91 rfl rfl
theorem dr_cX17_run__14 : decode cX17_run_ 14 = .ok (.if_icmp .le 9, 3) := by decide +kernel
theorem dr_cX17_run__23 : decode cX17_run_ 23 = .ok (.iload_n 1, 1) := by decide +kernel
theorem dr_cX17_run__24 : decode cX17_run_ 24 = .ok (.ifCond .eq 13, 3) := by decide +kernel
theorem dr_cX17_run__37 : decode cX17_run_ 37 = .ok (.aload_n 0, 1) := by decide +kernel
theorem dr_cX17_run__38 : decode cX17_run_ 38 = .ok (.getfield 414, 3) := by decide +kernel
theorem wr_7_83 : (Jvm.Cond.fieldLink "SpillForgeModel" (414 : Nat) "SpillForgeModel" "program" "Z") ∈ gw := gw_7 83 rfl rfl
theorem dr_cX17_run__41 : decode cX17_run_ 41 = .ok (.ifCond .ne 9, 3) := by decide +kernel
theorem dr_cX17_run__50 : decode cX17_run_ 50 = .ok (.aload_n 0, 1) := by decide +kernel
theorem dr_cX17_run__51 : decode cX17_run_ 51 = .ok (.aload_n 0, 1) := by decide +kernel
theorem dr_cX17_run__52 : decode cX17_run_ 52 = .ok (.iload_n 1, 1) := by decide +kernel
theorem dr_cX17_run__53 : decode cX17_run_ 53 = .ok (.ifCond .eq 10, 3) := by decide +kernel
theorem dr_cX17_run__63 : decode cX17_run_ 63 = .ok (.aload_n 0, 1) := by decide +kernel
theorem dr_cX17_run__64 : decode cX17_run_ 64 = .ok (.getfield 361, 3) := by decide +kernel
theorem wr_7_80 : (Jvm.Cond.fieldLink "SpillForgeModel" (361 : Nat) "SpillForgeModel" "code" "LSpillForgeModel$Code;") ∈ gw := gw_7 80 rfl rfl
theorem dr_cX17_run__67 : decode cX17_run_ 67 = .ok (.iload_n 2, 1) := by decide +kernel
theorem dr_cX17_run__68 : decode cX17_run_ 68 = .ok (.invokevirtual 435, 3) := by decide +kernel
theorem wr_11_92 : (Jvm.Cond.methodLink "SpillForgeModel" (435 : Nat) ({ cls := "SpillForgeModel", name := "run", desc := "(LSpillForgeModel$Code;I)I" } : Jvm.MethodName)) ∈ gw := gw_11 92 rfl rfl
theorem wr_11_95 : (Jvm.Cond.code ({ cls := "SpillForgeModel", name := "run", desc := "(LSpillForgeModel$Code;I)I" } : Jvm.MethodName) prog_14_method_29_code (7 : Nat) (Option.some Jvm.ClassFile.FieldType.int)) ∈ gw := gw_11 95 rfl rfl
theorem wr_11_94 : (Jvm.Cond.instanceMethod ({ cls := "SpillForgeModel", name := "run", desc := "(LSpillForgeModel$Code;I)I" } : Jvm.MethodName)) ∈ gw := gw_11 94 rfl rfl
theorem wr_p_113 : Cond.selects "SpillForgeModel" ⟨"SpillForgeModel", "run", "(LSpillForgeModel$Code;I)I"⟩ ⟨"SpillForgeModel", "run", "(LSpillForgeModel$Code;I)I"⟩ ∈ gw := gw_p _ 113 rfl rfl rfl
theorem dr_cX17_run__71 : decode cX17_run_ 71 = .ok (.putfield 371, 3) := by decide +kernel
theorem dr_cX17_run__74 : decode cX17_run_ 74 = .ok (.aload_n 0, 1) := by decide +kernel
theorem dr_cX17_run__75 : decode cX17_run_ 75 = .ok (.getfield 371, 3) := by decide +kernel
theorem dr_cX17_run__78 : decode cX17_run_ 78 = .ok (.ireturn, 1) := by decide +kernel
theorem dr_cX17_run__44 : decode cX17_run_ 44 = .ok (.aload_n 0, 1) := by decide +kernel
theorem dr_cX17_run__45 : decode cX17_run_ 45 = .ok (.iconst 2, 1) := by decide +kernel
theorem dr_cX17_run__46 : decode cX17_run_ 46 = .ok (.invokevirtual 385, 3) := by decide +kernel
theorem dr_cX17_run__49 : decode cX17_run_ 49 = .ok (.ireturn, 1) := by decide +kernel
theorem dr_cX17_run__27 : decode cX17_run_ 27 = .ok (.aload_n 0, 1) := by decide +kernel
theorem dr_cX17_run__28 : decode cX17_run_ 28 = .ok (.getfield 416, 3) := by decide +kernel
theorem wr_7_84 : (Jvm.Cond.fieldLink "SpillForgeModel" (416 : Nat) "SpillForgeModel" "isGiven" "Z") ∈ gw := gw_7 84 rfl rfl
theorem dr_cX17_run__31 : decode cX17_run_ 31 = .ok (.ifCond .ne 19, 3) := by decide +kernel
theorem dr_cX17_run__56 : decode cX17_run_ 56 = .ok (.aload_n 0, 1) := by decide +kernel
theorem dr_cX17_run__57 : decode cX17_run_ 57 = .ok (.getfield 365, 3) := by decide +kernel
theorem wr_7_81 : (Jvm.Cond.fieldLink "SpillForgeModel" (365 : Nat) "SpillForgeModel" "given" "LSpillForgeModel$Code;") ∈ gw := gw_7 81 rfl rfl
theorem dr_cX17_run__60 : decode cX17_run_ 60 = .ok (.goto 7, 3) := by decide +kernel
theorem dr_cX17_run__34 : decode cX17_run_ 34 = .ok (.goto 10, 3) := by decide +kernel
abbrev ky_628739_SpillForgeModel_run : gKey := (cX17_run, 7, "SpillForgeModel", (some FieldType.int), [], "run", fun _ _ => True)
def pt_628739_SpillForgeModel_run (D : va_G) (I : FieldType → ClassId) (γ el : Nat → Nat → Nat) (P628733 : List Nat) (F628734 : Nat → va_E) (q628735 : Nat) (q628736 : Nat) (p628737 : Int32) : Option Value → va_W → Nat → Nat → Prop := fun r w dc ds => ∃ (F633892 : Nat → va_E) (o633891 : Int32), r = some (.int o633891) ∧ w = va_pl P628733 F633892 ∧ RS D I P628733 F633892 γ el ∧ rStr γ [] F628734 F633892 ∧ dc ≤ 0 ∧ ds ≤ 0 ∧ gB o633891 0 5 ∧ (fI (F633892 q628735) 9).toInt = (fI (F628734 q628735) 9).toInt ∧ (fI (F633892 q628735) 10).toInt = (fI (F628734 q628735) 10).toInt ∧ (fI (F633892 q628735) 32).toInt = (fI (F628734 q628735) 32).toInt
set_option maxRecDepth 100000 in
set_option maxHeartbeats 4000000 in
theorem ct_628739_SpillForgeModel_run (l : Launch) (hl0 : l.stackTraces = false) (D : va_G) (I : FieldType → ClassId) (γ el : Nat → Nat → Nat) (P628733 : List Nat) (F628734 : Nat → va_E) (q628735 : Nat) (q628736 : Nat) (p628737 : Int32) (hT : RS D I P628733 F628734 γ el) (htq628735 : rKd γ q628735 10) (htq628736 : rKd γ q628736 9) (bp628737 : gB p628737 1 100000) (x628738 : 0 < γ 6 (γ 1 q628736)) : CtA (gV D I) l yX17_run cX17_run 7 (some FieldType.int) 4 85 0 0 [.ref q628735, .ref q628736, .int p628737] (va_pl P628733 F628734) (pt_628739_SpillForgeModel_run D I γ el P628733 F628734 q628735 q628736 p628737) gNA := by
  refine CtA_of hl0 (by decide) (Nat.le_of_ble_eq_true rfl) ?_
  have hm628740 : q628735 ∈ P628733 := RS_m hT htq628735 (by decide)
  refine rk10_e (show rk_10 γ (F628734 q628735) from RS_o hT htq628735) (fun q628742 q628743 p628744 p628745 p628746 p628747 p628748 p628749 p628750 p628751 p628752 p628753 p628754 p628755 p628756 p628757 p628758 he628741 hB628785 ht628759 ht628760 ht628761 ht628762 ht628763 ht628764 ht628765 ht628766 ht628767 ht628768 ht628769 ht628770 ht628771 ht628772 ht628773 ht628774 ht628775 ht628776 ht628777 ht628778 ht628779 ht628780 ht628781 ht628782 hB628786 => ?_)
  have ac628787 : (fI (F628734 q628735) 26).toInt = p628753.toInt := by rw [he628741]; rfl
  have bp628753 : gB p628753 0 100000 := (hB628785.2.2.2.2.2.1)
  have ac628788 : (fI (F628734 q628735) 9).toInt = p628744.toInt := by rw [he628741]; rfl
  have bp628744 : gB p628744 0 1 := (hB628785.1)
  have ac628789 : (fI (F628734 q628735) 10).toInt = p628745.toInt := by rw [he628741]; rfl
  have bp628745 : gB p628745 0 1 := (hB628785.2.1)
  have ac628790 : (fI (F628734 q628735) 32).toInt = p628756.toInt := by rw [he628741]; rfl
  have bp628756 : gB p628756 0 8192 := (hB628785.2.2.2.2.2.2.2.1)
  refine G_iconst 0 dr_cX17_run_0 (by decide +kernel) ?_
  refine G_istore_n (L' := [(3, .int 0), (0, .ref q628735), (1, .ref q628736), (2, .int p628737)]) dr_cX17_run_1 (Nat.le_of_ble_eq_true rfl) rfl ?_
  have hlp2_633022 : ∀ (n2_633022 : Nat) (F633017 : Nat → va_E) (g633016 : Int32), gB g633016 0 2000 → RS D I P628733 F633017 γ el → rStr γ [] F628734 F633017 → (fI (F633017 q628735) 9).toInt = (fI (F628734 q628735) 9).toInt → (fI (F633017 q628735) 10).toInt = (fI (F628734 q628735) 10).toInt → (fI (F633017 q628735) 32).toInt = (fI (F628734 q628735) 32).toInt → ((2001 : Int) - g633016.toInt).toNat < n2_633022 → G (gV D I) l (gRm 4 85 0 0) (gMA (gV D I) (pt_628739_SpillForgeModel_run D I γ el P628733 F628734 q628735 q628736 p628737) gNA 0 0) ky_628739_SpillForgeModel_run 2 [(3, .int g633016), (0, .ref q628735), (1, .ref q628736), (2, .int p628737)] [] (va_pl P628733 F633017) 0 0 := by
    intro n2_633022
    induction n2_633022 with
    | zero => intro F633017 g633016 bg633016 hT633018 hs633019 x633020 x633021 x633022 hm2_633022; exact absurd hm2_633022 (Nat.not_lt_zero _)
    | succ n2_633022 ih2_633022 =>
      intro F633017 g633016 bg633016 hT633018 hs633019 x633020 x633021 x633022 hm2_633022
      have hs633024 : rStr γ [] F628734 F633017 := fun b h0 hb hw => (hs633019 b h0 hb hw).trans ((rStr_rf (γ := γ) (W := []) (F := F628734)) b h0 hb hw).symm
      have hs633025 : rStr γ [] F628734 F633017 := rStr_tr (rStr_rf (γ := γ) (W := []) (F := F628734)) hs633024
      have hm633026 : q628735 ∈ P628733 := RS_m hT633018 htq628735 (by decide)
      refine rk10_e (show rk_10 γ (F633017 q628735) from RS_o hT633018 htq628735) (fun q633028 q633029 p633030 p633031 p633032 p633033 p633034 p633035 p633036 p633037 p633038 p633039 p633040 p633041 p633042 p633043 p633044 he633027 hB633071 ht633045 ht633046 ht633047 ht633048 ht633049 ht633050 ht633051 ht633052 ht633053 ht633054 ht633055 ht633056 ht633057 ht633058 ht633059 ht633060 ht633061 ht633062 ht633063 ht633064 ht633065 ht633066 ht633067 ht633068 hB633072 => ?_)
      have ac633073 : (fI (F633017 q628735) 26).toInt = p633039.toInt := by rw [he633027]; rfl
      have bp633039 : gB p633039 0 100000 := (hB633071.2.2.2.2.2.1)
      have ac633074 : (fI (F633017 q628735) 9).toInt = p633030.toInt := by rw [he633027]; rfl
      have bp633030 : gB p633030 0 1 := (hB633071.1)
      have ac633075 : (fI (F633017 q628735) 10).toInt = p633031.toInt := by rw [he633027]; rfl
      have bp633031 : gB p633031 0 1 := (hB633071.2.1)
      have ac633076 : (fI (F633017 q628735) 32).toInt = p633042.toInt := by rw [he633027]; rfl
      have bp633042 : gB p633042 0 8192 := (hB633071.2.2.2.2.2.2.2.1)
      have ac633077 : (fI (F633017 q628735) 26).toInt = p633039.toInt := by rw [he633027]; rfl
      have ac633078 : (fI (F633017 q628735) 9).toInt = p633030.toInt := by rw [he633027]; rfl
      have ac633079 : (fI (F633017 q628735) 10).toInt = p633031.toInt := by rw [he633027]; rfl
      have ac633080 : (fI (F633017 q628735) 32).toInt = p633042.toInt := by rw [he633027]; rfl
      refine G_iload_n 0 dr_cX17_run_2 rfl ?_
      refine G_sipush 2000 dr_cX17_run_3 (by decide +kernel) ?_
      refine G_icmp_ge 29 dr_cX17_run_6 (by decide +kernel) (fun hc633081 => ?_) (fun hc633081 => ?_)
      · have r633082 : 2000 ≤ g633016.toInt := gj_leL hc633081 (show Int32.toInt 2000 = 2000 by decide)
        have bg633016' : gB g633016 2000 2000 := ⟨by omega, by omega⟩
        refine G_aload_n 1 dr_cX17_run_29 rfl ?_
        refine G_iconst 0 dr_cX17_run_30 (by decide +kernel) ?_
        refine Gp_put 24 hm633026 he633027 dr_cX17_run_31 (gk_X17 D I) (Nat.le_of_ble_eq_true rfl) wr_7_98 rfl rfl rfl (Nat.le_of_ble_eq_true rfl) (fun F633083 e633084 n633085 => ?_)
        have he633086 : F633083 q628735 = .inr (22, [.ref (γ 9 0), .ref (γ 9 1), .ref (γ 9 2), .ref (γ 9 3), .ref (γ 9 4), .ref (γ 9 5), .ref (γ 9 6), .ref (γ 9 7), .ref (γ 9 8), .int p633030, .int p633031, .int p633032, .int p633033, .int p633034, .int p633035, .ref (γ 9 15), .ref (γ 9 16), .ref (γ 9 17), .ref (γ 9 18), .ref (γ 9 19), .ref (γ 9 20), .ref (γ 9 21), .ref (γ 9 22), .int p633036, .int 0, .int p633038, .int p633039, .int p633040, .ref q633028, .ref (γ 9 29), .int p633041, .ref (γ 9 31), .int p633042, .int p633043, .int p633044, .ref q633029]) := e633084
        have hs633087 : rStr γ [] F628734 F633083 := rStr_put hs633019 n633085 htq628735 (by decide)
        refine G_aload_n 1 dr_cX17_run_34 rfl ?_
        refine G_iconst 0 dr_cX17_run_35 (by decide +kernel) ?_
        refine Gp_put 25 hm633026 he633086 dr_cX17_run_36 (gk_X17 D I) (Nat.le_of_ble_eq_true rfl) wr_7_99 rfl rfl rfl (Nat.le_of_ble_eq_true rfl) (fun F633088 e633089 n633090 => ?_)
        have he633091 : F633088 q628735 = .inr (22, [.ref (γ 9 0), .ref (γ 9 1), .ref (γ 9 2), .ref (γ 9 3), .ref (γ 9 4), .ref (γ 9 5), .ref (γ 9 6), .ref (γ 9 7), .ref (γ 9 8), .int p633030, .int p633031, .int p633032, .int p633033, .int p633034, .int p633035, .ref (γ 9 15), .ref (γ 9 16), .ref (γ 9 17), .ref (γ 9 18), .ref (γ 9 19), .ref (γ 9 20), .ref (γ 9 21), .ref (γ 9 22), .int p633036, .int 0, .int 0, .int p633039, .int p633040, .ref q633028, .ref (γ 9 29), .int p633041, .ref (γ 9 31), .int p633042, .int p633043, .int p633044, .ref q633029]) := e633089
        have hs633092 : rStr γ [] F628734 F633088 := rStr_put hs633087 n633090 htq628735 (by decide)
        have n633093 : ∀ b, b ≠ q628735 → F633088 b = F633017 b := fun b hb => (n633090 b hb).trans (n633085 b hb)
        refine G_aload_n 1 dr_cX17_run_39 rfl ?_
        refine G_iconst 0 dr_cX17_run_40 (by decide +kernel) ?_
        refine Gp_put 26 hm633026 he633091 dr_cX17_run_41 (gk_X17 D I) (Nat.le_of_ble_eq_true rfl) wr_7_100 rfl rfl rfl (Nat.le_of_ble_eq_true rfl) (fun F633094 e633095 n633096 => ?_)
        have he633097 : F633094 q628735 = .inr (22, [.ref (γ 9 0), .ref (γ 9 1), .ref (γ 9 2), .ref (γ 9 3), .ref (γ 9 4), .ref (γ 9 5), .ref (γ 9 6), .ref (γ 9 7), .ref (γ 9 8), .int p633030, .int p633031, .int p633032, .int p633033, .int p633034, .int p633035, .ref (γ 9 15), .ref (γ 9 16), .ref (γ 9 17), .ref (γ 9 18), .ref (γ 9 19), .ref (γ 9 20), .ref (γ 9 21), .ref (γ 9 22), .int p633036, .int 0, .int 0, .int 0, .int p633040, .ref q633028, .ref (γ 9 29), .int p633041, .ref (γ 9 31), .int p633042, .int p633043, .int p633044, .ref q633029]) := e633095
        have hs633098 : rStr γ [] F628734 F633094 := rStr_put hs633092 n633096 htq628735 (by decide)
        have n633099 : ∀ b, b ≠ q628735 → F633094 b = F633017 b := fun b hb => (n633096 b hb).trans (n633093 b hb)
        refine G_aload_n 1 dr_cX17_run_44 rfl ?_
        refine G_iconst 0 dr_cX17_run_45 (by decide +kernel) ?_
        refine Gp_put 27 hm633026 he633097 dr_cX17_run_46 (gk_X17 D I) (Nat.le_of_ble_eq_true rfl) wr_7_101 rfl rfl rfl (Nat.le_of_ble_eq_true rfl) (fun F633100 e633101 n633102 => ?_)
        have he633103 : F633100 q628735 = .inr (22, [.ref (γ 9 0), .ref (γ 9 1), .ref (γ 9 2), .ref (γ 9 3), .ref (γ 9 4), .ref (γ 9 5), .ref (γ 9 6), .ref (γ 9 7), .ref (γ 9 8), .int p633030, .int p633031, .int p633032, .int p633033, .int p633034, .int p633035, .ref (γ 9 15), .ref (γ 9 16), .ref (γ 9 17), .ref (γ 9 18), .ref (γ 9 19), .ref (γ 9 20), .ref (γ 9 21), .ref (γ 9 22), .int p633036, .int 0, .int 0, .int 0, .int 0, .ref q633028, .ref (γ 9 29), .int p633041, .ref (γ 9 31), .int p633042, .int p633043, .int p633044, .ref q633029]) := e633101
        have hs633104 : rStr γ [] F628734 F633100 := rStr_put hs633098 n633102 htq628735 (by decide)
        have n633105 : ∀ b, b ≠ q628735 → F633100 b = F633017 b := fun b hb => (n633102 b hb).trans (n633099 b hb)
        refine G_iconst 0 dr_cX17_run_49 (by decide +kernel) ?_
        refine G_istore_n (L' := [(3, .int 0), (0, .ref q628735), (1, .ref q628736), (2, .int p628737)]) dr_cX17_run_50 (Nat.le_of_ble_eq_true rfl) rfl ?_
        refine G_iconst 0 dr_cX17_run_51 (by decide +kernel) ?_
        refine G_istore (L' := [(4, .int 0), (3, .int 0), (0, .ref q628735), (1, .ref q628736), (2, .int p628737)]) dr_cX17_run_52 (Nat.le_of_ble_eq_true rfl) rfl ?_
        have hT633106 : RS D I P628733 F633100 γ el := RS_set hT633018 n633105 htq628735 (by decide) ⟨q633028, q633029, p633030, p633031, p633032, p633033, p633034, p633035, p633036, 0, 0, 0, 0, p633041, p633042, p633043, p633044, he633103, ⟨bp633030, bp633031, (hB633071.2.2.1), (hB633071.2.2.2.1), (gB_w (gBl (show Int32.toInt 0 = 0 by decide)) (by decide) (by decide)), (gB_w (gBl (show Int32.toInt 0 = 0 by decide)) (by decide) (by decide)), (gB_w (gBl (show Int32.toInt 0 = 0 by decide)) (by decide) (by decide)), bp633042, (hB633071.2.2.2.2.2.2.2.2)⟩, ht633045, ht633046, ht633047, ht633048, ht633049, ht633050, ht633051, ht633052, ht633053, ht633054, ht633055, ht633056, ht633057, ht633058, ht633059, ht633060, ht633061, ht633062, ht633063, ht633064, ht633065, ht633066, ht633067, ht633068, hB633072⟩
        have hlp54_633453 : ∀ (n54_633453 : Nat) (F633446 : Nat → va_E) (g633444 : Int32) (g633445 : Int32), gB g633444 0 39 → gB g633445 0 1000000 → RS D I P628733 F633446 γ el → rStr γ [] F628734 F633446 → g633444.toInt < γ 6 (γ 1 q628736) → (fI (F633446 q628735) 26).toInt ≤ p628737.toInt → (fI (F633446 q628735) 9).toInt = (fI (F628734 q628735) 9).toInt → (fI (F633446 q628735) 10).toInt = (fI (F628734 q628735) 10).toInt → (fI (F633446 q628735) 32).toInt = (fI (F628734 q628735) 32).toInt → (p628737.toInt - (fI (F633446 q628735) 26).toInt).toNat < n54_633453 → G (gV D I) l (gRm 4 85 0 0) (gMA (gV D I) (pt_628739_SpillForgeModel_run D I γ el P628733 F628734 q628735 q628736 p628737) gNA 0 0) ky_628739_SpillForgeModel_run 54 [(4, .int g633445), (3, .int g633444), (0, .ref q628735), (1, .ref q628736), (2, .int p628737)] [] (va_pl P628733 F633446) 0 0 := by
          intro n54_633453
          induction n54_633453 with
          | zero => intro F633446 g633444 g633445 bg633444 bg633445 hT633447 hs633448 x633449 x633450 x633451 x633452 x633453 hm54_633453; exact absurd hm54_633453 (Nat.not_lt_zero _)
          | succ n54_633453 ih54_633453 =>
            intro F633446 g633444 g633445 bg633444 bg633445 hT633447 hs633448 x633449 x633450 x633451 x633452 x633453 hm54_633453
            have hs633455 : rStr γ [] F633100 F633446 := fun b h0 hb hw => (hs633448 b h0 hb hw).trans (hs633104 b h0 hb hw).symm
            have hs633456 : rStr γ [] F628734 F633446 := rStr_tr hs633104 hs633455
            have hm633457 : q628735 ∈ P628733 := RS_m hT633447 htq628735 (by decide)
            refine rk10_e (show rk_10 γ (F633446 q628735) from RS_o hT633447 htq628735) (fun q633459 q633460 p633461 p633462 p633463 p633464 p633465 p633466 p633467 p633468 p633469 p633470 p633471 p633472 p633473 p633474 p633475 he633458 hB633502 ht633476 ht633477 ht633478 ht633479 ht633480 ht633481 ht633482 ht633483 ht633484 ht633485 ht633486 ht633487 ht633488 ht633489 ht633490 ht633491 ht633492 ht633493 ht633494 ht633495 ht633496 ht633497 ht633498 ht633499 hB633503 => ?_)
            have ac633504 : (fI (F633446 q628735) 26).toInt = p633470.toInt := by rw [he633458]; rfl
            have bp633470 : gB p633470 0 100000 := (hB633502.2.2.2.2.2.1)
            have ac633505 : (fI (F633446 q628735) 9).toInt = p633461.toInt := by rw [he633458]; rfl
            have bp633461 : gB p633461 0 1 := (hB633502.1)
            have ac633506 : (fI (F633446 q628735) 10).toInt = p633462.toInt := by rw [he633458]; rfl
            have bp633462 : gB p633462 0 1 := (hB633502.2.1)
            have ac633507 : (fI (F633446 q628735) 32).toInt = p633473.toInt := by rw [he633458]; rfl
            have bp633473 : gB p633473 0 8192 := (hB633502.2.2.2.2.2.2.2.1)
            have ac633508 : (fI (F633446 q628735) 26).toInt = p633470.toInt := by rw [he633458]; rfl
            have ac633509 : (fI (F633446 q628735) 9).toInt = p633461.toInt := by rw [he633458]; rfl
            have ac633510 : (fI (F633446 q628735) 10).toInt = p633462.toInt := by rw [he633458]; rfl
            have ac633511 : (fI (F633446 q628735) 32).toInt = p633473.toInt := by rw [he633458]; rfl
            refine G_aload_n 3 dr_cX17_run_54 rfl ?_
            refine G_iload_n 1 dr_cX17_run_55 rfl ?_
            have hm633512 : q628736 ∈ P628733 := RS_m hT633447 htq628736 (by decide)
            obtain ⟨q633514, q633515, p633516, p633517, he633513, ht633533, ht633518, ht633519, ht633520, ht633521, r633522, r633523, r633524, r633525, r633526, r633527, r633528, r633529, r633530, r633531, r633532⟩ := show rk_9 γ el q628736 (F633446 q628736) from RS_o hT633447 htq628736
            have bp633516 : gB p633516 0 1000000 := ⟨by omega, by omega⟩
            have bp633517 : gB p633517 0 1000000 := ⟨by omega, by omega⟩
            have hm633534 : q633514 ∈ P628733 := RS_m hT633447 ht633518 (by decide)
            obtain ⟨⟨p633536, p633537, q633538, he633535, r633539, r633540, r633541, r633543⟩, r633542⟩ := show rk_4 D I γ el F633446 q633514 from RS_o hT633447 ht633518
            have bp633536 := gB_any p633536
            have bp633537 : gB p633537 0 1000000 := ⟨by omega, by omega⟩
            obtain ⟨r633544, r633545, n633552, f633553, r633546, r633547, r633548, r633549, r633550, r633551⟩ := rLC_n r633541 (by omega)
            have hm633554 : q633538 ∈ P628733 := RS_m hT633447 r633544 (by decide)
            obtain ⟨q633555, hx633556⟩ : ∃ x, x = el q633514 g633444.toInt.toNat := ⟨_, rfl⟩
            have hx633557 : f633553 g633444.toNatClampNeg = some q633555 := (r633550 _ (show g633444.toInt.toNat < γ 2 q633514 by omega)).trans (by rw [hx633556])
            have ht633560 : rKd γ q633555 2 := by rw [hx633556]; exact (r633529 _ (by omega)).resolve_right (fun z => absurd z.1 (by omega))
            have ht633561 : rFm γ q633555 q633514 := by rw [hx633556]; exact (r633542 _ (show g633444.toInt.toNat < γ 2 q633514 by omega)).2.1
            have hm633562 : q633555 ∈ P628733 := RS_m hT633447 ht633560 (by decide)
            obtain ⟨q633564, q633565, p633566, p633567, he633563, ht633574, ht633568, ht633569, ht633570, ht633571, ht633572, bp633566, bp633567, r633573, r633575, r633576⟩ := show rk_2 γ q633555 (F633446 q633555) from RS_o hT633447 ht633560
            have fm633577 : γ 6 (γ 1 q633555) = γ 6 (γ 1 q628736) := by rw [show γ 1 q633555 = γ 1 q633514 from ht633561, show γ 1 q633514 = γ 1 q628736 from ht633519]
            refine Gw_callV (As := [.int g633444]) (gV_ok D I) (cp_7723_Code_get l hl0 D I P628733 F633446 q628736 q633514 q633538 g633444 q633515 p633516 p633517 p633536 p633537 f633553 n633552 q633555 q633564 q633565 p633566 p633567 hm633512 hm633534 hm633554 hm633562 he633513 he633535 r633546 he633563 (gB_w bg633444 (by decide) (by decide)) (gB_w bp633537 (by decide) (by decide)) (by omega) (by omega) (by assumption) (by omega)) dr_cX17_run_56 ⟨wr_10_161, wr_1_15, wr_10_141, by decide, rfl, (Nat.le_of_ble_eq_true rfl), (Nat.le_of_ble_eq_true rfl)⟩ wr_10_139 wr_10_140 hm633512 he633513 rfl (show 0 + 0 ≤ 0 by first | omega | decide) (show 0 + 0 ≤ 0 by first | omega | decide) (Nat.le_of_ble_eq_true rfl) (fun r633581 w633582 dc633578 ds633579 hp633580 => ?_) (fun _ _ _ _ _ z => z.elim)
            obtain ⟨rfl, rfl, hdc, hds⟩ := hp633580
            change G _ _ _ _ _ _ _ (.ref q633555 :: _) _ _ _
            refine G_widen (cs' := 0) (sl' := 0) (by omega) (by omega) ?_
            refine G_astore (L' := [(5, .ref q633555), (4, .int g633445), (3, .int g633444), (0, .ref q628735), (1, .ref q628736), (2, .int p628737)]) dr_cX17_run_59 (Nat.le_of_ble_eq_true rfl) rfl ?_
            refine G_aload_n 3 dr_cX17_run_61 rfl ?_
            refine Gp_get 26 hm633457 he633458 dr_cX17_run_62 (gk_X17 D I) (Nat.le_of_ble_eq_true rfl) wr_7_100 rfl ?_
            refine G_iload_n 5 dr_cX17_run_65 rfl ?_
            refine G_icmp_ne 71 dr_cX17_run_66 (by decide +kernel) (fun hc633583 => ?_) (fun hc633583 => ?_)
            · have r633584 : p633470.toInt ≠ p628737.toInt := gC_ne hc633583
              refine G_aload_n 3 dr_cX17_run_71 rfl ?_
              refine G_dup dr_cX17_run_72 rfl ?_
              refine Gp_get 26 hm633457 he633458 dr_cX17_run_73 (gk_X17 D I) (Nat.le_of_ble_eq_true rfl) wr_7_100 rfl ?_
              refine G_iconst 1 dr_cX17_run_76 (by decide +kernel) ?_
              refine G_iadd dr_cX17_run_77 (G_nam fun z633585 hz633585 => ?_)
              have ez633585 : z633585.toInt = p633470.toInt + 1 := by rw [gI_add hz633585 bp633470 (gBl (show Int32.toInt 1 = 1 by decide)) (by decide) (by decide), show Int32.toInt 1 = 1 from by decide]
              have bz633585 : gB z633585 1 100001 := gB_add (gI_add hz633585 bp633470 (gBl (show Int32.toInt 1 = 1 by decide)) (by decide) (by decide)) bp633470 (gBl (show Int32.toInt 1 = 1 by decide)) (by decide) (by decide)
              refine Gp_put 26 hm633457 he633458 dr_cX17_run_78 (gk_X17 D I) (Nat.le_of_ble_eq_true rfl) wr_7_100 rfl rfl rfl (Nat.le_of_ble_eq_true rfl) (fun F633586 e633587 n633588 => ?_)
              have he633589 : F633586 q628736 = .inr (18, [.ref q633514, .ref q633515, .int p633516, .int p633517]) := (n633588 q628736 (rn_oo he633513 he633458 (by decide))).trans he633513
              have he633590 : F633586 q633514 = .inr (4, [.int p633536, .ref q633538, .int p633537]) := (n633588 q633514 (rn_oo he633535 he633458 (by decide))).trans he633535
              have he633591 : F633586 q633538 = .inl (I (.object "java/lang/Object"), n633552, .inr (.inr (.inr (.inr f633553)))) := (n633588 q633538 (rn_ao r633546 he633458)).trans r633546
              have he633592 : F633586 q633555 = .inr (17, [.ref q633564, .ref q633565, .int p633566, .int p633567]) := (n633588 q633555 (rn_oo he633563 he633458 (by decide))).trans he633563
              have he633593 : F633586 q628735 = .inr (22, [.ref (γ 9 0), .ref (γ 9 1), .ref (γ 9 2), .ref (γ 9 3), .ref (γ 9 4), .ref (γ 9 5), .ref (γ 9 6), .ref (γ 9 7), .ref (γ 9 8), .int p633461, .int p633462, .int p633463, .int p633464, .int p633465, .int p633466, .ref (γ 9 15), .ref (γ 9 16), .ref (γ 9 17), .ref (γ 9 18), .ref (γ 9 19), .ref (γ 9 20), .ref (γ 9 21), .ref (γ 9 22), .int p633467, .int p633468, .int p633469, .int z633585, .int p633471, .ref q633459, .ref (γ 9 29), .int p633472, .ref (γ 9 31), .int p633473, .int p633474, .int p633475, .ref q633460]) := e633587
              have hs633594 : rStr γ [] F628734 F633586 := rStr_put hs633448 n633588 htq628735 (by decide)
              refine G_iload 1 dr_cX17_run_81 rfl ?_
              refine G_aload 0 dr_cX17_run_83 rfl ?_
              refine Gp_get 0 hm633562 he633592 dr_cX17_run_85 (gk_X12 D I) (Nat.le_of_ble_eq_true rfl) wr_9_220 rfl ?_
              have hT633595 : RS D I P628733 F633586 γ el := RS_set hT633447 n633588 htq628735 (by decide) ⟨q633459, q633460, p633461, p633462, p633463, p633464, p633465, p633466, p633467, p633468, p633469, z633585, p633471, p633472, p633473, p633474, p633475, he633593, ⟨bp633461, bp633462, (hB633502.2.2.1), (hB633502.2.2.2.1), (hB633502.2.2.2.2.1), ⟨by omega, by omega⟩, (hB633502.2.2.2.2.2.2.1), bp633473, (hB633502.2.2.2.2.2.2.2.2)⟩, ht633476, ht633477, ht633478, ht633479, ht633480, ht633481, ht633482, ht633483, ht633484, ht633485, ht633486, ht633487, ht633488, ht633489, ht633490, ht633491, ht633492, ht633493, ht633494, ht633495, ht633496, ht633497, ht633498, ht633499, hB633503⟩
              have hm633596 : q633564 ∈ P628733 := RS_m hT633595 ht633568 (by decide)
              obtain ⟨⟨p633598, p633599, q633600, he633597, r633601, r633602, r633603, r633605⟩, r633604⟩ := show rk_3 D I γ el F633586 q633564 from RS_o hT633595 ht633568
              have bp633598 := gB_any p633598
              have bp633599 : gB p633599 0 1000000 := ⟨by omega, by omega⟩
              refine Gw_callV (As := []) (gV_ok D I) (cp_7_ArrayList_size l hl0 D I P628733 F633586 q633564 p633598 q633600 p633599 hm633596 he633597 (gB_w bp633599 (by decide) (by decide))) dr_cX17_run_88 ⟨wr_10_200, wr_1_18, wr_9_160, by decide, rfl, (Nat.le_of_ble_eq_true rfl), (Nat.le_of_ble_eq_true rfl)⟩ wr_9_158 wr_9_159 hm633596 he633597 rfl (show 0 + 0 ≤ 0 by first | omega | decide) (show 0 + 0 ≤ 0 by first | omega | decide) (Nat.le_of_ble_eq_true rfl) (fun r633609 w633610 dc633606 ds633607 hp633608 => ?_) (fun _ _ _ _ _ z => z.elim)
              obtain ⟨rfl, rfl, hdc, hds⟩ := hp633608
              change G _ _ _ _ _ _ _ (.int p633599 :: _) _ _ _
              refine G_widen (cs' := 0) (sl' := 0) (by omega) (by omega) ?_
              refine G_icmp_ge 127 dr_cX17_run_91 (by decide +kernel) (fun hc633611 => ?_) (fun hc633611 => ?_)
              · have r633612 : p633599.toInt ≤ g633445.toInt := gC_le hc633611
                refine G_aload 0 dr_cX17_run_127 rfl ?_
                refine Gp_get 1 hm633562 he633592 dr_cX17_run_129 (gk_X12 D I) (Nat.le_of_ble_eq_true rfl) wr_9_223 rfl ?_
                refine G_astore (L' := [(6, .ref q633565), (5, .ref q633555), (4, .int g633445), (3, .int g633444), (0, .ref q628735), (1, .ref q628736), (2, .int p628737)]) dr_cX17_run_132 (Nat.le_of_ble_eq_true rfl) rfl ?_
                refine G_aload 0 dr_cX17_run_134 rfl ?_
                have hm633613 : q633565 ∈ P628733 := RS_m hT633595 ht633570 (by decide)
                obtain ⟨p633615, p633616, p633617, p633618, p633619, p633620, p633621, he633614, bp633615, bp633616, bp633619, bp633620, bp633621, r633622, r633623, r633624, r633625⟩ := show rk_1 γ q633565 (F633586 q633565) from RS_o hT633595 ht633570
                have bp633617 := gB_any p633617
                have bp633618 := gB_any p633618
                refine Gp_get 0 hm633613 he633614 dr_cX17_run_136 (gk_X15 D I) (Nat.le_of_ble_eq_true rfl) wr_9_177 rfl ?_
                refine G_bipush 32 dr_cX17_run_139 (by decide +kernel) ?_
                refine G_icmp_ne 164 dr_cX17_run_141 (by decide +kernel) (fun hc633626 => ?_) (fun hc633626 => ?_)
                · have r633627 : p633615.toInt ≠ 32 := gj_neq hc633626 (show Int32.toInt 32 = 32 by decide)
                  have bp633615' : gB p633615 0 31 := ⟨by omega, by omega⟩
                  refine G_aload 0 dr_cX17_run_164 rfl ?_
                  refine Gp_get 0 hm633613 he633614 dr_cX17_run_166 (gk_X15 D I) (Nat.le_of_ble_eq_true rfl) wr_9_177 rfl ?_
                  refine G_bipush 30 dr_cX17_run_169 (by decide +kernel) ?_
                  refine G_icmp_eq 191 dr_cX17_run_171 (by decide +kernel) (fun hc633628 => ?_) (fun hc633628 => ?_)
                  · have r633629 : p633615.toInt = 30 := gj_eq hc633628 (show Int32.toInt 30 = 30 by decide)
                    have bp633615'' : gB p633615 30 30 := ⟨by omega, by omega⟩
                    refine G_aload 1 dr_cX17_run_191 rfl ?_
                    refine Gp_get 2 hm633562 he633592 dr_cX17_run_193 (gk_X12 D I) (Nat.le_of_ble_eq_true rfl) wr_9_229 rfl ?_
                    refine G_goto 204 dr_cX17_run_196 (by decide +kernel) ?_
                    refine G_istore_n (L' := [(3, .int p633566), (6, .ref q633565), (5, .ref q633555), (4, .int g633445), (0, .ref q628735), (1, .ref q628736), (2, .int p628737)]) dr_cX17_run_204 (Nat.le_of_ble_eq_true rfl) rfl ?_
                    refine G_iconst 0 dr_cX17_run_205 (by decide +kernel) ?_
                    refine G_istore (L' := [(4, .int 0), (3, .int p633566), (6, .ref q633565), (5, .ref q633555), (0, .ref q628735), (1, .ref q628736), (2, .int p628737)]) dr_cX17_run_206 (Nat.le_of_ble_eq_true rfl) rfl ?_
                    refine G_goto 54 dr_cX17_run_208 (by decide +kernel) ?_
                    refine G_lv (L' := [(4, .int 0), (3, .int p633566), (0, .ref q628735), (1, .ref q628736), (2, .int p628737)]) [0, 1, 4, 5, 6] rfl ?_
                    have ac633630 : (fI (F633586 q628735) 26).toInt = z633585.toInt := by rw [he633593]; rfl
                    have ac633631 : (fI (F633586 q628735) 9).toInt = p633461.toInt := by rw [he633593]; rfl
                    have ac633632 : (fI (F633586 q628735) 10).toInt = p633462.toInt := by rw [he633593]; rfl
                    have ac633633 : (fI (F633586 q628735) 32).toInt = p633473.toInt := by rw [he633593]; rfl
                    exact ih54_633453 F633586 p633566 0 bp633566 (gB_w (gBl (show Int32.toInt 0 = 0 by decide)) (by decide) (by decide)) hT633595 hs633594 (by have qa0 : Int32.toInt 0 = 0 := (by decide); omega) (by omega) (by omega) (by omega) (by omega) (by have qa0 : Int32.toInt 0 = 0 := (by decide); omega)
                  · have r633634 : p633615.toInt ≠ 30 := gj_neq hc633628 (show Int32.toInt 30 = 30 by decide)
                    refine G_aload_n 4 dr_cX17_run_174 rfl ?_
                    refine G_aload 0 dr_cX17_run_175 rfl ?_
                    refine Gp_get 5 hm633613 he633614 dr_cX17_run_177 (gk_X15 D I) (Nat.le_of_ble_eq_true rfl) wr_9_197 rfl ?_
                    refine G_aload 0 dr_cX17_run_180 rfl ?_
                    refine Gp_get 2 hm633613 he633614 dr_cX17_run_182 (gk_X15 D I) (Nat.le_of_ble_eq_true rfl) wr_9_186 rfl ?_
                    refine Gw_callV (As := [.int p633620, .int p633617]) (gV_ok D I) (ct_7373_SpillForgeModel_value l hl0 D I γ el P628733 F633586 q628735 p633620 p633617 hT633595 htq628735 bp633620 (by omega)) dr_cX17_run_185 ⟨wr_11_100, wr_1_14, wr_11_103, by decide, rfl, (Nat.le_of_ble_eq_true rfl), (Nat.le_of_ble_eq_true rfl)⟩ wr_11_102 wr_p_115 hm633457 he633593 rfl (show 0 + 0 ≤ 0 by first | omega | decide) (show 0 + 0 ≤ 0 by first | omega | decide) (Nat.le_of_ble_eq_true rfl) (fun r633638 w633639 dc633635 ds633636 hp633637 => ?_) (fun _ _ _ _ _ z => z.elim)
                    obtain ⟨o633640, rfl, rfl, hdc, hds⟩ := hp633637
                    have bo633640 := gB_any o633640
                    change G _ _ _ _ _ _ _ (.int o633640 :: _) _ _ _
                    refine G_widen (cs' := 0) (sl' := 0) (by omega) (by omega) ?_
                    refine G_if_eq 199 dr_cX17_run_188 (by decide +kernel) (fun hc633641 => ?_) (fun hc633641 => ?_)
                    · have r633642 : o633640.toInt = 0 := gj_eq hc633641 (show Int32.toInt 0 = 0 by decide)
                      have bo633640' : gB o633640 0 0 := ⟨by omega, by omega⟩
                      refine G_aload 1 dr_cX17_run_199 rfl ?_
                      refine Gp_get 3 hm633562 he633592 dr_cX17_run_201 (gk_X12 D I) (Nat.le_of_ble_eq_true rfl) wr_9_233 rfl ?_
                      refine G_istore_n (L' := [(3, .int p633567), (6, .ref q633565), (5, .ref q633555), (4, .int g633445), (0, .ref q628735), (1, .ref q628736), (2, .int p628737)]) dr_cX17_run_204 (Nat.le_of_ble_eq_true rfl) rfl ?_
                      refine G_iconst 0 dr_cX17_run_205 (by decide +kernel) ?_
                      refine G_istore (L' := [(4, .int 0), (3, .int p633567), (6, .ref q633565), (5, .ref q633555), (0, .ref q628735), (1, .ref q628736), (2, .int p628737)]) dr_cX17_run_206 (Nat.le_of_ble_eq_true rfl) rfl ?_
                      refine G_goto 54 dr_cX17_run_208 (by decide +kernel) ?_
                      refine G_lv (L' := [(4, .int 0), (3, .int p633567), (0, .ref q628735), (1, .ref q628736), (2, .int p628737)]) [0, 1, 4, 5, 6] rfl ?_
                      have ac633643 : (fI (F633586 q628735) 26).toInt = z633585.toInt := by rw [he633593]; rfl
                      have ac633644 : (fI (F633586 q628735) 9).toInt = p633461.toInt := by rw [he633593]; rfl
                      have ac633645 : (fI (F633586 q628735) 10).toInt = p633462.toInt := by rw [he633593]; rfl
                      have ac633646 : (fI (F633586 q628735) 32).toInt = p633473.toInt := by rw [he633593]; rfl
                      exact ih54_633453 F633586 p633567 0 bp633567 (gB_w (gBl (show Int32.toInt 0 = 0 by decide)) (by decide) (by decide)) hT633595 hs633594 (by have qa0 : Int32.toInt 0 = 0 := (by decide); omega) (by omega) (by omega) (by omega) (by omega) (by have qa0 : Int32.toInt 0 = 0 := (by decide); omega)
                    · have r633647 : o633640.toInt ≠ 0 := gj_neq hc633641 (show Int32.toInt 0 = 0 by decide)
                      refine G_aload 1 dr_cX17_run_191 rfl ?_
                      refine Gp_get 2 hm633562 he633592 dr_cX17_run_193 (gk_X12 D I) (Nat.le_of_ble_eq_true rfl) wr_9_229 rfl ?_
                      refine G_goto 204 dr_cX17_run_196 (by decide +kernel) ?_
                      refine G_istore_n (L' := [(3, .int p633566), (6, .ref q633565), (5, .ref q633555), (4, .int g633445), (0, .ref q628735), (1, .ref q628736), (2, .int p628737)]) dr_cX17_run_204 (Nat.le_of_ble_eq_true rfl) rfl ?_
                      refine G_iconst 0 dr_cX17_run_205 (by decide +kernel) ?_
                      refine G_istore (L' := [(4, .int 0), (3, .int p633566), (6, .ref q633565), (5, .ref q633555), (0, .ref q628735), (1, .ref q628736), (2, .int p628737)]) dr_cX17_run_206 (Nat.le_of_ble_eq_true rfl) rfl ?_
                      refine G_goto 54 dr_cX17_run_208 (by decide +kernel) ?_
                      refine G_lv (L' := [(4, .int 0), (3, .int p633566), (0, .ref q628735), (1, .ref q628736), (2, .int p628737)]) [0, 1, 4, 5, 6] rfl ?_
                      have ac633648 : (fI (F633586 q628735) 26).toInt = z633585.toInt := by rw [he633593]; rfl
                      have ac633649 : (fI (F633586 q628735) 9).toInt = p633461.toInt := by rw [he633593]; rfl
                      have ac633650 : (fI (F633586 q628735) 10).toInt = p633462.toInt := by rw [he633593]; rfl
                      have ac633651 : (fI (F633586 q628735) 32).toInt = p633473.toInt := by rw [he633593]; rfl
                      exact ih54_633453 F633586 p633566 0 bp633566 (gB_w (gBl (show Int32.toInt 0 = 0 by decide)) (by decide) (by decide)) hT633595 hs633594 (by have qa0 : Int32.toInt 0 = 0 := (by decide); omega) (by omega) (by omega) (by omega) (by omega) (by have qa0 : Int32.toInt 0 = 0 := (by decide); omega)
                · have r633652 : p633615.toInt = 32 := gj_eq hc633626 (show Int32.toInt 32 = 32 by decide)
                  have bp633615' : gB p633615 32 32 := ⟨by omega, by omega⟩
                  refine G_aload_n 4 dr_cX17_run_144 rfl ?_
                  refine G_aload_n 4 dr_cX17_run_145 rfl ?_
                  refine G_aload 0 dr_cX17_run_146 rfl ?_
                  refine Gp_get 5 hm633613 he633614 dr_cX17_run_148 (gk_X15 D I) (Nat.le_of_ble_eq_true rfl) wr_9_197 rfl ?_
                  refine G_aload 0 dr_cX17_run_151 rfl ?_
                  refine Gp_get 2 hm633613 he633614 dr_cX17_run_153 (gk_X15 D I) (Nat.le_of_ble_eq_true rfl) wr_9_186 rfl ?_
                  refine Gw_callV (As := [.int p633620, .int p633617]) (gV_ok D I) (ct_7373_SpillForgeModel_value l hl0 D I γ el P628733 F633586 q628735 p633620 p633617 hT633595 htq628735 bp633620 (by omega)) dr_cX17_run_156 ⟨wr_11_100, wr_1_14, wr_11_103, by decide, rfl, (Nat.le_of_ble_eq_true rfl), (Nat.le_of_ble_eq_true rfl)⟩ wr_11_102 wr_p_115 hm633457 he633593 rfl (show 0 + 0 ≤ 0 by first | omega | decide) (show 0 + 0 ≤ 0 by first | omega | decide) (Nat.le_of_ble_eq_true rfl) (fun r633656 w633657 dc633653 ds633654 hp633655 => ?_) (fun _ _ _ _ _ z => z.elim)
                  obtain ⟨o633658, rfl, rfl, hdc, hds⟩ := hp633655
                  have bo633658 := gB_any o633658
                  change G _ _ _ _ _ _ _ (.int o633658 :: _) _ _ _
                  refine G_widen (cs' := 0) (sl' := 0) (by omega) (by omega) ?_
                  refine Gp_put 24 hm633457 he633593 dr_cX17_run_159 (gk_X17 D I) (Nat.le_of_ble_eq_true rfl) wr_7_98 rfl rfl rfl (Nat.le_of_ble_eq_true rfl) (fun F633659 e633660 n633661 => ?_)
                  have he633662 : F633659 q628736 = .inr (18, [.ref q633514, .ref q633515, .int p633516, .int p633517]) := (n633661 q628736 (rn_oo he633589 he633593 (by decide))).trans he633589
                  have he633663 : F633659 q633514 = .inr (4, [.int p633536, .ref q633538, .int p633537]) := (n633661 q633514 (rn_oo he633590 he633593 (by decide))).trans he633590
                  have he633664 : F633659 q633538 = .inl (I (.object "java/lang/Object"), n633552, .inr (.inr (.inr (.inr f633553)))) := (n633661 q633538 (rn_ao he633591 he633593)).trans he633591
                  have he633665 : F633659 q633555 = .inr (17, [.ref q633564, .ref q633565, .int p633566, .int p633567]) := (n633661 q633555 (rn_oo he633592 he633593 (by decide))).trans he633592
                  have he633666 : F633659 q633564 = .inr (4, [.int p633598, .ref q633600, .int p633599]) := (n633661 q633564 (rn_oo he633597 he633593 (by decide))).trans he633597
                  have he633667 : F633659 q633565 = .inr (20, [.int p633615, .int p633616, .int p633617, .int p633618, .int p633619, .int p633620, .int p633621]) := (n633661 q633565 (rn_oo he633614 he633593 (by decide))).trans he633614
                  have he633668 : F633659 q628735 = .inr (22, [.ref (γ 9 0), .ref (γ 9 1), .ref (γ 9 2), .ref (γ 9 3), .ref (γ 9 4), .ref (γ 9 5), .ref (γ 9 6), .ref (γ 9 7), .ref (γ 9 8), .int p633461, .int p633462, .int p633463, .int p633464, .int p633465, .int p633466, .ref (γ 9 15), .ref (γ 9 16), .ref (γ 9 17), .ref (γ 9 18), .ref (γ 9 19), .ref (γ 9 20), .ref (γ 9 21), .ref (γ 9 22), .int p633467, .int o633658, .int p633469, .int z633585, .int p633471, .ref q633459, .ref (γ 9 29), .int p633472, .ref (γ 9 31), .int p633473, .int p633474, .int p633475, .ref q633460]) := e633660
                  have hs633669 : rStr γ [] F628734 F633659 := rStr_put hs633594 n633661 htq628735 (by decide)
                  refine G_iconst 0 dr_cX17_run_162 (by decide +kernel) ?_
                  have hT633670 : RS D I P628733 F633659 γ el := RS_set hT633595 n633661 htq628735 (by decide) ⟨q633459, q633460, p633461, p633462, p633463, p633464, p633465, p633466, p633467, o633658, p633469, z633585, p633471, p633472, p633473, p633474, p633475, he633668, ⟨bp633461, bp633462, (hB633502.2.2.1), (hB633502.2.2.2.1), (hB633502.2.2.2.2.1), ⟨by omega, by omega⟩, (hB633502.2.2.2.2.2.2.1), bp633473, (hB633502.2.2.2.2.2.2.2.2)⟩, ht633476, ht633477, ht633478, ht633479, ht633480, ht633481, ht633482, ht633483, ht633484, ht633485, ht633486, ht633487, ht633488, ht633489, ht633490, ht633491, ht633492, ht633493, ht633494, ht633495, ht633496, ht633497, ht633498, ht633499, hB633503⟩
                  have ac633671 : (fI (F633659 q628735) 26).toInt = z633585.toInt := by rw [he633668]; rfl
                  have ac633672 : (fI (F633659 q628735) 9).toInt = p633461.toInt := by rw [he633668]; rfl
                  have ac633673 : (fI (F633659 q628735) 10).toInt = p633462.toInt := by rw [he633668]; rfl
                  have ac633674 : (fI (F633659 q628735) 32).toInt = p633473.toInt := by rw [he633668]; rfl
                  exact G_iretA dr_cX17_run_163 rfl (Nat.le_of_ble_eq_true rfl) (Nat.le_of_ble_eq_true rfl) ⟨F633659, 0, rfl, rfl, hT633670, hs633669, (Nat.le_of_ble_eq_true rfl), (Nat.le_of_ble_eq_true rfl), (gB_w (gBl (show Int32.toInt 0 = 0 by decide)) (by decide) (by decide)), (by have qa0 : Int32.toInt 0 = 0 := (by decide); omega), (by have qa0 : Int32.toInt 0 = 0 := (by decide); omega), (by have qa0 : Int32.toInt 0 = 0 := (by decide); omega)⟩
              · have r633675 : g633445.toInt < p633599.toInt := gC_nle hc633611
                have bg633445' : gB g633445 0 999999 := ⟨by omega, by omega⟩
                have bp633599' : gB p633599 1 1000000 := ⟨by omega, by omega⟩
                refine G_aload_n 3 dr_cX17_run_94 rfl ?_
                refine G_aload 0 dr_cX17_run_95 rfl ?_
                refine Gp_get 0 hm633562 he633592 dr_cX17_run_97 (gk_X12 D I) (Nat.le_of_ble_eq_true rfl) wr_9_220 rfl ?_
                refine G_iload 1 dr_cX17_run_100 rfl ?_
                obtain ⟨r633676, r633677, n633684, f633685, r633678, r633679, r633680, r633681, r633682, r633683⟩ := rLC_n r633603 (by omega)
                have hm633686 : q633600 ∈ P628733 := RS_m hT633595 r633676 (by decide)
                obtain ⟨q633687, hx633688⟩ : ∃ x, x = el q633564 g633445.toInt.toNat := ⟨_, rfl⟩
                have hx633689 : f633685 g633445.toNatClampNeg = some q633687 := (r633682 _ (show g633445.toInt.toNat < γ 2 q633564 by omega)).trans (by rw [hx633688])
                have ht633690 : rKd γ q633687 1 := by rw [hx633688]; exact (r633604 _ (show g633445.toInt.toNat < γ 2 q633564 by omega)).1
                have ht633691 : rFm γ q633687 q633564 := by rw [hx633688]; exact (r633604 _ (show g633445.toInt.toNat < γ 2 q633564 by omega)).2.1
                refine Gw_callV (As := [.int g633445]) (gV_ok D I) (cp_22_ArrayList_get l hl0 D I P628733 F633586 q633564 q633600 g633445 p633598 p633599 f633685 n633684 q633687 hm633596 hm633686 he633597 r633678 (gB_w bg633445' (by decide) (by decide)) (gB_w bp633599' (by decide) (by decide)) (by omega) (by omega) (by assumption) (by omega)) dr_cX17_run_102 ⟨wr_10_201, wr_1_18, wr_10_65, by decide, rfl, (Nat.le_of_ble_eq_true rfl), (Nat.le_of_ble_eq_true rfl)⟩ wr_10_63 wr_10_64 hm633596 he633597 rfl (show 0 + 0 ≤ 0 by first | omega | decide) (show 0 + 0 ≤ 0 by first | omega | decide) (Nat.le_of_ble_eq_true rfl) (fun r633695 w633696 dc633692 ds633693 hp633694 => ?_) (fun _ _ _ _ _ z => z.elim)
                obtain ⟨rfl, rfl, hdc, hds⟩ := hp633694
                change G _ _ _ _ _ _ _ (.ref q633687 :: _) _ _ _
                refine G_widen (cs' := 0) (sl' := 0) (by omega) (by omega) ?_
                have hm633697 : q633687 ∈ P628733 := RS_m hT633595 ht633690 (by decide)
                obtain ⟨p633699, p633700, p633701, p633702, p633703, p633704, p633705, he633698, bp633699, bp633700, bp633703, bp633704, bp633705, r633706, r633707, r633708, r633709⟩ := show rk_1 γ q633687 (F633586 q633687) from RS_o hT633595 ht633690
                have bp633701 := gB_any p633701
                have bp633702 := gB_any p633702
                refine Gp_cast hm633697 he633698 rfl dr_cX17_run_105 wr_10_202 (gr_cast 1 rfl) ?_
                have ac633710 : (fI (F633586 q628735) 26).toInt = z633585.toInt := by rw [he633593]; rfl
                have ac633711 : (fI (F633586 q628735) 9).toInt = p633461.toInt := by rw [he633593]; rfl
                have ac633712 : (fI (F633586 q628735) 10).toInt = p633462.toInt := by rw [he633593]; rfl
                have ac633713 : (fI (F633586 q628735) 32).toInt = p633473.toInt := by rw [he633593]; rfl
                refine Gw_callV (As := [.ref q633687]) (gV_ok D I) (ct_629513_SpillForgeModel_step l hl0 D I γ el P628733 F633586 q628735 q633687 hT633595 htq628735 ht633690) dr_cX17_run_108 ⟨wr_11_96, wr_1_14, wr_11_99, by decide, rfl, (Nat.le_of_ble_eq_true rfl), (Nat.le_of_ble_eq_true rfl)⟩ wr_11_98 wr_p_114 hm633457 he633593 rfl (show 0 + 0 ≤ 0 by first | omega | decide) (show 0 + 0 ≤ 0 by first | omega | decide) (Nat.le_of_ble_eq_true rfl) (fun r633717 w633718 dc633714 ds633715 hp633716 => ?_) (fun _ _ _ _ _ z => z.elim)
                obtain ⟨F633724, o633719, rfl, rfl, hT633725, hs633726, hdc, hds, bo633719, x633720, x633721, x633722, x633723⟩ := hp633716
                have he633727 : F633724 q628736 = .inr (18, [.ref q633514, .ref q633515, .int p633516, .int p633517]) := (hs633726 q628736 (rT0 htq628736 (by decide)) (rT1 htq628736 (by decide)) (rT2 htq628736 (by decide))).trans he633589
                have he633728 : F633724 q633514 = .inr (4, [.int p633536, .ref q633538, .int p633537]) := (hs633726 q633514 (rT0 ht633518 (by decide)) (rT1 ht633518 (by decide)) (rT2 ht633518 (by decide))).trans he633590
                have he633729 : F633724 q633538 = .inl (I (.object "java/lang/Object"), n633552, .inr (.inr (.inr (.inr f633553)))) := (hs633726 q633538 (rT0 r633544 (by decide)) (rT1 r633544 (by decide)) (rT2 r633544 (by decide))).trans he633591
                have he633730 : F633724 q633555 = .inr (17, [.ref q633564, .ref q633565, .int p633566, .int p633567]) := (hs633726 q633555 (rT0 ht633560 (by decide)) (rT1 ht633560 (by decide)) (rT2 ht633560 (by decide))).trans he633592
                have he633731 : F633724 q633564 = .inr (4, [.int p633598, .ref q633600, .int p633599]) := (hs633726 q633564 (rT0 ht633568 (by decide)) (rT1 ht633568 (by decide)) (rT2 ht633568 (by decide))).trans he633597
                have he633732 : F633724 q633600 = .inl (I (.object "java/lang/Object"), n633684, .inr (.inr (.inr (.inr f633685)))) := (hs633726 q633600 (rT0 r633676 (by decide)) (rT1 r633676 (by decide)) (rT2 r633676 (by decide))).trans r633678
                have he633733 : F633724 q633687 = .inr (20, [.int p633699, .int p633700, .int p633701, .int p633702, .int p633703, .int p633704, .int p633705]) := (hs633726 q633687 (rT0 ht633690 (by decide)) (rT1 ht633690 (by decide)) (rT2 ht633690 (by decide))).trans he633698
                have hs633734 : rStr γ [] F628734 F633724 := rStr_tr hs633594 hs633726
                change G _ _ _ _ _ _ _ (.int o633719 :: _) _ _ _
                refine G_widen (cs' := 0) (sl' := 0) (by omega) (by omega) ?_
                refine G_istore (L' := [(6, .int o633719), (5, .ref q633555), (4, .int g633445), (3, .int g633444), (0, .ref q628735), (1, .ref q628736), (2, .int p628737)]) dr_cX17_run_111 (Nat.le_of_ble_eq_true rfl) rfl ?_
                refine G_iload 0 dr_cX17_run_113 rfl ?_
                refine G_if_lt 121 dr_cX17_run_115 (by decide +kernel) (fun hc633735 => ?_) (fun hc633735 => ?_)
                · have r633736 : o633719.toInt < 0 := gj_lt hc633735 (show Int32.toInt 0 = 0 by decide)
                  have bo633719' : gB o633719 (-1) (-1) := ⟨by omega, by omega⟩
                  obtain ⟨z633737, hz633737⟩ : ∃ z : Int32, z = g633445 + Int32.ofInt 1 := ⟨_, rfl⟩
                  have ez633737 : z633737.toInt = g633445.toInt + 1 := gI_inc hz633737 (by decide) bg633445' (by decide) (by decide)
                  have bz633737 : gB z633737 1 1000000 := ⟨by omega, by omega⟩
                  refine G_iinc (L' := [(4, .int z633737), (6, .int o633719), (5, .ref q633555), (3, .int g633444), (0, .ref q628735), (1, .ref q628736), (2, .int p628737)]) z633737 2 dr_cX17_run_121 rfl hz633737.symm (Nat.le_of_ble_eq_true rfl) rfl ?_
                  refine G_goto 54 dr_cX17_run_124 (by decide +kernel) ?_
                  refine G_lv (L' := [(4, .int z633737), (3, .int g633444), (0, .ref q628735), (1, .ref q628736), (2, .int p628737)]) [0, 3, 4, 5, 6] rfl ?_
                  have hm633738 : q628735 ∈ P628733 := RS_m hT633725 htq628735 (by decide)
                  refine rk10_e (show rk_10 γ (F633724 q628735) from RS_o hT633725 htq628735) (fun q633740 q633741 p633742 p633743 p633744 p633745 p633746 p633747 p633748 p633749 p633750 p633751 p633752 p633753 p633754 p633755 p633756 he633739 hB633783 ht633757 ht633758 ht633759 ht633760 ht633761 ht633762 ht633763 ht633764 ht633765 ht633766 ht633767 ht633768 ht633769 ht633770 ht633771 ht633772 ht633773 ht633774 ht633775 ht633776 ht633777 ht633778 ht633779 ht633780 hB633784 => ?_)
                  have ac633785 : (fI (F633724 q628735) 26).toInt = p633751.toInt := by rw [he633739]; rfl
                  have bp633751 : gB p633751 0 100000 := (hB633783.2.2.2.2.2.1)
                  have ac633786 : (fI (F633724 q628735) 9).toInt = p633742.toInt := by rw [he633739]; rfl
                  have bp633742 : gB p633742 0 1 := (hB633783.1)
                  have ac633787 : (fI (F633724 q628735) 10).toInt = p633743.toInt := by rw [he633739]; rfl
                  have bp633743 : gB p633743 0 1 := (hB633783.2.1)
                  have ac633788 : (fI (F633724 q628735) 32).toInt = p633754.toInt := by rw [he633739]; rfl
                  have bp633754 : gB p633754 0 8192 := (hB633783.2.2.2.2.2.2.2.1)
                  have ac633789 : (fI (F633724 q628735) 26).toInt = p633751.toInt := by rw [he633739]; rfl
                  have ac633790 : (fI (F633724 q628735) 9).toInt = p633742.toInt := by rw [he633739]; rfl
                  have ac633791 : (fI (F633724 q628735) 10).toInt = p633743.toInt := by rw [he633739]; rfl
                  have ac633792 : (fI (F633724 q628735) 32).toInt = p633754.toInt := by rw [he633739]; rfl
                  exact ih54_633453 F633724 g633444 z633737 bg633444 (gB_w bz633737 (by decide) (by decide)) hT633725 hs633734 (by omega) (by omega) (by omega) (by omega) (by omega) (by omega)
                · have r633793 : 0 ≤ o633719.toInt := gj_nlt hc633735 (show Int32.toInt 0 = 0 by decide)
                  have bo633719' : gB o633719 0 5 := ⟨by omega, by omega⟩
                  refine G_iload 0 dr_cX17_run_118 rfl ?_
                  have hm633794 : q628735 ∈ P628733 := RS_m hT633725 htq628735 (by decide)
                  refine rk10_e (show rk_10 γ (F633724 q628735) from RS_o hT633725 htq628735) (fun q633796 q633797 p633798 p633799 p633800 p633801 p633802 p633803 p633804 p633805 p633806 p633807 p633808 p633809 p633810 p633811 p633812 he633795 hB633839 ht633813 ht633814 ht633815 ht633816 ht633817 ht633818 ht633819 ht633820 ht633821 ht633822 ht633823 ht633824 ht633825 ht633826 ht633827 ht633828 ht633829 ht633830 ht633831 ht633832 ht633833 ht633834 ht633835 ht633836 hB633840 => ?_)
                  have ac633841 : (fI (F633724 q628735) 26).toInt = p633807.toInt := by rw [he633795]; rfl
                  have bp633807 : gB p633807 0 100000 := (hB633839.2.2.2.2.2.1)
                  have ac633842 : (fI (F633724 q628735) 9).toInt = p633798.toInt := by rw [he633795]; rfl
                  have bp633798 : gB p633798 0 1 := (hB633839.1)
                  have ac633843 : (fI (F633724 q628735) 10).toInt = p633799.toInt := by rw [he633795]; rfl
                  have bp633799 : gB p633799 0 1 := (hB633839.2.1)
                  have ac633844 : (fI (F633724 q628735) 32).toInt = p633810.toInt := by rw [he633795]; rfl
                  have bp633810 : gB p633810 0 8192 := (hB633839.2.2.2.2.2.2.2.1)
                  have ac633845 : (fI (F633724 q628735) 26).toInt = p633807.toInt := by rw [he633795]; rfl
                  have ac633846 : (fI (F633724 q628735) 9).toInt = p633798.toInt := by rw [he633795]; rfl
                  have ac633847 : (fI (F633724 q628735) 10).toInt = p633799.toInt := by rw [he633795]; rfl
                  have ac633848 : (fI (F633724 q628735) 32).toInt = p633810.toInt := by rw [he633795]; rfl
                  exact G_iretA dr_cX17_run_120 rfl (Nat.le_of_ble_eq_true rfl) (Nat.le_of_ble_eq_true rfl) ⟨F633724, o633719, rfl, rfl, hT633725, hs633734, (Nat.le_of_ble_eq_true rfl), (Nat.le_of_ble_eq_true rfl), bo633719', (by omega), (by omega), (by omega)⟩
            · have r633849 : p633470.toInt = p628737.toInt := gC_eq hc633583
              have bp633470' : gB p633470 1 100000 := ⟨by omega, by omega⟩
              refine G_iconst 4 dr_cX17_run_69 (by decide +kernel) ?_
              have ac633850 : (fI (F633446 q628735) 26).toInt = p633470.toInt := by rw [he633458]; rfl
              have ac633851 : (fI (F633446 q628735) 9).toInt = p633461.toInt := by rw [he633458]; rfl
              have ac633852 : (fI (F633446 q628735) 10).toInt = p633462.toInt := by rw [he633458]; rfl
              have ac633853 : (fI (F633446 q628735) 32).toInt = p633473.toInt := by rw [he633458]; rfl
              exact G_iretA dr_cX17_run_70 rfl (Nat.le_of_ble_eq_true rfl) (Nat.le_of_ble_eq_true rfl) ⟨F633446, 4, rfl, rfl, hT633447, hs633448, (Nat.le_of_ble_eq_true rfl), (Nat.le_of_ble_eq_true rfl), (gB_w (gBl (show Int32.toInt 4 = 4 by decide)) (by decide) (by decide)), (by have qa0 : Int32.toInt 4 = 4 := (by decide); omega), (by have qa0 : Int32.toInt 4 = 4 := (by decide); omega), (by have qa0 : Int32.toInt 4 = 4 := (by decide); omega)⟩
        have ac633854 : (fI (F633100 q628735) 26).toInt = 0 := by rw [he633103]; show Int32.toInt 0 = 0; decide
        have ac633855 : (fI (F633100 q628735) 9).toInt = p633030.toInt := by rw [he633103]; rfl
        have ac633856 : (fI (F633100 q628735) 10).toInt = p633031.toInt := by rw [he633103]; rfl
        have ac633857 : (fI (F633100 q628735) 32).toInt = p633042.toInt := by rw [he633103]; rfl
        exact hlp54_633453 ((p628737.toInt - (fI (F633100 q628735) 26).toInt).toNat + 1) F633100 0 0 (gB_w (gBl (show Int32.toInt 0 = 0 by decide)) (by decide) (by decide)) (gB_w (gBl (show Int32.toInt 0 = 0 by decide)) (by decide) (by decide)) hT633106 hs633104 (by have qa0 : Int32.toInt 0 = 0 := (by decide); omega) (by omega) (by omega) (by omega) (by omega) (Nat.lt_succ_self _)
      · have r633858 : g633016.toInt < 2000 := gj_nleL hc633081 (show Int32.toInt 2000 = 2000 by decide)
        have bg633016' : gB g633016 0 1999 := ⟨by omega, by omega⟩
        refine G_aload_n 1 dr_cX17_run_9 rfl ?_
        refine Gp_get 20 hm633026 he633027 dr_cX17_run_10 (gk_X17 D I) (Nat.le_of_ble_eq_true rfl) wr_7_94 rfl ?_
        refine G_iload_n 0 dr_cX17_run_13 rfl ?_
        refine G_iconst 0 dr_cX17_run_14 (by decide +kernel) ?_
        have hm633859 : (γ 9 20) ∈ P628733 := RS_m hT633018 ht633061 (by decide)
        obtain ⟨f633861, he633860⟩ := show rk_22 I (F633017 (γ 9 20)) from RS_o hT633018 ht633061
        refine Gp_iast 0 hm633859 he633860 dr_cX17_run_15 rfl (gB_in bg633016' (by decide) (by decide)) (fun F633862 e633863 n633864 => ?_)
        obtain ⟨f633865, hf633865⟩ : ∃ z, z = upd f633861 g633016.toNatClampNeg 0 := ⟨_, rfl⟩
        rw [← hf633865] at e633863
        have he633866 : F633862 q628735 = .inr (22, [.ref (γ 9 0), .ref (γ 9 1), .ref (γ 9 2), .ref (γ 9 3), .ref (γ 9 4), .ref (γ 9 5), .ref (γ 9 6), .ref (γ 9 7), .ref (γ 9 8), .int p633030, .int p633031, .int p633032, .int p633033, .int p633034, .int p633035, .ref (γ 9 15), .ref (γ 9 16), .ref (γ 9 17), .ref (γ 9 18), .ref (γ 9 19), .ref (γ 9 20), .ref (γ 9 21), .ref (γ 9 22), .int p633036, .int p633037, .int p633038, .int p633039, .int p633040, .ref q633028, .ref (γ 9 29), .int p633041, .ref (γ 9 31), .int p633042, .int p633043, .int p633044, .ref q633029]) := (n633864 q628735 (rn_oa he633027 he633860)).trans he633027
        have he633867 : F633862 (γ 9 20) = .inl (I .int, 2000, .inl f633865) := e633863
        have hs633868 : rStr γ [] F628734 F633862 := rStr_put hs633019 n633864 ht633061 (by decide)
        refine G_aload_n 1 dr_cX17_run_16 rfl ?_
        refine Gp_get 21 hm633026 he633866 dr_cX17_run_17 (gk_X17 D I) (Nat.le_of_ble_eq_true rfl) wr_7_95 rfl ?_
        refine G_iload_n 0 dr_cX17_run_20 rfl ?_
        refine G_iconst 0 dr_cX17_run_21 (by decide +kernel) ?_
        have hT633869 : RS D I P628733 F633862 γ el := RS_set hT633018 n633864 ht633061 (by decide) ⟨f633865, he633867⟩
        have hm633870 : (γ 9 21) ∈ P628733 := RS_m hT633869 ht633062 (by decide)
        obtain ⟨f633872, he633871⟩ := show rk_23 I (F633862 (γ 9 21)) from RS_o hT633869 ht633062
        refine Gp_iast 0 hm633870 he633871 dr_cX17_run_22 rfl (gB_in bg633016' (by decide) (by decide)) (fun F633873 e633874 n633875 => ?_)
        obtain ⟨f633876, hf633876⟩ : ∃ z, z = upd f633872 g633016.toNatClampNeg 0 := ⟨_, rfl⟩
        rw [← hf633876] at e633874
        have he633877 : F633873 q628735 = .inr (22, [.ref (γ 9 0), .ref (γ 9 1), .ref (γ 9 2), .ref (γ 9 3), .ref (γ 9 4), .ref (γ 9 5), .ref (γ 9 6), .ref (γ 9 7), .ref (γ 9 8), .int p633030, .int p633031, .int p633032, .int p633033, .int p633034, .int p633035, .ref (γ 9 15), .ref (γ 9 16), .ref (γ 9 17), .ref (γ 9 18), .ref (γ 9 19), .ref (γ 9 20), .ref (γ 9 21), .ref (γ 9 22), .int p633036, .int p633037, .int p633038, .int p633039, .int p633040, .ref q633028, .ref (γ 9 29), .int p633041, .ref (γ 9 31), .int p633042, .int p633043, .int p633044, .ref q633029]) := (n633875 q628735 (rn_oa he633866 he633871)).trans he633866
        have he633878 : F633873 (γ 9 20) = .inl (I .int, 2000, .inl f633865) := (n633875 (γ 9 20) (rn_ty ht633061 ht633062 (by decide))).trans he633867
        have he633879 : F633873 (γ 9 21) = .inl (I .int, 2000, .inl f633876) := e633874
        have hs633880 : rStr γ [] F628734 F633873 := rStr_put hs633868 n633875 ht633062 (by decide)
        obtain ⟨z633881, hz633881⟩ : ∃ z : Int32, z = g633016 + Int32.ofInt 1 := ⟨_, rfl⟩
        have ez633881 : z633881.toInt = g633016.toInt + 1 := gI_inc hz633881 (by decide) bg633016' (by decide) (by decide)
        have bz633881 : gB z633881 1 2000 := ⟨by omega, by omega⟩
        refine G_iinc (L' := [(3, .int z633881), (0, .ref q628735), (1, .ref q628736), (2, .int p628737)]) z633881 0 dr_cX17_run_23 rfl hz633881.symm (Nat.le_of_ble_eq_true rfl) rfl ?_
        refine G_goto 2 dr_cX17_run_26 (by decide +kernel) ?_
        have hT633882 : RS D I P628733 F633873 γ el := RS_set hT633869 n633875 ht633062 (by decide) ⟨f633876, he633879⟩
        have ac633883 : (fI (F633873 q628735) 26).toInt = p633039.toInt := by rw [he633877]; rfl
        have ac633884 : (fI (F633873 q628735) 9).toInt = p633030.toInt := by rw [he633877]; rfl
        have ac633885 : (fI (F633873 q628735) 10).toInt = p633031.toInt := by rw [he633877]; rfl
        have ac633886 : (fI (F633873 q628735) 32).toInt = p633042.toInt := by rw [he633877]; rfl
        exact ih2_633022 F633873 z633881 (gB_w bz633881 (by decide) (by decide)) hT633882 hs633880 (by omega) (by omega) (by omega) (mz_up ez633881 (Int.le_trans bg633016'.2 (by decide)) hm2_633022)
  have ac633887 : (fI (F628734 q628735) 26).toInt = p628753.toInt := by rw [he628741]; rfl
  have ac633888 : (fI (F628734 q628735) 9).toInt = p628744.toInt := by rw [he628741]; rfl
  have ac633889 : (fI (F628734 q628735) 10).toInt = p628745.toInt := by rw [he628741]; rfl
  have ac633890 : (fI (F628734 q628735) 32).toInt = p628756.toInt := by rw [he628741]; rfl
  exact hlp2_633022 (((2001 : Int) - 0).toNat + 1) F628734 0 (gB_w (gBl (show Int32.toInt 0 = 0 by decide)) (by decide) (by decide)) hT (rStr_rf (γ := γ) (W := []) (F := F628734)) (by omega) (by omega) (by omega) (Nat.lt_succ_self _)
abbrev ky_633900_SpillForgeModel_run : gKey := (cX17_run_, 3, "SpillForgeModel", (some FieldType.int), [], "run", fun _ _ => True)
def pt_633900_SpillForgeModel_run (D : va_G) (I : FieldType → ClassId) (γ el : Nat → Nat → Nat) (P633893 : List Nat) (F633894 : Nat → va_E) (q633895 : Nat) (p633896 : Int32) (p633897 : Int32) : Option Value → va_W → Nat → Nat → Prop := fun r w dc ds => ∃ (F634408 : Nat → va_E) (o634407 : Int32), r = some (.int o634407) ∧ w = va_pl P633893 F634408 ∧ RS D I P633893 F634408 γ el ∧ rStr γ [] F633894 F634408 ∧ dc ≤ 0 ∧ ds ≤ 0 ∧ gB o634407 0 5 ∧ (fI (F634408 q633895) 9).toInt = (fI (F633894 q633895) 9).toInt ∧ (fI (F634408 q633895) 10).toInt = (fI (F633894 q633895) 10).toInt ∧ (fI (F634408 q633895) 32).toInt = (fI (F633894 q633895) 32).toInt
set_option maxRecDepth 100000 in
set_option maxHeartbeats 4000000 in
theorem ct_633900_SpillForgeModel_run (l : Launch) (hl0 : l.stackTraces = false) (D : va_G) (I : FieldType → ClassId) (γ el : Nat → Nat → Nat) (P633893 : List Nat) (F633894 : Nat → va_E) (q633895 : Nat) (p633896 : Int32) (p633897 : Int32) (hT : RS D I P633893 F633894 γ el) (htq633895 : rKd γ q633895 10) (bp633896 : gB p633896 0 1) (x633898 : ((fI (F633894 q633895) 9).toInt = 0 ∨ 0 < γ 6 0)) (x633899 : ((fI (F633894 q633895) 10).toInt = 0 ∨ 0 < γ 6 1)) : CtA (gV D I) l yX17_run_ cX17_run_ 3 (some FieldType.int) 5 111 0 0 [.ref q633895, .int p633896, .int p633897] (va_pl P633893 F633894) (pt_633900_SpillForgeModel_run D I γ el P633893 F633894 q633895 p633896 p633897) gNA := by
  refine CtA_of hl0 (by decide) (Nat.le_of_ble_eq_true rfl) ?_
  have bp633897 := gB_any p633897
  have hm633901 : q633895 ∈ P633893 := RS_m hT htq633895 (by decide)
  refine rk10_e (show rk_10 γ (F633894 q633895) from RS_o hT htq633895) (fun q633903 q633904 p633905 p633906 p633907 p633908 p633909 p633910 p633911 p633912 p633913 p633914 p633915 p633916 p633917 p633918 p633919 he633902 hB633946 ht633920 ht633921 ht633922 ht633923 ht633924 ht633925 ht633926 ht633927 ht633928 ht633929 ht633930 ht633931 ht633932 ht633933 ht633934 ht633935 ht633936 ht633937 ht633938 ht633939 ht633940 ht633941 ht633942 ht633943 hB633947 => ?_)
  have ac633948 : (fI (F633894 q633895) 9).toInt = p633905.toInt := by rw [he633902]; rfl
  have bp633905 : gB p633905 0 1 := (hB633946.1)
  have ac633949 : (fI (F633894 q633895) 10).toInt = p633906.toInt := by rw [he633902]; rfl
  have bp633906 : gB p633906 0 1 := (hB633946.2.1)
  have ac633950 : (fI (F633894 q633895) 32).toInt = p633917.toInt := by rw [he633902]; rfl
  have bp633917 : gB p633917 0 8192 := (hB633946.2.2.2.2.2.2.2.1)
  have fq633951 : γ 6 (γ 1 (γ 9 6)) = γ 6 0 := by rw [show γ 1 (γ 9 6) = 0 from ht633941]
  have fq633952 : γ 6 (γ 1 (γ 9 7)) = γ 6 1 := by rw [show γ 1 (γ 9 7) = 1 from ht633942]
  have fq633953 : γ 6 (γ 1 (γ 9 8)) = γ 6 2 := by rw [show γ 1 (γ 9 8) = 2 from ht633943]
  have r633954 : p633919.toInt ≤ γ 12 q633904 := by have z := hB633947; unfold rM2 at z; exact z.2.2
  refine G_aload_n 0 dr_cX17_run__0 rfl ?_
  refine G_iconst 0 dr_cX17_run__1 (by decide +kernel) ?_
  refine Gp_put 30 hm633901 he633902 dr_cX17_run__2 (gk_X17 D I) (Nat.le_of_ble_eq_true rfl) wr_7_104 rfl rfl rfl (Nat.le_of_ble_eq_true rfl) (fun F633955 e633956 n633957 => ?_)
  have he633958 : F633955 q633895 = .inr (22, [.ref (γ 9 0), .ref (γ 9 1), .ref (γ 9 2), .ref (γ 9 3), .ref (γ 9 4), .ref (γ 9 5), .ref (γ 9 6), .ref (γ 9 7), .ref (γ 9 8), .int p633905, .int p633906, .int p633907, .int p633908, .int p633909, .int p633910, .ref (γ 9 15), .ref (γ 9 16), .ref (γ 9 17), .ref (γ 9 18), .ref (γ 9 19), .ref (γ 9 20), .ref (γ 9 21), .ref (γ 9 22), .int p633911, .int p633912, .int p633913, .int p633914, .int p633915, .ref q633903, .ref (γ 9 29), .int 0, .ref (γ 9 31), .int p633917, .int p633918, .int p633919, .ref q633904]) := e633956
  have hs633959 : rStr γ [] F633894 F633955 := rStr_put (rStr_rf (γ := γ) (W := []) (F := F633894)) n633957 htq633895 (by decide)
  refine G_iload_n 2 dr_cX17_run__5 rfl ?_
  refine G_iconst 1 dr_cX17_run__6 (by decide +kernel) ?_
  refine G_icmp_lt 17 dr_cX17_run__7 (by decide +kernel) (fun hc633960 => ?_) (fun hc633960 => ?_)
  · have r633961 : p633897.toInt < 1 := gj_lt hc633960 (show Int32.toInt 1 = 1 by decide)
    have bp633897' : gB p633897 (-2147483648) 0 := ⟨by omega, by omega⟩
    refine G_aload_n 0 dr_cX17_run__17 rfl ?_
    refine G_iconst 1 dr_cX17_run__18 (by decide +kernel) ?_
    have hT633962 : RS D I P633893 F633955 γ el := RS_set hT n633957 htq633895 (by decide) ⟨q633903, q633904, p633905, p633906, p633907, p633908, p633909, p633910, p633911, p633912, p633913, p633914, p633915, 0, p633917, p633918, p633919, he633958, ⟨bp633905, bp633906, (hB633946.2.2.1), (hB633946.2.2.2.1), (hB633946.2.2.2.2.1), (hB633946.2.2.2.2.2.1), (hB633946.2.2.2.2.2.2.1), bp633917, (hB633946.2.2.2.2.2.2.2.2)⟩, ht633920, ht633921, ht633922, ht633923, ht633924, ht633925, ht633926, ht633927, ht633928, ht633929, ht633930, ht633931, ht633932, ht633933, ht633934, ht633935, ht633936, ht633937, ht633938, ht633939, ht633940, ht633941, ht633942, ht633943, hB633947⟩
    have ac633963 : (fI (F633955 q633895) 9).toInt = p633905.toInt := by rw [he633958]; rfl
    have ac633964 : (fI (F633955 q633895) 10).toInt = p633906.toInt := by rw [he633958]; rfl
    have ac633965 : (fI (F633955 q633895) 32).toInt = p633917.toInt := by rw [he633958]; rfl
    refine Gw_callV (As := [.int 1]) (gV_ok D I) (ct_627106_SpillForgeModel_no l hl0 D I γ el P633893 F633955 q633895 1 hT633962 htq633895) dr_cX17_run__19 ⟨wr_7_191, wr_1_14, wr_7_194, by decide, rfl, (Nat.le_of_ble_eq_true rfl), (Nat.le_of_ble_eq_true rfl)⟩ wr_7_193 wr_p_73 hm633901 he633958 rfl (show 0 + 0 ≤ 0 by first | omega | decide) (show 0 + 0 ≤ 0 by first | omega | decide) (Nat.le_of_ble_eq_true rfl) (fun r633969 w633970 dc633966 ds633967 hp633968 => ?_) (fun _ _ _ _ _ z => z.elim)
    obtain ⟨F633975, rfl, rfl, hT633976, hs633977, hdc, hds, x633971, x633972, x633973, x633974⟩ := hp633968
    have hs633978 : rStr γ [] F633894 F633975 := rStr_tr hs633959 hs633977
    rw [show Int32.toInt 1 = 1 from by decide] at x633974
    change G _ _ _ _ _ _ _ (.int 0 :: _) _ _ _
    refine G_widen (cs' := 0) (sl' := 0) (by omega) (by omega) ?_
    have hm633979 : q633895 ∈ P633893 := RS_m hT633976 htq633895 (by decide)
    refine rk10_e (show rk_10 γ (F633975 q633895) from RS_o hT633976 htq633895) (fun q633981 q633982 p633983 p633984 p633985 p633986 p633987 p633988 p633989 p633990 p633991 p633992 p633993 p633994 p633995 p633996 p633997 he633980 hB634024 ht633998 ht633999 ht634000 ht634001 ht634002 ht634003 ht634004 ht634005 ht634006 ht634007 ht634008 ht634009 ht634010 ht634011 ht634012 ht634013 ht634014 ht634015 ht634016 ht634017 ht634018 ht634019 ht634020 ht634021 hB634025 => ?_)
    have ac634026 : (fI (F633975 q633895) 9).toInt = p633983.toInt := by rw [he633980]; rfl
    have bp633983 : gB p633983 0 1 := (hB634024.1)
    have ac634027 : (fI (F633975 q633895) 10).toInt = p633984.toInt := by rw [he633980]; rfl
    have bp633984 : gB p633984 0 1 := (hB634024.2.1)
    have ac634028 : (fI (F633975 q633895) 32).toInt = p633995.toInt := by rw [he633980]; rfl
    have bp633995 : gB p633995 0 8192 := (hB634024.2.2.2.2.2.2.2.1)
    have ac634029 : (fI (F633975 q633895) 9).toInt = p633983.toInt := by rw [he633980]; rfl
    have ac634030 : (fI (F633975 q633895) 10).toInt = p633984.toInt := by rw [he633980]; rfl
    have ac634031 : (fI (F633975 q633895) 32).toInt = p633995.toInt := by rw [he633980]; rfl
    exact G_iretA dr_cX17_run__22 rfl (Nat.le_of_ble_eq_true rfl) (Nat.le_of_ble_eq_true rfl) ⟨F633975, 0, rfl, rfl, hT633976, hs633978, (Nat.le_of_ble_eq_true rfl), (Nat.le_of_ble_eq_true rfl), (gB_w (gBl (show Int32.toInt 0 = 0 by decide)) (by decide) (by decide)), (by have qa0 : Int32.toInt 0 = 0 := (by decide); omega), (by have qa0 : Int32.toInt 0 = 0 := (by decide); omega), (by have qa0 : Int32.toInt 0 = 0 := (by decide); omega)⟩
  · have r634032 : 1 ≤ p633897.toInt := gj_nlt hc633960 (show Int32.toInt 1 = 1 by decide)
    have bp633897' : gB p633897 1 2147483647 := ⟨by omega, by omega⟩
    refine G_iload_n 2 dr_cX17_run__10 rfl ?_
    refine G_ldcw 100000 dr_cX17_run__11 wr_11_91 ?_
    refine G_icmp_le 23 dr_cX17_run__14 (by decide +kernel) (fun hc634033 => ?_) (fun hc634033 => ?_)
    · have r634034 : p633897.toInt ≤ 100000 := gj_le hc634033 (show Int32.toInt 100000 = 100000 by decide)
      have bp633897'' : gB p633897 1 100000 := ⟨by omega, by omega⟩
      refine G_iload_n 1 dr_cX17_run__23 rfl ?_
      refine G_if_eq 37 dr_cX17_run__24 (by decide +kernel) (fun hc634035 => ?_) (fun hc634035 => ?_)
      · have r634036 : p633896.toInt = 0 := gj_eq hc634035 (show Int32.toInt 0 = 0 by decide)
        have bp633896' : gB p633896 0 0 := gB_t0 r634036
        refine G_aload_n 0 dr_cX17_run__37 rfl ?_
        refine Gp_get 9 hm633901 he633958 dr_cX17_run__38 (gk_X17 D I) (Nat.le_of_ble_eq_true rfl) wr_7_83 rfl ?_
        refine G_if_ne 50 dr_cX17_run__41 (by decide +kernel) (fun hc634037 => ?_) (fun hc634037 => ?_)
        · have r634038 : p633905.toInt ≠ 0 := gj_neq hc634037 (show Int32.toInt 0 = 0 by decide)
          have bp633905' : gB p633905 1 1 := gB_t1 bp633905 r634038
          refine G_aload_n 0 dr_cX17_run__50 rfl ?_
          refine G_aload_n 0 dr_cX17_run__51 rfl ?_
          refine G_iload_n 1 dr_cX17_run__52 rfl ?_
          refine G_if_eq 63 dr_cX17_run__53 (by decide +kernel) (fun _ => ?_) (fun hc => absurd (show False by have := gj_neq hc (show Int32.toInt 0 = 0 by decide); omega) not_false)
          refine G_aload_n 0 dr_cX17_run__63 rfl ?_
          refine Gp_get 6 hm633901 he633958 dr_cX17_run__64 (gk_X17 D I) (Nat.le_of_ble_eq_true rfl) wr_7_80 rfl ?_
          refine G_iload_n 2 dr_cX17_run__67 rfl ?_
          have hT634039 : RS D I P633893 F633955 γ el := RS_set hT n633957 htq633895 (by decide) ⟨q633903, q633904, p633905, p633906, p633907, p633908, p633909, p633910, p633911, p633912, p633913, p633914, p633915, 0, p633917, p633918, p633919, he633958, ⟨(gB_w bp633905' (by decide) (by decide)), bp633906, (hB633946.2.2.1), (hB633946.2.2.2.1), (hB633946.2.2.2.2.1), (hB633946.2.2.2.2.2.1), (hB633946.2.2.2.2.2.2.1), bp633917, (hB633946.2.2.2.2.2.2.2.2)⟩, ht633920, ht633921, ht633922, ht633923, ht633924, ht633925, ht633926, ht633927, ht633928, ht633929, ht633930, ht633931, ht633932, ht633933, ht633934, ht633935, ht633936, ht633937, ht633938, ht633939, ht633940, ht633941, ht633942, ht633943, hB633947⟩
          have ac634040 : (fI (F633955 q633895) 9).toInt = p633905.toInt := by rw [he633958]; rfl
          have ac634041 : (fI (F633955 q633895) 10).toInt = p633906.toInt := by rw [he633958]; rfl
          have ac634042 : (fI (F633955 q633895) 32).toInt = p633917.toInt := by rw [he633958]; rfl
          refine Gw_callV (As := [.ref (γ 9 6), .int p633897]) (gV_ok D I) (ct_628739_SpillForgeModel_run l hl0 D I γ el P633893 F633955 q633895 (γ 9 6) p633897 hT634039 htq633895 ht633928 bp633897'' (by have qa0 : Int32.toInt 0 = 0 := (by decide); omega)) dr_cX17_run__68 ⟨wr_11_92, wr_1_14, wr_11_95, by decide, rfl, (Nat.le_of_ble_eq_true rfl), (Nat.le_of_ble_eq_true rfl)⟩ wr_11_94 wr_p_113 hm633901 he633958 rfl (show 0 + 0 ≤ 0 by first | omega | decide) (show 0 + 0 ≤ 0 by first | omega | decide) (Nat.le_of_ble_eq_true rfl) (fun r634046 w634047 dc634043 ds634044 hp634045 => ?_) (fun _ _ _ _ _ z => z.elim)
          obtain ⟨F634052, o634048, rfl, rfl, hT634053, hs634054, hdc, hds, bo634048, x634049, x634050, x634051⟩ := hp634045
          have hs634055 : rStr γ [] F633894 F634052 := rStr_tr hs633959 hs634054
          change G _ _ _ _ _ _ _ (.int o634048 :: _) _ _ _
          refine G_widen (cs' := 0) (sl' := 0) (by omega) (by omega) ?_
          have hm634056 : q633895 ∈ P633893 := RS_m hT634053 htq633895 (by decide)
          refine rk10_e (show rk_10 γ (F634052 q633895) from RS_o hT634053 htq633895) (fun q634058 q634059 p634060 p634061 p634062 p634063 p634064 p634065 p634066 p634067 p634068 p634069 p634070 p634071 p634072 p634073 p634074 he634057 hB634101 ht634075 ht634076 ht634077 ht634078 ht634079 ht634080 ht634081 ht634082 ht634083 ht634084 ht634085 ht634086 ht634087 ht634088 ht634089 ht634090 ht634091 ht634092 ht634093 ht634094 ht634095 ht634096 ht634097 ht634098 hB634102 => ?_)
          have ac634103 : (fI (F634052 q633895) 9).toInt = p634060.toInt := by rw [he634057]; rfl
          have bp634060 : gB p634060 0 1 := (hB634101.1)
          have ac634104 : (fI (F634052 q633895) 10).toInt = p634061.toInt := by rw [he634057]; rfl
          have bp634061 : gB p634061 0 1 := (hB634101.2.1)
          have ac634105 : (fI (F634052 q633895) 32).toInt = p634072.toInt := by rw [he634057]; rfl
          have bp634072 : gB p634072 0 8192 := (hB634101.2.2.2.2.2.2.2.1)
          refine Gp_put 23 hm634056 he634057 dr_cX17_run__71 (gk_X17 D I) (Nat.le_of_ble_eq_true rfl) wr_7_97 rfl rfl rfl (Nat.le_of_ble_eq_true rfl) (fun F634106 e634107 n634108 => ?_)
          have he634109 : F634106 q633895 = .inr (22, [.ref (γ 9 0), .ref (γ 9 1), .ref (γ 9 2), .ref (γ 9 3), .ref (γ 9 4), .ref (γ 9 5), .ref (γ 9 6), .ref (γ 9 7), .ref (γ 9 8), .int p634060, .int p634061, .int p634062, .int p634063, .int p634064, .int p634065, .ref (γ 9 15), .ref (γ 9 16), .ref (γ 9 17), .ref (γ 9 18), .ref (γ 9 19), .ref (γ 9 20), .ref (γ 9 21), .ref (γ 9 22), .int o634048, .int p634067, .int p634068, .int p634069, .int p634070, .ref q634058, .ref (γ 9 29), .int p634071, .ref (γ 9 31), .int p634072, .int p634073, .int p634074, .ref q634059]) := e634107
          have hs634110 : rStr γ [] F633894 F634106 := rStr_put hs634055 n634108 htq633895 (by decide)
          refine G_aload_n 0 dr_cX17_run__74 rfl ?_
          refine Gp_get 23 hm634056 he634109 dr_cX17_run__75 (gk_X17 D I) (Nat.le_of_ble_eq_true rfl) wr_7_97 rfl ?_
          have hT634111 : RS D I P633893 F634106 γ el := RS_set hT634053 n634108 htq633895 (by decide) ⟨q634058, q634059, p634060, p634061, p634062, p634063, p634064, p634065, o634048, p634067, p634068, p634069, p634070, p634071, p634072, p634073, p634074, he634109, ⟨bp634060, bp634061, (hB634101.2.2.1), (hB634101.2.2.2.1), (hB634101.2.2.2.2.1), (hB634101.2.2.2.2.2.1), (hB634101.2.2.2.2.2.2.1), bp634072, (hB634101.2.2.2.2.2.2.2.2)⟩, ht634075, ht634076, ht634077, ht634078, ht634079, ht634080, ht634081, ht634082, ht634083, ht634084, ht634085, ht634086, ht634087, ht634088, ht634089, ht634090, ht634091, ht634092, ht634093, ht634094, ht634095, ht634096, ht634097, ht634098, hB634102⟩
          have ac634112 : (fI (F634106 q633895) 9).toInt = p634060.toInt := by rw [he634109]; rfl
          have ac634113 : (fI (F634106 q633895) 10).toInt = p634061.toInt := by rw [he634109]; rfl
          have ac634114 : (fI (F634106 q633895) 32).toInt = p634072.toInt := by rw [he634109]; rfl
          exact G_iretA dr_cX17_run__78 rfl (Nat.le_of_ble_eq_true rfl) (Nat.le_of_ble_eq_true rfl) ⟨F634106, o634048, rfl, rfl, hT634111, hs634110, (Nat.le_of_ble_eq_true rfl), (Nat.le_of_ble_eq_true rfl), bo634048, (by omega), (by omega), (by omega)⟩
        · have r634115 : p633905.toInt = 0 := gj_eq hc634037 (show Int32.toInt 0 = 0 by decide)
          have bp633905' : gB p633905 0 0 := gB_t0 r634115
          refine G_aload_n 0 dr_cX17_run__44 rfl ?_
          refine G_iconst 2 dr_cX17_run__45 (by decide +kernel) ?_
          have hT634116 : RS D I P633893 F633955 γ el := RS_set hT n633957 htq633895 (by decide) ⟨q633903, q633904, p633905, p633906, p633907, p633908, p633909, p633910, p633911, p633912, p633913, p633914, p633915, 0, p633917, p633918, p633919, he633958, ⟨(gB_w bp633905' (by decide) (by decide)), bp633906, (hB633946.2.2.1), (hB633946.2.2.2.1), (hB633946.2.2.2.2.1), (hB633946.2.2.2.2.2.1), (hB633946.2.2.2.2.2.2.1), bp633917, (hB633946.2.2.2.2.2.2.2.2)⟩, ht633920, ht633921, ht633922, ht633923, ht633924, ht633925, ht633926, ht633927, ht633928, ht633929, ht633930, ht633931, ht633932, ht633933, ht633934, ht633935, ht633936, ht633937, ht633938, ht633939, ht633940, ht633941, ht633942, ht633943, hB633947⟩
          have ac634117 : (fI (F633955 q633895) 9).toInt = p633905.toInt := by rw [he633958]; rfl
          have ac634118 : (fI (F633955 q633895) 10).toInt = p633906.toInt := by rw [he633958]; rfl
          have ac634119 : (fI (F633955 q633895) 32).toInt = p633917.toInt := by rw [he633958]; rfl
          refine Gw_callV (As := [.int 2]) (gV_ok D I) (ct_627106_SpillForgeModel_no l hl0 D I γ el P633893 F633955 q633895 2 hT634116 htq633895) dr_cX17_run__46 ⟨wr_7_191, wr_1_14, wr_7_194, by decide, rfl, (Nat.le_of_ble_eq_true rfl), (Nat.le_of_ble_eq_true rfl)⟩ wr_7_193 wr_p_73 hm633901 he633958 rfl (show 0 + 0 ≤ 0 by first | omega | decide) (show 0 + 0 ≤ 0 by first | omega | decide) (Nat.le_of_ble_eq_true rfl) (fun r634123 w634124 dc634120 ds634121 hp634122 => ?_) (fun _ _ _ _ _ z => z.elim)
          obtain ⟨F634129, rfl, rfl, hT634130, hs634131, hdc, hds, x634125, x634126, x634127, x634128⟩ := hp634122
          have hs634132 : rStr γ [] F633894 F634129 := rStr_tr hs633959 hs634131
          rw [show Int32.toInt 2 = 2 from by decide] at x634128
          change G _ _ _ _ _ _ _ (.int 0 :: _) _ _ _
          refine G_widen (cs' := 0) (sl' := 0) (by omega) (by omega) ?_
          have hm634133 : q633895 ∈ P633893 := RS_m hT634130 htq633895 (by decide)
          refine rk10_e (show rk_10 γ (F634129 q633895) from RS_o hT634130 htq633895) (fun q634135 q634136 p634137 p634138 p634139 p634140 p634141 p634142 p634143 p634144 p634145 p634146 p634147 p634148 p634149 p634150 p634151 he634134 hB634178 ht634152 ht634153 ht634154 ht634155 ht634156 ht634157 ht634158 ht634159 ht634160 ht634161 ht634162 ht634163 ht634164 ht634165 ht634166 ht634167 ht634168 ht634169 ht634170 ht634171 ht634172 ht634173 ht634174 ht634175 hB634179 => ?_)
          have ac634180 : (fI (F634129 q633895) 9).toInt = p634137.toInt := by rw [he634134]; rfl
          have bp634137 : gB p634137 0 1 := (hB634178.1)
          have ac634181 : (fI (F634129 q633895) 10).toInt = p634138.toInt := by rw [he634134]; rfl
          have bp634138 : gB p634138 0 1 := (hB634178.2.1)
          have ac634182 : (fI (F634129 q633895) 32).toInt = p634149.toInt := by rw [he634134]; rfl
          have bp634149 : gB p634149 0 8192 := (hB634178.2.2.2.2.2.2.2.1)
          have ac634183 : (fI (F634129 q633895) 9).toInt = p634137.toInt := by rw [he634134]; rfl
          have ac634184 : (fI (F634129 q633895) 10).toInt = p634138.toInt := by rw [he634134]; rfl
          have ac634185 : (fI (F634129 q633895) 32).toInt = p634149.toInt := by rw [he634134]; rfl
          exact G_iretA dr_cX17_run__49 rfl (Nat.le_of_ble_eq_true rfl) (Nat.le_of_ble_eq_true rfl) ⟨F634129, 0, rfl, rfl, hT634130, hs634132, (Nat.le_of_ble_eq_true rfl), (Nat.le_of_ble_eq_true rfl), (gB_w (gBl (show Int32.toInt 0 = 0 by decide)) (by decide) (by decide)), (by have qa0 : Int32.toInt 0 = 0 := (by decide); omega), (by have qa0 : Int32.toInt 0 = 0 := (by decide); omega), (by have qa0 : Int32.toInt 0 = 0 := (by decide); omega)⟩
      · have r634186 : p633896.toInt ≠ 0 := gj_neq hc634035 (show Int32.toInt 0 = 0 by decide)
        have bp633896' : gB p633896 1 1 := gB_t1 bp633896 r634186
        refine G_aload_n 0 dr_cX17_run__27 rfl ?_
        refine Gp_get 10 hm633901 he633958 dr_cX17_run__28 (gk_X17 D I) (Nat.le_of_ble_eq_true rfl) wr_7_84 rfl ?_
        refine G_if_ne 50 dr_cX17_run__31 (by decide +kernel) (fun hc634187 => ?_) (fun hc634187 => ?_)
        · have r634188 : p633906.toInt ≠ 0 := gj_neq hc634187 (show Int32.toInt 0 = 0 by decide)
          have bp633906' : gB p633906 1 1 := gB_t1 bp633906 r634188
          refine G_aload_n 0 dr_cX17_run__50 rfl ?_
          refine G_aload_n 0 dr_cX17_run__51 rfl ?_
          refine G_iload_n 1 dr_cX17_run__52 rfl ?_
          refine G_if_eq 63 dr_cX17_run__53 (by decide +kernel) (fun hc => absurd (show False by have := gj_eq hc (show Int32.toInt 0 = 0 by decide); omega) not_false) (fun _ => ?_)
          refine G_aload_n 0 dr_cX17_run__56 rfl ?_
          refine Gp_get 7 hm633901 he633958 dr_cX17_run__57 (gk_X17 D I) (Nat.le_of_ble_eq_true rfl) wr_7_81 rfl ?_
          refine G_goto 67 dr_cX17_run__60 (by decide +kernel) ?_
          refine G_iload_n 2 dr_cX17_run__67 rfl ?_
          have hT634189 : RS D I P633893 F633955 γ el := RS_set hT n633957 htq633895 (by decide) ⟨q633903, q633904, p633905, p633906, p633907, p633908, p633909, p633910, p633911, p633912, p633913, p633914, p633915, 0, p633917, p633918, p633919, he633958, ⟨bp633905, (gB_w bp633906' (by decide) (by decide)), (hB633946.2.2.1), (hB633946.2.2.2.1), (hB633946.2.2.2.2.1), (hB633946.2.2.2.2.2.1), (hB633946.2.2.2.2.2.2.1), bp633917, (hB633946.2.2.2.2.2.2.2.2)⟩, ht633920, ht633921, ht633922, ht633923, ht633924, ht633925, ht633926, ht633927, ht633928, ht633929, ht633930, ht633931, ht633932, ht633933, ht633934, ht633935, ht633936, ht633937, ht633938, ht633939, ht633940, ht633941, ht633942, ht633943, hB633947⟩
          have ac634190 : (fI (F633955 q633895) 9).toInt = p633905.toInt := by rw [he633958]; rfl
          have ac634191 : (fI (F633955 q633895) 10).toInt = p633906.toInt := by rw [he633958]; rfl
          have ac634192 : (fI (F633955 q633895) 32).toInt = p633917.toInt := by rw [he633958]; rfl
          refine Gw_callV (As := [.ref (γ 9 7), .int p633897]) (gV_ok D I) (ct_628739_SpillForgeModel_run l hl0 D I γ el P633893 F633955 q633895 (γ 9 7) p633897 hT634189 htq633895 ht633929 bp633897'' (by have qa0 : Int32.toInt 0 = 0 := (by decide); omega)) dr_cX17_run__68 ⟨wr_11_92, wr_1_14, wr_11_95, by decide, rfl, (Nat.le_of_ble_eq_true rfl), (Nat.le_of_ble_eq_true rfl)⟩ wr_11_94 wr_p_113 hm633901 he633958 rfl (show 0 + 0 ≤ 0 by first | omega | decide) (show 0 + 0 ≤ 0 by first | omega | decide) (Nat.le_of_ble_eq_true rfl) (fun r634196 w634197 dc634193 ds634194 hp634195 => ?_) (fun _ _ _ _ _ z => z.elim)
          obtain ⟨F634202, o634198, rfl, rfl, hT634203, hs634204, hdc, hds, bo634198, x634199, x634200, x634201⟩ := hp634195
          have hs634205 : rStr γ [] F633894 F634202 := rStr_tr hs633959 hs634204
          change G _ _ _ _ _ _ _ (.int o634198 :: _) _ _ _
          refine G_widen (cs' := 0) (sl' := 0) (by omega) (by omega) ?_
          have hm634206 : q633895 ∈ P633893 := RS_m hT634203 htq633895 (by decide)
          refine rk10_e (show rk_10 γ (F634202 q633895) from RS_o hT634203 htq633895) (fun q634208 q634209 p634210 p634211 p634212 p634213 p634214 p634215 p634216 p634217 p634218 p634219 p634220 p634221 p634222 p634223 p634224 he634207 hB634251 ht634225 ht634226 ht634227 ht634228 ht634229 ht634230 ht634231 ht634232 ht634233 ht634234 ht634235 ht634236 ht634237 ht634238 ht634239 ht634240 ht634241 ht634242 ht634243 ht634244 ht634245 ht634246 ht634247 ht634248 hB634252 => ?_)
          have ac634253 : (fI (F634202 q633895) 9).toInt = p634210.toInt := by rw [he634207]; rfl
          have bp634210 : gB p634210 0 1 := (hB634251.1)
          have ac634254 : (fI (F634202 q633895) 10).toInt = p634211.toInt := by rw [he634207]; rfl
          have bp634211 : gB p634211 0 1 := (hB634251.2.1)
          have ac634255 : (fI (F634202 q633895) 32).toInt = p634222.toInt := by rw [he634207]; rfl
          have bp634222 : gB p634222 0 8192 := (hB634251.2.2.2.2.2.2.2.1)
          refine Gp_put 23 hm634206 he634207 dr_cX17_run__71 (gk_X17 D I) (Nat.le_of_ble_eq_true rfl) wr_7_97 rfl rfl rfl (Nat.le_of_ble_eq_true rfl) (fun F634256 e634257 n634258 => ?_)
          have he634259 : F634256 q633895 = .inr (22, [.ref (γ 9 0), .ref (γ 9 1), .ref (γ 9 2), .ref (γ 9 3), .ref (γ 9 4), .ref (γ 9 5), .ref (γ 9 6), .ref (γ 9 7), .ref (γ 9 8), .int p634210, .int p634211, .int p634212, .int p634213, .int p634214, .int p634215, .ref (γ 9 15), .ref (γ 9 16), .ref (γ 9 17), .ref (γ 9 18), .ref (γ 9 19), .ref (γ 9 20), .ref (γ 9 21), .ref (γ 9 22), .int o634198, .int p634217, .int p634218, .int p634219, .int p634220, .ref q634208, .ref (γ 9 29), .int p634221, .ref (γ 9 31), .int p634222, .int p634223, .int p634224, .ref q634209]) := e634257
          have hs634260 : rStr γ [] F633894 F634256 := rStr_put hs634205 n634258 htq633895 (by decide)
          refine G_aload_n 0 dr_cX17_run__74 rfl ?_
          refine Gp_get 23 hm634206 he634259 dr_cX17_run__75 (gk_X17 D I) (Nat.le_of_ble_eq_true rfl) wr_7_97 rfl ?_
          have hT634261 : RS D I P633893 F634256 γ el := RS_set hT634203 n634258 htq633895 (by decide) ⟨q634208, q634209, p634210, p634211, p634212, p634213, p634214, p634215, o634198, p634217, p634218, p634219, p634220, p634221, p634222, p634223, p634224, he634259, ⟨bp634210, bp634211, (hB634251.2.2.1), (hB634251.2.2.2.1), (hB634251.2.2.2.2.1), (hB634251.2.2.2.2.2.1), (hB634251.2.2.2.2.2.2.1), bp634222, (hB634251.2.2.2.2.2.2.2.2)⟩, ht634225, ht634226, ht634227, ht634228, ht634229, ht634230, ht634231, ht634232, ht634233, ht634234, ht634235, ht634236, ht634237, ht634238, ht634239, ht634240, ht634241, ht634242, ht634243, ht634244, ht634245, ht634246, ht634247, ht634248, hB634252⟩
          have ac634262 : (fI (F634256 q633895) 9).toInt = p634210.toInt := by rw [he634259]; rfl
          have ac634263 : (fI (F634256 q633895) 10).toInt = p634211.toInt := by rw [he634259]; rfl
          have ac634264 : (fI (F634256 q633895) 32).toInt = p634222.toInt := by rw [he634259]; rfl
          exact G_iretA dr_cX17_run__78 rfl (Nat.le_of_ble_eq_true rfl) (Nat.le_of_ble_eq_true rfl) ⟨F634256, o634198, rfl, rfl, hT634261, hs634260, (Nat.le_of_ble_eq_true rfl), (Nat.le_of_ble_eq_true rfl), bo634198, (by omega), (by omega), (by omega)⟩
        · have r634265 : p633906.toInt = 0 := gj_eq hc634187 (show Int32.toInt 0 = 0 by decide)
          have bp633906' : gB p633906 0 0 := gB_t0 r634265
          refine G_goto 44 dr_cX17_run__34 (by decide +kernel) ?_
          refine G_aload_n 0 dr_cX17_run__44 rfl ?_
          refine G_iconst 2 dr_cX17_run__45 (by decide +kernel) ?_
          have hT634266 : RS D I P633893 F633955 γ el := RS_set hT n633957 htq633895 (by decide) ⟨q633903, q633904, p633905, p633906, p633907, p633908, p633909, p633910, p633911, p633912, p633913, p633914, p633915, 0, p633917, p633918, p633919, he633958, ⟨bp633905, (gB_w bp633906' (by decide) (by decide)), (hB633946.2.2.1), (hB633946.2.2.2.1), (hB633946.2.2.2.2.1), (hB633946.2.2.2.2.2.1), (hB633946.2.2.2.2.2.2.1), bp633917, (hB633946.2.2.2.2.2.2.2.2)⟩, ht633920, ht633921, ht633922, ht633923, ht633924, ht633925, ht633926, ht633927, ht633928, ht633929, ht633930, ht633931, ht633932, ht633933, ht633934, ht633935, ht633936, ht633937, ht633938, ht633939, ht633940, ht633941, ht633942, ht633943, hB633947⟩
          have ac634267 : (fI (F633955 q633895) 9).toInt = p633905.toInt := by rw [he633958]; rfl
          have ac634268 : (fI (F633955 q633895) 10).toInt = p633906.toInt := by rw [he633958]; rfl
          have ac634269 : (fI (F633955 q633895) 32).toInt = p633917.toInt := by rw [he633958]; rfl
          refine Gw_callV (As := [.int 2]) (gV_ok D I) (ct_627106_SpillForgeModel_no l hl0 D I γ el P633893 F633955 q633895 2 hT634266 htq633895) dr_cX17_run__46 ⟨wr_7_191, wr_1_14, wr_7_194, by decide, rfl, (Nat.le_of_ble_eq_true rfl), (Nat.le_of_ble_eq_true rfl)⟩ wr_7_193 wr_p_73 hm633901 he633958 rfl (show 0 + 0 ≤ 0 by first | omega | decide) (show 0 + 0 ≤ 0 by first | omega | decide) (Nat.le_of_ble_eq_true rfl) (fun r634273 w634274 dc634270 ds634271 hp634272 => ?_) (fun _ _ _ _ _ z => z.elim)
          obtain ⟨F634279, rfl, rfl, hT634280, hs634281, hdc, hds, x634275, x634276, x634277, x634278⟩ := hp634272
          have hs634282 : rStr γ [] F633894 F634279 := rStr_tr hs633959 hs634281
          rw [show Int32.toInt 2 = 2 from by decide] at x634278
          change G _ _ _ _ _ _ _ (.int 0 :: _) _ _ _
          refine G_widen (cs' := 0) (sl' := 0) (by omega) (by omega) ?_
          have hm634283 : q633895 ∈ P633893 := RS_m hT634280 htq633895 (by decide)
          refine rk10_e (show rk_10 γ (F634279 q633895) from RS_o hT634280 htq633895) (fun q634285 q634286 p634287 p634288 p634289 p634290 p634291 p634292 p634293 p634294 p634295 p634296 p634297 p634298 p634299 p634300 p634301 he634284 hB634328 ht634302 ht634303 ht634304 ht634305 ht634306 ht634307 ht634308 ht634309 ht634310 ht634311 ht634312 ht634313 ht634314 ht634315 ht634316 ht634317 ht634318 ht634319 ht634320 ht634321 ht634322 ht634323 ht634324 ht634325 hB634329 => ?_)
          have ac634330 : (fI (F634279 q633895) 9).toInt = p634287.toInt := by rw [he634284]; rfl
          have bp634287 : gB p634287 0 1 := (hB634328.1)
          have ac634331 : (fI (F634279 q633895) 10).toInt = p634288.toInt := by rw [he634284]; rfl
          have bp634288 : gB p634288 0 1 := (hB634328.2.1)
          have ac634332 : (fI (F634279 q633895) 32).toInt = p634299.toInt := by rw [he634284]; rfl
          have bp634299 : gB p634299 0 8192 := (hB634328.2.2.2.2.2.2.2.1)
          have ac634333 : (fI (F634279 q633895) 9).toInt = p634287.toInt := by rw [he634284]; rfl
          have ac634334 : (fI (F634279 q633895) 10).toInt = p634288.toInt := by rw [he634284]; rfl
          have ac634335 : (fI (F634279 q633895) 32).toInt = p634299.toInt := by rw [he634284]; rfl
          exact G_iretA dr_cX17_run__49 rfl (Nat.le_of_ble_eq_true rfl) (Nat.le_of_ble_eq_true rfl) ⟨F634279, 0, rfl, rfl, hT634280, hs634282, (Nat.le_of_ble_eq_true rfl), (Nat.le_of_ble_eq_true rfl), (gB_w (gBl (show Int32.toInt 0 = 0 by decide)) (by decide) (by decide)), (by have qa0 : Int32.toInt 0 = 0 := (by decide); omega), (by have qa0 : Int32.toInt 0 = 0 := (by decide); omega), (by have qa0 : Int32.toInt 0 = 0 := (by decide); omega)⟩
    · have r634336 : 100000 < p633897.toInt := gj_nle hc634033 (show Int32.toInt 100000 = 100000 by decide)
      have bp633897'' : gB p633897 100001 2147483647 := ⟨by omega, by omega⟩
      refine G_aload_n 0 dr_cX17_run__17 rfl ?_
      refine G_iconst 1 dr_cX17_run__18 (by decide +kernel) ?_
      have hT634337 : RS D I P633893 F633955 γ el := RS_set hT n633957 htq633895 (by decide) ⟨q633903, q633904, p633905, p633906, p633907, p633908, p633909, p633910, p633911, p633912, p633913, p633914, p633915, 0, p633917, p633918, p633919, he633958, ⟨bp633905, bp633906, (hB633946.2.2.1), (hB633946.2.2.2.1), (hB633946.2.2.2.2.1), (hB633946.2.2.2.2.2.1), (hB633946.2.2.2.2.2.2.1), bp633917, (hB633946.2.2.2.2.2.2.2.2)⟩, ht633920, ht633921, ht633922, ht633923, ht633924, ht633925, ht633926, ht633927, ht633928, ht633929, ht633930, ht633931, ht633932, ht633933, ht633934, ht633935, ht633936, ht633937, ht633938, ht633939, ht633940, ht633941, ht633942, ht633943, hB633947⟩
      have ac634338 : (fI (F633955 q633895) 9).toInt = p633905.toInt := by rw [he633958]; rfl
      have ac634339 : (fI (F633955 q633895) 10).toInt = p633906.toInt := by rw [he633958]; rfl
      have ac634340 : (fI (F633955 q633895) 32).toInt = p633917.toInt := by rw [he633958]; rfl
      refine Gw_callV (As := [.int 1]) (gV_ok D I) (ct_627106_SpillForgeModel_no l hl0 D I γ el P633893 F633955 q633895 1 hT634337 htq633895) dr_cX17_run__19 ⟨wr_7_191, wr_1_14, wr_7_194, by decide, rfl, (Nat.le_of_ble_eq_true rfl), (Nat.le_of_ble_eq_true rfl)⟩ wr_7_193 wr_p_73 hm633901 he633958 rfl (show 0 + 0 ≤ 0 by first | omega | decide) (show 0 + 0 ≤ 0 by first | omega | decide) (Nat.le_of_ble_eq_true rfl) (fun r634344 w634345 dc634341 ds634342 hp634343 => ?_) (fun _ _ _ _ _ z => z.elim)
      obtain ⟨F634350, rfl, rfl, hT634351, hs634352, hdc, hds, x634346, x634347, x634348, x634349⟩ := hp634343
      have hs634353 : rStr γ [] F633894 F634350 := rStr_tr hs633959 hs634352
      rw [show Int32.toInt 1 = 1 from by decide] at x634349
      change G _ _ _ _ _ _ _ (.int 0 :: _) _ _ _
      refine G_widen (cs' := 0) (sl' := 0) (by omega) (by omega) ?_
      have hm634354 : q633895 ∈ P633893 := RS_m hT634351 htq633895 (by decide)
      refine rk10_e (show rk_10 γ (F634350 q633895) from RS_o hT634351 htq633895) (fun q634356 q634357 p634358 p634359 p634360 p634361 p634362 p634363 p634364 p634365 p634366 p634367 p634368 p634369 p634370 p634371 p634372 he634355 hB634399 ht634373 ht634374 ht634375 ht634376 ht634377 ht634378 ht634379 ht634380 ht634381 ht634382 ht634383 ht634384 ht634385 ht634386 ht634387 ht634388 ht634389 ht634390 ht634391 ht634392 ht634393 ht634394 ht634395 ht634396 hB634400 => ?_)
      have ac634401 : (fI (F634350 q633895) 9).toInt = p634358.toInt := by rw [he634355]; rfl
      have bp634358 : gB p634358 0 1 := (hB634399.1)
      have ac634402 : (fI (F634350 q633895) 10).toInt = p634359.toInt := by rw [he634355]; rfl
      have bp634359 : gB p634359 0 1 := (hB634399.2.1)
      have ac634403 : (fI (F634350 q633895) 32).toInt = p634370.toInt := by rw [he634355]; rfl
      have bp634370 : gB p634370 0 8192 := (hB634399.2.2.2.2.2.2.2.1)
      have ac634404 : (fI (F634350 q633895) 9).toInt = p634358.toInt := by rw [he634355]; rfl
      have ac634405 : (fI (F634350 q633895) 10).toInt = p634359.toInt := by rw [he634355]; rfl
      have ac634406 : (fI (F634350 q633895) 32).toInt = p634370.toInt := by rw [he634355]; rfl
      exact G_iretA dr_cX17_run__22 rfl (Nat.le_of_ble_eq_true rfl) (Nat.le_of_ble_eq_true rfl) ⟨F634350, 0, rfl, rfl, hT634351, hs634353, (Nat.le_of_ble_eq_true rfl), (Nat.le_of_ble_eq_true rfl), (gB_w (gBl (show Int32.toInt 0 = 0 by decide)) (by decide) (by decide)), (by have qa0 : Int32.toInt 0 = 0 := (by decide); omega), (by have qa0 : Int32.toInt 0 = 0 := (by decide); omega), (by have qa0 : Int32.toInt 0 = 0 := (by decide); omega)⟩
