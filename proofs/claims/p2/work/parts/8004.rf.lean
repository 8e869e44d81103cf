theorem dr_cX17_weigh_0 : decode cX17_weigh 0 = .ok (.aload_n 0, 1) := by decide +kernel
theorem dr_cX17_weigh_1 : decode cX17_weigh 1 = .ok (.aload_n 1, 1) := by decide +kernel
theorem dr_cX17_weigh_2 : decode cX17_weigh 2 = .ok (.invokevirtual 170, 3) := by decide +kernel
theorem wr_11_37 : (Jvm.Cond.methodLink "SpillForgeModel" (170 : Nat) ({ cls := "SpillForgeModel", name := "findDepth", desc := "(LSpillForgeModel$Code;)V" } : Jvm.MethodName)) ∈ gw := gw_11 37 rfl rfl
theorem wr_11_40 : (Jvm.Cond.code ({ cls := "SpillForgeModel", name := "findDepth", desc := "(LSpillForgeModel$Code;)V" } : Jvm.MethodName) prog_14_method_14_code (13 : Nat) (Option.none : Option Jvm.ClassFile.FieldType)) ∈ gw := gw_11 40 rfl rfl
theorem wr_11_39 : (Jvm.Cond.instanceMethod ({ cls := "SpillForgeModel", name := "findDepth", desc := "(LSpillForgeModel$Code;)V" } : Jvm.MethodName)) ∈ gw := gw_11 39 rfl rfl
theorem wr_p_105 : Cond.selects "SpillForgeModel" ⟨"SpillForgeModel", "findDepth", "(LSpillForgeModel$Code;)V"⟩ ⟨"SpillForgeModel", "findDepth", "(LSpillForgeModel$Code;)V"⟩ ∈ gw := gw_p _ 105 rfl rfl rfl
theorem dr_cX17_weigh_5 : decode cX17_weigh 5 = .ok (.iconst 0, 1) := by decide +kernel
theorem dr_cX17_weigh_6 : decode cX17_weigh 6 = .ok (.istore_n 2, 1) := by decide +kernel
theorem dr_cX17_weigh_7 : decode cX17_weigh 7 = .ok (.iload_n 2, 1) := by decide +kernel
theorem dr_cX17_weigh_8 : decode cX17_weigh 8 = .ok (.sipush 2000, 3) := by decide +kernel
theorem dr_cX17_weigh_11 : decode cX17_weigh 11 = .ok (.if_icmp .ge 16, 3) := by decide +kernel
theorem dr_cX17_weigh_27 : decode cX17_weigh 27 = .ok (.iconst 0, 1) := by decide +kernel
theorem dr_cX17_weigh_28 : decode cX17_weigh 28 = .ok (.istore_n 2, 1) := by decide +kernel
theorem dr_cX17_weigh_29 : decode cX17_weigh 29 = .ok (.iload_n 2, 1) := by decide +kernel
theorem dr_cX17_weigh_30 : decode cX17_weigh 30 = .ok (.aload_n 1, 1) := by decide +kernel
theorem dr_cX17_weigh_31 : decode cX17_weigh 31 = .ok (.invokevirtual 96, 3) := by decide +kernel
theorem dr_cX17_weigh_34 : decode cX17_weigh 34 = .ok (.if_icmp .ge 167, 3) := by decide +kernel
theorem dr_cX17_weigh_201 : decode cX17_weigh 201 = .ok (.return_, 1) := by decide +kernel
theorem dr_cX17_weigh_37 : decode cX17_weigh 37 = .ok (.iconst 1, 1) := by decide +kernel
theorem dr_cX17_weigh_38 : decode cX17_weigh 38 = .ok (.istore_n 3, 1) := by decide +kernel
theorem dr_cX17_weigh_39 : decode cX17_weigh 39 = .ok (.iconst 0, 1) := by decide +kernel
theorem dr_cX17_weigh_40 : decode cX17_weigh 40 = .ok (.istore 4, 2) := by decide +kernel
theorem dr_cX17_weigh_42 : decode cX17_weigh 42 = .ok (.iload 4, 2) := by decide +kernel
theorem dr_cX17_weigh_44 : decode cX17_weigh 44 = .ok (.aload_n 0, 1) := by decide +kernel
theorem dr_cX17_weigh_45 : decode cX17_weigh 45 = .ok (.getfield 152, 3) := by decide +kernel
theorem dr_cX17_weigh_48 : decode cX17_weigh 48 = .ok (.iload_n 2, 1) := by decide +kernel
theorem dr_cX17_weigh_49 : decode cX17_weigh 49 = .ok (.iaload, 1) := by decide +kernel
theorem dr_cX17_weigh_50 : decode cX17_weigh 50 = .ok (.if_icmp .ge 14, 3) := by decide +kernel
theorem dr_cX17_weigh_64 : decode cX17_weigh 64 = .ok (.aload_n 1, 1) := by decide +kernel
theorem dr_cX17_weigh_65 : decode cX17_weigh 65 = .ok (.iload_n 2, 1) := by decide +kernel
theorem dr_cX17_weigh_66 : decode cX17_weigh 66 = .ok (.invokevirtual 101, 3) := by decide +kernel
theorem dr_cX17_weigh_69 : decode cX17_weigh 69 = .ok (.astore 4, 2) := by decide +kernel
theorem dr_cX17_weigh_71 : decode cX17_weigh 71 = .ok (.iconst 0, 1) := by decide +kernel
theorem dr_cX17_weigh_72 : decode cX17_weigh 72 = .ok (.istore 5, 2) := by decide +kernel
theorem dr_cX17_weigh_74 : decode cX17_weigh 74 = .ok (.iload 5, 2) := by decide +kernel
theorem dr_cX17_weigh_76 : decode cX17_weigh 76 = .ok (.aload 4, 2) := by decide +kernel
theorem dr_cX17_weigh_78 : decode cX17_weigh 78 = .ok (.getfield 117, 3) := by decide +kernel
theorem dr_cX17_weigh_81 : decode cX17_weigh 81 = .ok (.invokevirtual 121, 3) := by decide +kernel
theorem dr_cX17_weigh_84 : decode cX17_weigh 84 = .ok (.if_icmp .gt 111, 3) := by decide +kernel
theorem dr_cX17_weigh_195 : decode cX17_weigh 195 = .ok (.iinc 2 1, 3) := by decide +kernel
theorem dr_cX17_weigh_198 : decode cX17_weigh 198 = .ok (.goto (-169), 3) := by decide +kernel
theorem dr_cX17_weigh_87 : decode cX17_weigh 87 = .ok (.iload 5, 2) := by decide +kernel
theorem dr_cX17_weigh_89 : decode cX17_weigh 89 = .ok (.aload 4, 2) := by decide +kernel
theorem dr_cX17_weigh_91 : decode cX17_weigh 91 = .ok (.getfield 117, 3) := by decide +kernel
theorem dr_cX17_weigh_94 : decode cX17_weigh 94 = .ok (.invokevirtual 121, 3) := by decide +kernel
theorem dr_cX17_weigh_97 : decode cX17_weigh 97 = .ok (.if_icmp .ge 19, 3) := by decide +kernel
theorem dr_cX17_weigh_116 : decode cX17_weigh 116 = .ok (.aload 4, 2) := by decide +kernel
theorem dr_cX17_weigh_118 : decode cX17_weigh 118 = .ok (.getfield 109, 3) := by decide +kernel
theorem dr_cX17_weigh_121 : decode cX17_weigh 121 = .ok (.astore 6, 2) := by decide +kernel
theorem dr_cX17_weigh_123 : decode cX17_weigh 123 = .ok (.aload 6, 2) := by decide +kernel
theorem dr_cX17_weigh_125 : decode cX17_weigh 125 = .ok (.invokevirtual 48, 3) := by decide +kernel
theorem dr_cX17_weigh_128 : decode cX17_weigh 128 = .ok (.ifCond .eq 17, 3) := by decide +kernel
theorem dr_cX17_weigh_145 : decode cX17_weigh 145 = .ok (.aload 6, 2) := by decide +kernel
theorem dr_cX17_weigh_147 : decode cX17_weigh 147 = .ok (.invokevirtual 70, 3) := by decide +kernel
theorem dr_cX17_weigh_150 : decode cX17_weigh 150 = .ok (.ifCond .eq 17, 3) := by decide +kernel
theorem dr_cX17_weigh_167 : decode cX17_weigh 167 = .ok (.aload 6, 2) := by decide +kernel
theorem dr_cX17_weigh_169 : decode cX17_weigh 169 = .ok (.invokevirtual 76, 3) := by decide +kernel
theorem dr_cX17_weigh_172 : decode cX17_weigh 172 = .ok (.ifCond .eq 17, 3) := by decide +kernel
theorem dr_cX17_weigh_189 : decode cX17_weigh 189 = .ok (.iinc 5 1, 3) := by decide +kernel
theorem dr_cX17_weigh_192 : decode cX17_weigh 192 = .ok (.goto (-118), 3) := by decide +kernel
theorem dr_cX17_weigh_175 : decode cX17_weigh 175 = .ok (.aload_n 0, 1) := by decide +kernel
theorem dr_cX17_weigh_176 : decode cX17_weigh 176 = .ok (.getfield 174, 3) := by decide +kernel
theorem dr_cX17_weigh_179 : decode cX17_weigh 179 = .ok (.aload 6, 2) := by decide +kernel
theorem dr_cX17_weigh_181 : decode cX17_weigh 181 = .ok (.getfield 79, 3) := by decide +kernel
theorem dr_cX17_weigh_184 : decode cX17_weigh 184 = .ok (.dup2, 1) := by decide +kernel
theorem dr_cX17_weigh_185 : decode cX17_weigh 185 = .ok (.iaload, 1) := by decide +kernel
theorem dr_cX17_weigh_186 : decode cX17_weigh 186 = .ok (.iload_n 3, 1) := by decide +kernel
theorem dr_cX17_weigh_187 : decode cX17_weigh 187 = .ok (.iadd, 1) := by decide +kernel
theorem dr_cX17_weigh_188 : decode cX17_weigh 188 = .ok (.iastore, 1) := by decide +kernel
theorem dr_cX17_weigh_153 : decode cX17_weigh 153 = .ok (.aload_n 0, 1) := by decide +kernel
theorem dr_cX17_weigh_154 : decode cX17_weigh 154 = .ok (.getfield 174, 3) := by decide +kernel
theorem dr_cX17_weigh_157 : decode cX17_weigh 157 = .ok (.aload 6, 2) := by decide +kernel
theorem dr_cX17_weigh_159 : decode cX17_weigh 159 = .ok (.getfield 73, 3) := by decide +kernel
theorem dr_cX17_weigh_162 : decode cX17_weigh 162 = .ok (.dup2, 1) := by decide +kernel
theorem dr_cX17_weigh_163 : decode cX17_weigh 163 = .ok (.iaload, 1) := by decide +kernel
theorem dr_cX17_weigh_164 : decode cX17_weigh 164 = .ok (.iload_n 3, 1) := by decide +kernel
theorem dr_cX17_weigh_165 : decode cX17_weigh 165 = .ok (.iadd, 1) := by decide +kernel
theorem dr_cX17_weigh_166 : decode cX17_weigh 166 = .ok (.iastore, 1) := by decide +kernel
theorem dr_cX17_weigh_131 : decode cX17_weigh 131 = .ok (.aload_n 0, 1) := by decide +kernel
theorem dr_cX17_weigh_132 : decode cX17_weigh 132 = .ok (.getfield 174, 3) := by decide +kernel
theorem dr_cX17_weigh_135 : decode cX17_weigh 135 = .ok (.aload 6, 2) := by decide +kernel
theorem dr_cX17_weigh_137 : decode cX17_weigh 137 = .ok (.getfield 52, 3) := by decide +kernel
theorem dr_cX17_weigh_140 : decode cX17_weigh 140 = .ok (.dup2, 1) := by decide +kernel
theorem dr_cX17_weigh_141 : decode cX17_weigh 141 = .ok (.iaload, 1) := by decide +kernel
theorem dr_cX17_weigh_142 : decode cX17_weigh 142 = .ok (.iload_n 3, 1) := by decide +kernel
theorem dr_cX17_weigh_143 : decode cX17_weigh 143 = .ok (.iadd, 1) := by decide +kernel
theorem dr_cX17_weigh_144 : decode cX17_weigh 144 = .ok (.iastore, 1) := by decide +kernel
theorem dr_cX17_weigh_100 : decode cX17_weigh 100 = .ok (.aload 4, 2) := by decide +kernel
theorem dr_cX17_weigh_102 : decode cX17_weigh 102 = .ok (.getfield 117, 3) := by decide +kernel
theorem dr_cX17_weigh_105 : decode cX17_weigh 105 = .ok (.iload 5, 2) := by decide +kernel
theorem dr_cX17_weigh_107 : decode cX17_weigh 107 = .ok (.invokevirtual 124, 3) := by decide +kernel
theorem dr_cX17_weigh_110 : decode cX17_weigh 110 = .ok (.checkcast 40, 3) := by decide +kernel
theorem dr_cX17_weigh_113 : decode cX17_weigh 113 = .ok (.goto 8, 3) := by decide +kernel
theorem dr_cX17_weigh_53 : decode cX17_weigh 53 = .ok (.iload_n 3, 1) := by decide +kernel
theorem dr_cX17_weigh_54 : decode cX17_weigh 54 = .ok (.bipush 10, 2) := by decide +kernel
theorem dr_cX17_weigh_56 : decode cX17_weigh 56 = .ok (.imul, 1) := by decide +kernel
theorem dr_cX17_weigh_57 : decode cX17_weigh 57 = .ok (.istore_n 3, 1) := by decide +kernel
theorem dr_cX17_weigh_58 : decode cX17_weigh 58 = .ok (.iinc 4 1, 3) := by decide +kernel
theorem dr_cX17_weigh_61 : decode cX17_weigh 61 = .ok (.goto (-19), 3) := by decide +kernel
theorem dr_cX17_weigh_14 : decode cX17_weigh 14 = .ok (.aload_n 0, 1) := by decide +kernel
theorem dr_cX17_weigh_15 : decode cX17_weigh 15 = .ok (.getfield 174, 3) := by decide +kernel
theorem dr_cX17_weigh_18 : decode cX17_weigh 18 = .ok (.iload_n 2, 1) := by decide +kernel
theorem dr_cX17_weigh_19 : decode cX17_weigh 19 = .ok (.iconst 0, 1) := by decide +kernel
theorem dr_cX17_weigh_20 : decode cX17_weigh 20 = .ok (.iastore, 1) := by decide +kernel
theorem dr_cX17_weigh_21 : decode cX17_weigh 21 = .ok (.iinc 2 1, 3) := by decide +kernel
theorem dr_cX17_weigh_24 : decode cX17_weigh 24 = .ok (.goto (-17), 3) := by decide +kernel
abbrev ky_397402_SpillForgeModel_weigh : gKey := (cX17_weigh, 7, "SpillForgeModel", none, [], "weigh", fun _ _ => True)
def pt_397402_SpillForgeModel_weigh (D : va_G) (I : FieldType → ClassId) (γ el : Nat → Nat → Nat) (P397397 : List Nat) (F397398 : Nat → va_E) (q397399 : Nat) (q397400 : Nat) : Option Value → va_W → Nat → Nat → Prop := fun r w dc ds => ∃ (F561363 : Nat → va_E), r = none ∧ w = va_pl P397397 F561363 ∧ RS D I P397397 F561363 γ el ∧ rStr γ [] F397398 F561363 ∧ dc ≤ 0 ∧ ds ≤ 0 ∧ (F561363 q397399 = F397398 q397399) ∧ (F561363 (γ 9 3) = F397398 (γ 9 3))
set_option maxRecDepth 100000 in
set_option maxHeartbeats 4000000 in
theorem ct_397402_SpillForgeModel_weigh (l : Launch) (hl0 : l.stackTraces = false) (D : va_G) (I : FieldType → ClassId) (γ el : Nat → Nat → Nat) (P397397 : List Nat) (F397398 : Nat → va_E) (q397399 : Nat) (q397400 : Nat) (hT : RS D I P397397 F397398 γ el) (htq397399 : rKd γ q397399 10) (htq397400 : rKd γ q397400 9) (x397401 : 0 < γ 6 (γ 1 q397400)) : CtA (gV D I) l yX17_weigh cX17_weigh 7 none 6 144 0 0 [.ref q397399, .ref q397400] (va_pl P397397 F397398) (pt_397402_SpillForgeModel_weigh D I γ el P397397 F397398 q397399 q397400) gNA := by
  refine CtA_of hl0 (by decide) (Nat.le_of_ble_eq_true rfl) ?_
  have hm397403 : q397399 ∈ P397397 := RS_m hT htq397399 (by decide)
  refine rk10_e (show rk_10 γ (F397398 q397399) from RS_o hT htq397399) (fun q397405 q397406 p397407 p397408 p397409 p397410 p397411 p397412 p397413 p397414 p397415 p397416 p397417 p397418 p397419 p397420 p397421 he397404 hB397448 ht397422 ht397423 ht397424 ht397425 ht397426 ht397427 ht397428 ht397429 ht397430 ht397431 ht397432 ht397433 ht397434 ht397435 ht397436 ht397437 ht397438 ht397439 ht397440 ht397441 ht397442 ht397443 ht397444 ht397445 hB397449 => ?_)
  refine G_aload_n 0 dr_cX17_weigh_0 rfl ?_
  refine G_aload_n 1 dr_cX17_weigh_1 rfl ?_
  refine Gw_callV (As := [.ref q397400]) (gV_ok D I) (ct_397455_SpillForgeModel_findDepth l hl0 D I γ el P397397 F397398 q397399 q397400 hT htq397399 htq397400 (by omega)) dr_cX17_weigh_2 ⟨wr_11_37, wr_1_14, wr_11_40, by decide, rfl, (Nat.le_of_ble_eq_true rfl), (Nat.le_of_ble_eq_true rfl)⟩ wr_11_39 wr_p_105 hm397403 he397404 rfl (show 0 + 0 ≤ 0 by first | omega | decide) (show 0 + 0 ≤ 0 by first | omega | decide) (Nat.le_of_ble_eq_true rfl) (fun r518331 w518332 dc518328 ds518329 hp518330 => ?_) (fun _ _ _ _ _ z => z.elim)
  obtain ⟨F518335, rfl, rfl, hT518336, hs518337, hdc, hds, x518333, x518334⟩ := hp518330
  have hs518338 : rStr γ [] F397398 F518335 := rStr_tr (rStr_rf (γ := γ) (W := []) (F := F397398)) hs518337
  have kp518339 : F518335 q397399 = F397398 q397399 := x518333
  have kp518340 : F518335 (γ 9 3) = F397398 (γ 9 3) := x518334
  have he518341 : F518335 q397399 = .inr (22, [.ref (γ 9 0), .ref (γ 9 1), .ref (γ 9 2), .ref (γ 9 3), .ref (γ 9 4), .ref (γ 9 5), .ref (γ 9 6), .ref (γ 9 7), .ref (γ 9 8), .int p397407, .int p397408, .int p397409, .int p397410, .int p397411, .int p397412, .ref (γ 9 15), .ref (γ 9 16), .ref (γ 9 17), .ref (γ 9 18), .ref (γ 9 19), .ref (γ 9 20), .ref (γ 9 21), .ref (γ 9 22), .int p397413, .int p397414, .int p397415, .int p397416, .int p397417, .ref q397405, .ref (γ 9 29), .int p397418, .ref (γ 9 31), .int p397419, .int p397420, .int p397421, .ref q397406]) := (x518333).trans he397404
  change G _ _ _ _ _ _ _ _ _ _ _
  refine G_widen (cs' := 0) (sl' := 0) (by omega) (by omega) ?_
  refine G_iconst 0 dr_cX17_weigh_5 (by decide +kernel) ?_
  refine G_istore_n (L' := [(2, .int 0), (0, .ref q397399), (1, .ref q397400)]) dr_cX17_weigh_6 (Nat.le_of_ble_eq_true rfl) rfl ?_
  have hlp7_556875 : ∀ (n7_556875 : Nat) (F556871 : Nat → va_E) (g556870 : Int32), gB g556870 0 2000 → RS D I P397397 F556871 γ el → rStr γ [] F397398 F556871 → (F556871 q397399 = F397398 q397399) → (F556871 (γ 9 3) = F397398 (γ 9 3)) → ((2001 : Int) - g556870.toInt).toNat < n7_556875 → G (gV D I) l (gRm 6 144 0 0) (gMA (gV D I) (pt_397402_SpillForgeModel_weigh D I γ el P397397 F397398 q397399 q397400) gNA 0 0) ky_397402_SpillForgeModel_weigh 7 [(2, .int g556870), (0, .ref q397399), (1, .ref q397400)] [] (va_pl P397397 F556871) 0 0 := by
    intro n7_556875
    induction n7_556875 with
    | zero => intro F556871 g556870 bg556870 hT556872 hs556873 x556874 x556875 hm7_556875; exact absurd hm7_556875 (Nat.not_lt_zero _)
    | succ n7_556875 ih7_556875 =>
      intro F556871 g556870 bg556870 hT556872 hs556873 x556874 x556875 hm7_556875
      have hs556877 : rStr γ [] F518335 F556871 := fun b h0 hb hw => (hs556873 b h0 hb hw).trans (hs518338 b h0 hb hw).symm
      have hs556878 : rStr γ [] F397398 F556871 := rStr_tr hs518338 hs556877
      have he556879 : F556871 q397399 = .inr (22, [.ref (γ 9 0), .ref (γ 9 1), .ref (γ 9 2), .ref (γ 9 3), .ref (γ 9 4), .ref (γ 9 5), .ref (γ 9 6), .ref (γ 9 7), .ref (γ 9 8), .int p397407, .int p397408, .int p397409, .int p397410, .int p397411, .int p397412, .ref (γ 9 15), .ref (γ 9 16), .ref (γ 9 17), .ref (γ 9 18), .ref (γ 9 19), .ref (γ 9 20), .ref (γ 9 21), .ref (γ 9 22), .int p397413, .int p397414, .int p397415, .int p397416, .int p397417, .ref q397405, .ref (γ 9 29), .int p397418, .ref (γ 9 31), .int p397419, .int p397420, .int p397421, .ref q397406]) := x556874.trans he397404
      have hm556880 : q397399 ∈ P397397 := RS_m hT556872 htq397399 (by decide)
      refine G_iload_n 0 dr_cX17_weigh_7 rfl ?_
      refine G_sipush 2000 dr_cX17_weigh_8 (by decide +kernel) ?_
      refine G_icmp_ge 27 dr_cX17_weigh_11 (by decide +kernel) (fun hc556881 => ?_) (fun hc556881 => ?_)
      · have r556882 : 2000 ≤ g556870.toInt := gj_leL hc556881 (show Int32.toInt 2000 = 2000 by decide)
        have bg556870' : gB g556870 2000 2000 := ⟨by omega, by omega⟩
        refine G_iconst 0 dr_cX17_weigh_27 (by decide +kernel) ?_
        refine G_istore_n (L' := [(2, .int 0), (0, .ref q397399), (1, .ref q397400)]) dr_cX17_weigh_28 (Nat.le_of_ble_eq_true rfl) rfl ?_
        have hlp29_559119 : ∀ (n29_559119 : Nat) (F559115 : Nat → va_E) (g559114 : Int32), gB g559114 0 1000000 → RS D I P397397 F559115 γ el → rStr γ [] F397398 F559115 → (F559115 q397399 = F397398 q397399) → (F559115 (γ 9 3) = F397398 (γ 9 3)) → ((1000001 : Int) - g559114.toInt).toNat < n29_559119 → G (gV D I) l (gRm 6 144 0 0) (gMA (gV D I) (pt_397402_SpillForgeModel_weigh D I γ el P397397 F397398 q397399 q397400) gNA 0 0) ky_397402_SpillForgeModel_weigh 29 [(2, .int g559114), (0, .ref q397399), (1, .ref q397400)] [] (va_pl P397397 F559115) 0 0 := by
          intro n29_559119
          induction n29_559119 with
          | zero => intro F559115 g559114 bg559114 hT559116 hs559117 x559118 x559119 hm29_559119; exact absurd hm29_559119 (Nat.not_lt_zero _)
          | succ n29_559119 ih29_559119 =>
            intro F559115 g559114 bg559114 hT559116 hs559117 x559118 x559119 hm29_559119
            have hs559121 : rStr γ [] F556871 F559115 := fun b h0 hb hw => (hs559117 b h0 hb hw).trans (hs556873 b h0 hb hw).symm
            have hs559122 : rStr γ [] F397398 F559115 := rStr_tr hs556873 hs559121
            have he559123 : F559115 q397399 = .inr (22, [.ref (γ 9 0), .ref (γ 9 1), .ref (γ 9 2), .ref (γ 9 3), .ref (γ 9 4), .ref (γ 9 5), .ref (γ 9 6), .ref (γ 9 7), .ref (γ 9 8), .int p397407, .int p397408, .int p397409, .int p397410, .int p397411, .int p397412, .ref (γ 9 15), .ref (γ 9 16), .ref (γ 9 17), .ref (γ 9 18), .ref (γ 9 19), .ref (γ 9 20), .ref (γ 9 21), .ref (γ 9 22), .int p397413, .int p397414, .int p397415, .int p397416, .int p397417, .ref q397405, .ref (γ 9 29), .int p397418, .ref (γ 9 31), .int p397419, .int p397420, .int p397421, .ref q397406]) := x559118.trans he397404
            have hm559124 : q397399 ∈ P397397 := RS_m hT559116 htq397399 (by decide)
            refine G_iload_n 0 dr_cX17_weigh_29 rfl ?_
            refine G_aload_n 2 dr_cX17_weigh_30 rfl ?_
            have hm559125 : q397400 ∈ P397397 := RS_m hT559116 htq397400 (by decide)
            obtain ⟨q559127, q559128, p559129, p559130, he559126, ht559146, ht559131, ht559132, ht559133, ht559134, r559135, r559136, r559137, r559138, r559139, r559140, r559141, r559142, r559143, r559144, r559145⟩ := show rk_9 γ el q397400 (F559115 q397400) from RS_o hT559116 htq397400
            have bp559129 : gB p559129 0 1000000 := ⟨by omega, by omega⟩
            have bp559130 : gB p559130 0 1000000 := ⟨by omega, by omega⟩
            refine Gw_callV (As := []) (gV_ok D I) (cp_12451_Code_size l hl0 D I P397397 F559115 q397400 q559127 q559128 p559129 p559130 hm559125 he559126) dr_cX17_weigh_31 ⟨wr_10_160, wr_1_15, wr_9_131, by decide, rfl, (Nat.le_of_ble_eq_true rfl), (Nat.le_of_ble_eq_true rfl)⟩ wr_9_129 wr_9_130 hm559125 he559126 rfl (show 0 + 0 ≤ 0 by first | omega | decide) (show 0 + 0 ≤ 0 by first | omega | decide) (Nat.le_of_ble_eq_true rfl) (fun r559150 w559151 dc559147 ds559148 hp559149 => ?_) (fun _ _ _ _ _ z => z.elim)
            obtain ⟨rfl, rfl, hdc, hds⟩ := hp559149
            change G _ _ _ _ _ _ _ (.int p559130 :: _) _ _ _
            refine G_widen (cs' := 0) (sl' := 0) (by omega) (by omega) ?_
            refine G_icmp_ge 201 dr_cX17_weigh_34 (by decide +kernel) (fun hc559152 => ?_) (fun hc559152 => ?_)
            · have r559153 : p559130.toInt ≤ g559114.toInt := gC_le hc559152
              exact G_vretA dr_cX17_weigh_201 rfl (Nat.le_of_ble_eq_true rfl) (Nat.le_of_ble_eq_true rfl) ⟨F559115, rfl, rfl, hT559116, hs559117, (Nat.le_of_ble_eq_true rfl), (Nat.le_of_ble_eq_true rfl), x559118, x559119⟩
            · have r559154 : g559114.toInt < p559130.toInt := gC_nle hc559152
              have bg559114' : gB g559114 0 999999 := ⟨by omega, by omega⟩
              have bp559130' : gB p559130 1 1000000 := ⟨by omega, by omega⟩
              refine G_iconst 1 dr_cX17_weigh_37 (by decide +kernel) ?_
              refine G_istore_n (L' := [(3, .int 1), (2, .int g559114), (0, .ref q397399), (1, .ref q397400)]) dr_cX17_weigh_38 (Nat.le_of_ble_eq_true rfl) rfl ?_
              refine G_iconst 0 dr_cX17_weigh_39 (by decide +kernel) ?_
              refine G_istore (L' := [(4, .int 0), (3, .int 1), (2, .int g559114), (0, .ref q397399), (1, .ref q397400)]) dr_cX17_weigh_40 (Nat.le_of_ble_eq_true rfl) rfl ?_
              have hlp42_560252 : ∀ (n42_560252 : Nat) (g560251 : Int32) (g560252 : Int32), gB g560251 0 2147483647 → ((2147483648 : Int) - g560251.toInt).toNat < n42_560252 → G (gV D I) l (gRm 6 144 0 0) (gMA (gV D I) (pt_397402_SpillForgeModel_weigh D I γ el P397397 F397398 q397399 q397400) gNA 0 0) ky_397402_SpillForgeModel_weigh 42 [(4, .int g560251), (3, .int g560252), (2, .int g559114), (0, .ref q397399), (1, .ref q397400)] [] (va_pl P397397 F559115) 0 0 := by
                intro n42_560252
                induction n42_560252 with
                | zero => intro g560251 g560252 bg560251 hm42_560252; exact absurd hm42_560252 (Nat.not_lt_zero _)
                | succ n42_560252 ih42_560252 =>
                  intro g560251 g560252 bg560251 hm42_560252
                  have bg560252 := gB_any g560252
                  refine G_iload 0 dr_cX17_weigh_42 rfl ?_
                  refine G_aload_n 3 dr_cX17_weigh_44 rfl ?_
                  refine Gp_get 4 hm559124 he559123 dr_cX17_weigh_45 (gk_X17 D I) (Nat.le_of_ble_eq_true rfl) wr_7_78 rfl ?_
                  refine G_iload_n 2 dr_cX17_weigh_48 rfl ?_
                  have hm560254 : (γ 9 4) ∈ P397397 := RS_m hT559116 ht397428 (by decide)
                  obtain ⟨f560256, he560255⟩ := show rk_16 I (F559115 (γ 9 4)) from RS_o hT559116 ht397428
                  refine Gp_iald 0 hm560254 he560255 dr_cX17_weigh_49 rfl (gB_inr (by omega) (by omega)) (G_nam fun z560257 hz560257 => ?_)
                  have bz560257 : gB z560257 (-2147483648) 2147483647 := gB_any z560257
                  refine G_icmp_ge 64 dr_cX17_weigh_50 (by decide +kernel) (fun hc560258 => ?_) (fun hc560258 => ?_)
                  · have r560259 : z560257.toInt ≤ g560251.toInt := gC_le hc560258
                    refine G_aload_n 4 dr_cX17_weigh_64 rfl ?_
                    refine G_iload_n 2 dr_cX17_weigh_65 rfl ?_
                    have hm560260 : q559127 ∈ P397397 := RS_m hT559116 ht559131 (by decide)
                    obtain ⟨⟨p560262, p560263, q560264, he560261, r560265, r560266, r560267, r560269⟩, r560268⟩ := show rk_4 D I γ el F559115 q559127 from RS_o hT559116 ht559131
                    have bp560262 := gB_any p560262
                    have bp560263 : gB p560263 0 1000000 := ⟨by omega, by omega⟩
                    obtain ⟨r560270, r560271, n560278, f560279, r560272, r560273, r560274, r560275, r560276, r560277⟩ := rLC_n r560267 (by omega)
                    have hm560280 : q560264 ∈ P397397 := RS_m hT559116 r560270 (by decide)
                    obtain ⟨q560281, hx560282⟩ : ∃ x, x = el q559127 g559114.toInt.toNat := ⟨_, rfl⟩
                    have hx560283 : f560279 g559114.toNatClampNeg = some q560281 := (r560276 _ (show g559114.toInt.toNat < γ 2 q559127 by omega)).trans (by rw [hx560282])
                    have ht560286 : rKd γ q560281 2 := by rw [hx560282]; exact (r559142 _ (by omega)).resolve_right (fun z => absurd z.1 (by omega))
                    have ht560287 : rFm γ q560281 q559127 := by rw [hx560282]; exact (r560268 _ (show g559114.toInt.toNat < γ 2 q559127 by omega)).2.1
                    have hm560288 : q560281 ∈ P397397 := RS_m hT559116 ht560286 (by decide)
                    obtain ⟨q560290, q560291, p560292, p560293, he560289, ht560300, ht560294, ht560295, ht560296, ht560297, ht560298, bp560292, bp560293, r560299, r560301, r560302⟩ := show rk_2 γ q560281 (F559115 q560281) from RS_o hT559116 ht560286
                    refine Gw_callV (As := [.int g559114]) (gV_ok D I) (cp_7723_Code_get l hl0 D I P397397 F559115 q397400 q559127 q560264 g559114 q559128 p559129 p559130 p560262 p560263 f560279 n560278 q560281 q560290 q560291 p560292 p560293 hm559125 hm560260 hm560280 hm560288 he559126 he560261 r560272 he560289 (gB_w bg559114' (by decide) (by decide)) (gB_w bp560263 (by decide) (by decide)) (by omega) (by omega) (by assumption) (by omega)) dr_cX17_weigh_66 ⟨wr_10_161, wr_1_15, wr_10_141, by decide, rfl, (Nat.le_of_ble_eq_true rfl), (Nat.le_of_ble_eq_true rfl)⟩ wr_10_139 wr_10_140 hm559125 he559126 rfl (show 0 + 0 ≤ 0 by first | omega | decide) (show 0 + 0 ≤ 0 by first | omega | decide) (Nat.le_of_ble_eq_true rfl) (fun r560306 w560307 dc560303 ds560304 hp560305 => ?_) (fun _ _ _ _ _ z => z.elim)
                    obtain ⟨rfl, rfl, hdc, hds⟩ := hp560305
                    change G _ _ _ _ _ _ _ (.ref q560281 :: _) _ _ _
                    refine G_widen (cs' := 0) (sl' := 0) (by omega) (by omega) ?_
                    refine G_astore (L' := [(4, .ref q560281), (3, .int g560252), (2, .int g559114), (0, .ref q397399), (1, .ref q397400)]) dr_cX17_weigh_69 (Nat.le_of_ble_eq_true rfl) rfl ?_
                    refine G_iconst 0 dr_cX17_weigh_71 (by decide +kernel) ?_
                    refine G_istore (L' := [(5, .int 0), (4, .ref q560281), (3, .int g560252), (2, .int g559114), (0, .ref q397399), (1, .ref q397400)]) dr_cX17_weigh_72 (Nat.le_of_ble_eq_true rfl) rfl ?_
                    have hlp74_560830 : ∀ (n74_560830 : Nat) (F560826 : Nat → va_E) (g560825 : Int32), gB g560825 0 1000001 → RS D I P397397 F560826 γ el → rStr γ [] F397398 F560826 → (F560826 q397399 = F397398 q397399) → (F560826 (γ 9 3) = F397398 (γ 9 3)) → ((1000002 : Int) - g560825.toInt).toNat < n74_560830 → G (gV D I) l (gRm 6 144 0 0) (gMA (gV D I) (pt_397402_SpillForgeModel_weigh D I γ el P397397 F397398 q397399 q397400) gNA 0 0) ky_397402_SpillForgeModel_weigh 74 [(5, .int g560825), (4, .ref q560281), (3, .int g560252), (2, .int g559114), (0, .ref q397399), (1, .ref q397400)] [] (va_pl P397397 F560826) 0 0 := by
                      intro n74_560830
                      induction n74_560830 with
                      | zero => intro F560826 g560825 bg560825 hT560827 hs560828 x560829 x560830 hm74_560830; exact absurd hm74_560830 (Nat.not_lt_zero _)
                      | succ n74_560830 ih74_560830 =>
                        intro F560826 g560825 bg560825 hT560827 hs560828 x560829 x560830 hm74_560830
                        have hs560832 : rStr γ [] F559115 F560826 := fun b h0 hb hw => (hs560828 b h0 hb hw).trans (hs559117 b h0 hb hw).symm
                        have he560833 : F560826 q397400 = .inr (18, [.ref q559127, .ref q559128, .int p559129, .int p559130]) := (hs560832 q397400 (rT0 htq397400 (by decide)) (rT1 htq397400 (by decide)) (rT2 htq397400 (by decide))).trans he559126
                        have he560834 : F560826 q559127 = .inr (4, [.int p560262, .ref q560264, .int p560263]) := (hs560832 q559127 (rT0 ht559131 (by decide)) (rT1 ht559131 (by decide)) (rT2 ht559131 (by decide))).trans he560261
                        have he560835 : F560826 q560264 = .inl (I (.object "java/lang/Object"), n560278, .inr (.inr (.inr (.inr f560279)))) := (hs560832 q560264 (rT0 r560270 (by decide)) (rT1 r560270 (by decide)) (rT2 r560270 (by decide))).trans r560272
                        have he560836 : F560826 q560281 = .inr (17, [.ref q560290, .ref q560291, .int p560292, .int p560293]) := (hs560832 q560281 (rT0 ht560286 (by decide)) (rT1 ht560286 (by decide)) (rT2 ht560286 (by decide))).trans he560289
                        have hs560837 : rStr γ [] F397398 F560826 := rStr_tr hs559117 hs560832
                        have he560838 : F560826 q397399 = .inr (22, [.ref (γ 9 0), .ref (γ 9 1), .ref (γ 9 2), .ref (γ 9 3), .ref (γ 9 4), .ref (γ 9 5), .ref (γ 9 6), .ref (γ 9 7), .ref (γ 9 8), .int p397407, .int p397408, .int p397409, .int p397410, .int p397411, .int p397412, .ref (γ 9 15), .ref (γ 9 16), .ref (γ 9 17), .ref (γ 9 18), .ref (γ 9 19), .ref (γ 9 20), .ref (γ 9 21), .ref (γ 9 22), .int p397413, .int p397414, .int p397415, .int p397416, .int p397417, .ref q397405, .ref (γ 9 29), .int p397418, .ref (γ 9 31), .int p397419, .int p397420, .int p397421, .ref q397406]) := x560829.trans he397404
                        have hm560839 : q397399 ∈ P397397 := RS_m hT560827 htq397399 (by decide)
                        refine G_iload 0 dr_cX17_weigh_74 rfl ?_
                        refine G_aload 1 dr_cX17_weigh_76 rfl ?_
                        refine Gp_get 0 hm560288 he560836 dr_cX17_weigh_78 (gk_X12 D I) (Nat.le_of_ble_eq_true rfl) wr_9_220 rfl ?_
                        have hm560840 : q560290 ∈ P397397 := RS_m hT560827 ht560294 (by decide)
                        obtain ⟨⟨p560842, p560843, q560844, he560841, r560845, r560846, r560847, r560849⟩, r560848⟩ := show rk_3 D I γ el F560826 q560290 from RS_o hT560827 ht560294
                        have bp560842 := gB_any p560842
                        have bp560843 : gB p560843 0 1000000 := ⟨by omega, by omega⟩
                        refine Gw_callV (As := []) (gV_ok D I) (cp_7_ArrayList_size l hl0 D I P397397 F560826 q560290 p560842 q560844 p560843 hm560840 he560841 (gB_w bp560843 (by decide) (by decide))) dr_cX17_weigh_81 ⟨wr_10_200, wr_1_18, wr_9_160, by decide, rfl, (Nat.le_of_ble_eq_true rfl), (Nat.le_of_ble_eq_true rfl)⟩ wr_9_158 wr_9_159 hm560840 he560841 rfl (show 0 + 0 ≤ 0 by first | omega | decide) (show 0 + 0 ≤ 0 by first | omega | decide) (Nat.le_of_ble_eq_true rfl) (fun r560853 w560854 dc560850 ds560851 hp560852 => ?_) (fun _ _ _ _ _ z => z.elim)
                        obtain ⟨rfl, rfl, hdc, hds⟩ := hp560852
                        change G _ _ _ _ _ _ _ (.int p560843 :: _) _ _ _
                        refine G_widen (cs' := 0) (sl' := 0) (by omega) (by omega) ?_
                        refine G_icmp_gt 195 dr_cX17_weigh_84 (by decide +kernel) (fun hc560855 => ?_) (fun hc560855 => ?_)
                        · have r560856 : p560843.toInt < g560825.toInt := gC_lt hc560855
                          have bg560825' : gB g560825 1 1000001 := ⟨by omega, by omega⟩
                          obtain ⟨z560857, hz560857⟩ : ∃ z : Int32, z = g559114 + Int32.ofInt 1 := ⟨_, rfl⟩
                          have ez560857 : z560857.toInt = g559114.toInt + 1 := gI_inc hz560857 (by decide) bg559114' (by decide) (by decide)
                          have bz560857 : gB z560857 1 1000000 := ⟨by omega, by omega⟩
                          refine G_iinc (L' := [(2, .int z560857), (5, .int g560825), (4, .ref q560281), (3, .int g560252), (0, .ref q397399), (1, .ref q397400)]) z560857 3 dr_cX17_weigh_195 rfl hz560857.symm (Nat.le_of_ble_eq_true rfl) rfl ?_
                          refine G_goto 29 dr_cX17_weigh_198 (by decide +kernel) ?_
                          refine G_lv (L' := [(2, .int z560857), (0, .ref q397399), (1, .ref q397400)]) [0, 4, 5] rfl ?_
                          exact ih29_559119 F560826 z560857 (gB_w bz560857 (by decide) (by decide)) hT560827 hs560828 x560829 x560830 (mz_up ez560857 (Int.le_trans bg559114'.2 (by decide)) hm29_559119)
                        · have r560858 : g560825.toInt ≤ p560843.toInt := gC_nlt hc560855
                          have bg560825' : gB g560825 0 1000000 := ⟨by omega, by omega⟩
                          refine G_iload 0 dr_cX17_weigh_87 rfl ?_
                          refine G_aload 1 dr_cX17_weigh_89 rfl ?_
                          refine Gp_get 0 hm560288 he560836 dr_cX17_weigh_91 (gk_X12 D I) (Nat.le_of_ble_eq_true rfl) wr_9_220 rfl ?_
                          refine Gw_callV (As := []) (gV_ok D I) (cp_7_ArrayList_size l hl0 D I P397397 F560826 q560290 p560842 q560844 p560843 hm560840 he560841 (gB_w bp560843 (by decide) (by decide))) dr_cX17_weigh_94 ⟨wr_10_200, wr_1_18, wr_9_160, by decide, rfl, (Nat.le_of_ble_eq_true rfl), (Nat.le_of_ble_eq_true rfl)⟩ wr_9_158 wr_9_159 hm560840 he560841 rfl (show 0 + 0 ≤ 0 by first | omega | decide) (show 0 + 0 ≤ 0 by first | omega | decide) (Nat.le_of_ble_eq_true rfl) (fun r560862 w560863 dc560859 ds560860 hp560861 => ?_) (fun _ _ _ _ _ z => z.elim)
                          obtain ⟨rfl, rfl, hdc, hds⟩ := hp560861
                          change G _ _ _ _ _ _ _ (.int p560843 :: _) _ _ _
                          refine G_widen (cs' := 0) (sl' := 0) (by omega) (by omega) ?_
                          refine G_icmp_ge 116 dr_cX17_weigh_97 (by decide +kernel) (fun hc560864 => ?_) (fun hc560864 => ?_)
                          · have r560865 : p560843.toInt ≤ g560825.toInt := gC_le hc560864
                            refine G_aload 1 dr_cX17_weigh_116 rfl ?_
                            refine Gp_get 1 hm560288 he560836 dr_cX17_weigh_118 (gk_X12 D I) (Nat.le_of_ble_eq_true rfl) wr_9_223 rfl ?_
                            refine G_astore (L' := [(6, .ref q560291), (5, .int g560825), (4, .ref q560281), (3, .int g560252), (2, .int g559114), (0, .ref q397399), (1, .ref q397400)]) dr_cX17_weigh_121 (Nat.le_of_ble_eq_true rfl) rfl ?_
                            refine G_aload 0 dr_cX17_weigh_123 rfl ?_
                            have hm560866 : q560291 ∈ P397397 := RS_m hT560827 ht560296 (by decide)
                            obtain ⟨p560868, p560869, p560870, p560871, p560872, p560873, p560874, he560867, bp560868, bp560869, bp560872, bp560873, bp560874, r560875, r560876, r560877, r560878⟩ := show rk_1 γ q560291 (F560826 q560291) from RS_o hT560827 ht560296
                            have bp560870 := gB_any p560870
                            have bp560871 := gB_any p560871
                            refine Gw_callV (As := []) (gV_ok D I) (cp_1654_Row_sets l hl0 D I P397397 F560826 q560291 p560868 p560869 p560870 p560871 p560872 p560873 p560874 hm560866 he560867 bp560868 bp560869 bp560872 bp560873 bp560874) dr_cX17_weigh_125 ⟨wr_10_181, wr_1_39, wr_10_184, by decide, rfl, (Nat.le_of_ble_eq_true rfl), (Nat.le_of_ble_eq_true rfl)⟩ wr_10_182 wr_10_183 hm560866 he560867 rfl (show 0 + 0 ≤ 0 by first | omega | decide) (show 0 + 0 ≤ 0 by first | omega | decide) (Nat.le_of_ble_eq_true rfl) (fun r560882 w560883 dc560879 ds560880 hp560881 => ?_) (fun _ _ _ _ _ z => z.elim)
                            obtain ⟨o560884, rfl, rfl, hdc, hds, bo560884⟩ := hp560881
                            change G _ _ _ _ _ _ _ (.int o560884 :: _) _ _ _
                            refine G_widen (cs' := 0) (sl' := 0) (by omega) (by omega) ?_
                            refine G_if_eq 145 dr_cX17_weigh_128 (by decide +kernel) (fun hc560885 => ?_) (fun hc560885 => ?_)
                            · have r560886 : o560884.toInt = 0 := gj_eq hc560885 (show Int32.toInt 0 = 0 by decide)
                              have bo560884' : gB o560884 0 0 := gB_t0 r560886
                              refine G_aload 0 dr_cX17_weigh_145 rfl ?_
                              refine Gw_callV (As := []) (gV_ok D I) (cp_1669_Row_usesA l hl0 D I P397397 F560826 q560291 p560868 p560869 p560870 p560871 p560872 p560873 p560874 hm560866 he560867 bp560868 bp560869 bp560872 bp560873 bp560874) dr_cX17_weigh_147 ⟨wr_10_192, wr_1_39, wr_10_195, by decide, rfl, (Nat.le_of_ble_eq_true rfl), (Nat.le_of_ble_eq_true rfl)⟩ wr_10_193 wr_10_194 hm560866 he560867 rfl (show 0 + 0 ≤ 0 by first | omega | decide) (show 0 + 0 ≤ 0 by first | omega | decide) (Nat.le_of_ble_eq_true rfl) (fun r560890 w560891 dc560887 ds560888 hp560889 => ?_) (fun _ _ _ _ _ z => z.elim)
                              obtain ⟨o560892, rfl, rfl, hdc, hds, bo560892, x560893⟩ := hp560889
                              change G _ _ _ _ _ _ _ (.int o560892 :: _) _ _ _
                              refine G_widen (cs' := 0) (sl' := 0) (by omega) (by omega) ?_
                              refine G_if_eq 167 dr_cX17_weigh_150 (by decide +kernel) (fun hc560894 => ?_) (fun hc560894 => ?_)
                              · have r560895 : o560892.toInt = 0 := gj_eq hc560894 (show Int32.toInt 0 = 0 by decide)
                                have bo560892' : gB o560892 0 0 := gB_t0 r560895
                                refine G_aload 0 dr_cX17_weigh_167 rfl ?_
                                refine Gw_callV (As := []) (gV_ok D I) (cp_1693_Row_usesB l hl0 D I P397397 F560826 q560291 p560868 p560869 p560870 p560871 p560872 p560873 p560874 hm560866 he560867 bp560868 bp560869 bp560872 bp560873 bp560874) dr_cX17_weigh_169 ⟨wr_10_196, wr_1_39, wr_10_199, by decide, rfl, (Nat.le_of_ble_eq_true rfl), (Nat.le_of_ble_eq_true rfl)⟩ wr_10_197 wr_10_198 hm560866 he560867 rfl (show 0 + 0 ≤ 0 by first | omega | decide) (show 0 + 0 ≤ 0 by first | omega | decide) (Nat.le_of_ble_eq_true rfl) (fun r560899 w560900 dc560896 ds560897 hp560898 => ?_) (fun _ _ _ _ _ z => z.elim)
                                obtain ⟨o560901, rfl, rfl, hdc, hds, bo560901, x560902⟩ := hp560898
                                change G _ _ _ _ _ _ _ (.int o560901 :: _) _ _ _
                                refine G_widen (cs' := 0) (sl' := 0) (by omega) (by omega) ?_
                                refine G_if_eq 189 dr_cX17_weigh_172 (by decide +kernel) (fun hc560903 => ?_) (fun hc560903 => ?_)
                                · have r560904 : o560901.toInt = 0 := gj_eq hc560903 (show Int32.toInt 0 = 0 by decide)
                                  have bo560901' : gB o560901 0 0 := gB_t0 r560904
                                  obtain ⟨z560905, hz560905⟩ : ∃ z : Int32, z = g560825 + Int32.ofInt 1 := ⟨_, rfl⟩
                                  have ez560905 : z560905.toInt = g560825.toInt + 1 := gI_inc hz560905 (by decide) bg560825' (by decide) (by decide)
                                  have bz560905 : gB z560905 1 1000001 := ⟨by omega, by omega⟩
                                  refine G_iinc (L' := [(5, .int z560905), (6, .ref q560291), (4, .ref q560281), (3, .int g560252), (2, .int g559114), (0, .ref q397399), (1, .ref q397400)]) z560905 1 dr_cX17_weigh_189 rfl hz560905.symm (Nat.le_of_ble_eq_true rfl) rfl ?_
                                  refine G_goto 74 dr_cX17_weigh_192 (by decide +kernel) ?_
                                  refine G_lv (L' := [(5, .int z560905), (4, .ref q560281), (3, .int g560252), (2, .int g559114), (0, .ref q397399), (1, .ref q397400)]) [0, 2, 3, 4, 5, 6] rfl ?_
                                  exact ih74_560830 F560826 z560905 (gB_w bz560905 (by decide) (by decide)) hT560827 hs560828 x560829 x560830 (mz_up ez560905 (Int.le_trans bg560825'.2 (by decide)) hm74_560830)
                                · have r560906 : o560901.toInt ≠ 0 := gj_neq hc560903 (show Int32.toInt 0 = 0 by decide)
                                  have bo560901' : gB o560901 1 1 := gB_t1 bo560901 r560906
                                  refine G_aload_n 5 dr_cX17_weigh_175 rfl ?_
                                  refine Gp_get 5 hm560839 he560838 dr_cX17_weigh_176 (gk_X17 D I) (Nat.le_of_ble_eq_true rfl) wr_7_79 rfl ?_
                                  refine G_aload 0 dr_cX17_weigh_179 rfl ?_
                                  refine Gp_get 3 hm560866 he560867 dr_cX17_weigh_181 (gk_X15 D I) (Nat.le_of_ble_eq_true rfl) wr_9_190 rfl ?_
                                  refine G_dup2_11 dr_cX17_weigh_184 rfl rfl ?_
                                  have hm560907 : (γ 9 5) ∈ P397397 := RS_m hT560827 ht397429 (by decide)
                                  obtain ⟨f560909, he560908⟩ := show rk_17 I (F560826 (γ 9 5)) from RS_o hT560827 ht397429
                                  refine Gp_iald 0 hm560907 he560908 dr_cX17_weigh_185 rfl (gB_inr (by omega) (by omega)) (G_nam fun z560910 hz560910 => ?_)
                                  have bz560910 : gB z560910 (-2147483648) 2147483647 := gB_any z560910
                                  refine G_iload_n 3 dr_cX17_weigh_186 rfl ?_
                                  refine G_iadd dr_cX17_weigh_187 (G_nam fun z560911 hz560911 => ?_)
                                  have bz560911 : gB z560911 (-2147483648) 2147483647 := gB_any z560911
                                  refine Gp_iast 0 hm560907 he560908 dr_cX17_weigh_188 rfl (gB_inr (by omega) (by omega)) (fun F560912 e560913 n560914 => ?_)
                                  obtain ⟨f560915, hf560915⟩ : ∃ z, z = upd f560909 p560871.toNatClampNeg z560911 := ⟨_, rfl⟩
                                  rw [← hf560915] at e560913
                                  have he560916 : F560912 q397400 = .inr (18, [.ref q559127, .ref q559128, .int p559129, .int p559130]) := (n560914 q397400 (rn_oa he560833 he560908)).trans he560833
                                  have he560917 : F560912 q559127 = .inr (4, [.int p560262, .ref q560264, .int p560263]) := (n560914 q559127 (rn_oa he560834 he560908)).trans he560834
                                  have he560918 : F560912 q560264 = .inl (I (.object "java/lang/Object"), n560278, .inr (.inr (.inr (.inr f560279)))) := (n560914 q560264 (rn_ref_num he560835 he560908)).trans he560835
                                  have he560919 : F560912 q560281 = .inr (17, [.ref q560290, .ref q560291, .int p560292, .int p560293]) := (n560914 q560281 (rn_oa he560836 he560908)).trans he560836
                                  have he560920 : F560912 q397399 = .inr (22, [.ref (γ 9 0), .ref (γ 9 1), .ref (γ 9 2), .ref (γ 9 3), .ref (γ 9 4), .ref (γ 9 5), .ref (γ 9 6), .ref (γ 9 7), .ref (γ 9 8), .int p397407, .int p397408, .int p397409, .int p397410, .int p397411, .int p397412, .ref (γ 9 15), .ref (γ 9 16), .ref (γ 9 17), .ref (γ 9 18), .ref (γ 9 19), .ref (γ 9 20), .ref (γ 9 21), .ref (γ 9 22), .int p397413, .int p397414, .int p397415, .int p397416, .int p397417, .ref q397405, .ref (γ 9 29), .int p397418, .ref (γ 9 31), .int p397419, .int p397420, .int p397421, .ref q397406]) := (n560914 q397399 (rn_oa he560838 he560908)).trans he560838
                                  have he560921 : F560912 q560290 = .inr (4, [.int p560842, .ref q560844, .int p560843]) := (n560914 q560290 (rn_oa he560841 he560908)).trans he560841
                                  have he560922 : F560912 q560291 = .inr (20, [.int p560868, .int p560869, .int p560870, .int p560871, .int p560872, .int p560873, .int p560874]) := (n560914 q560291 (rn_oa he560867 he560908)).trans he560867
                                  have he560923 : F560912 (γ 9 5) = .inl (I .int, 2000, .inl f560915) := e560913
                                  have hs560924 : rStr γ [] F397398 F560912 := rStr_put hs560828 n560914 ht397429 (by decide)
                                  have kp560925 : F560912 q397399 = F397398 q397399 := (n560914 q397399 (rn_ty htq397399 ht397429 (by decide))).trans x560829
                                  have kp560926 : F560912 (γ 9 3) = F397398 (γ 9 3) := (n560914 (γ 9 3) (rn_ty ht397427 ht397429 (by decide))).trans x560830
                                  obtain ⟨z560927, hz560927⟩ : ∃ z : Int32, z = g560825 + Int32.ofInt 1 := ⟨_, rfl⟩
                                  have ez560927 : z560927.toInt = g560825.toInt + 1 := gI_inc hz560927 (by decide) bg560825' (by decide) (by decide)
                                  have bz560927 : gB z560927 1 1000001 := ⟨by omega, by omega⟩
                                  refine G_iinc (L' := [(5, .int z560927), (6, .ref q560291), (4, .ref q560281), (3, .int g560252), (2, .int g559114), (0, .ref q397399), (1, .ref q397400)]) z560927 1 dr_cX17_weigh_189 rfl hz560927.symm (Nat.le_of_ble_eq_true rfl) rfl ?_
                                  refine G_goto 74 dr_cX17_weigh_192 (by decide +kernel) ?_
                                  have hT560928 : RS D I P397397 F560912 γ el := RS_set hT560827 n560914 ht397429 (by decide) ⟨f560915, he560923⟩
                                  refine G_lv (L' := [(5, .int z560927), (4, .ref q560281), (3, .int g560252), (2, .int g559114), (0, .ref q397399), (1, .ref q397400)]) [0, 2, 3, 4, 5, 6] rfl ?_
                                  exact ih74_560830 F560912 z560927 (gB_w bz560927 (by decide) (by decide)) hT560928 hs560924 kp560925 kp560926 (mz_up ez560927 (Int.le_trans bg560825'.2 (by decide)) hm74_560830)
                              · have r560929 : o560892.toInt ≠ 0 := gj_neq hc560894 (show Int32.toInt 0 = 0 by decide)
                                have bo560892' : gB o560892 1 1 := gB_t1 bo560892 r560929
                                refine G_aload_n 5 dr_cX17_weigh_153 rfl ?_
                                refine Gp_get 5 hm560839 he560838 dr_cX17_weigh_154 (gk_X17 D I) (Nat.le_of_ble_eq_true rfl) wr_7_79 rfl ?_
                                refine G_aload 0 dr_cX17_weigh_157 rfl ?_
                                refine Gp_get 2 hm560866 he560867 dr_cX17_weigh_159 (gk_X15 D I) (Nat.le_of_ble_eq_true rfl) wr_9_186 rfl ?_
                                refine G_dup2_11 dr_cX17_weigh_162 rfl rfl ?_
                                have hm560930 : (γ 9 5) ∈ P397397 := RS_m hT560827 ht397429 (by decide)
                                obtain ⟨f560932, he560931⟩ := show rk_17 I (F560826 (γ 9 5)) from RS_o hT560827 ht397429
                                refine Gp_iald 0 hm560930 he560931 dr_cX17_weigh_163 rfl (gB_inr (by omega) (by omega)) (G_nam fun z560933 hz560933 => ?_)
                                have bz560933 : gB z560933 (-2147483648) 2147483647 := gB_any z560933
                                refine G_iload_n 3 dr_cX17_weigh_164 rfl ?_
                                refine G_iadd dr_cX17_weigh_165 (G_nam fun z560934 hz560934 => ?_)
                                have bz560934 : gB z560934 (-2147483648) 2147483647 := gB_any z560934
                                refine Gp_iast 0 hm560930 he560931 dr_cX17_weigh_166 rfl (gB_inr (by omega) (by omega)) (fun F560935 e560936 n560937 => ?_)
                                obtain ⟨f560938, hf560938⟩ : ∃ z, z = upd f560932 p560870.toNatClampNeg z560934 := ⟨_, rfl⟩
                                rw [← hf560938] at e560936
                                have he560939 : F560935 q397400 = .inr (18, [.ref q559127, .ref q559128, .int p559129, .int p559130]) := (n560937 q397400 (rn_oa he560833 he560931)).trans he560833
                                have he560940 : F560935 q559127 = .inr (4, [.int p560262, .ref q560264, .int p560263]) := (n560937 q559127 (rn_oa he560834 he560931)).trans he560834
                                have he560941 : F560935 q560264 = .inl (I (.object "java/lang/Object"), n560278, .inr (.inr (.inr (.inr f560279)))) := (n560937 q560264 (rn_ref_num he560835 he560931)).trans he560835
                                have he560942 : F560935 q560281 = .inr (17, [.ref q560290, .ref q560291, .int p560292, .int p560293]) := (n560937 q560281 (rn_oa he560836 he560931)).trans he560836
                                have he560943 : F560935 q397399 = .inr (22, [.ref (γ 9 0), .ref (γ 9 1), .ref (γ 9 2), .ref (γ 9 3), .ref (γ 9 4), .ref (γ 9 5), .ref (γ 9 6), .ref (γ 9 7), .ref (γ 9 8), .int p397407, .int p397408, .int p397409, .int p397410, .int p397411, .int p397412, .ref (γ 9 15), .ref (γ 9 16), .ref (γ 9 17), .ref (γ 9 18), .ref (γ 9 19), .ref (γ 9 20), .ref (γ 9 21), .ref (γ 9 22), .int p397413, .int p397414, .int p397415, .int p397416, .int p397417, .ref q397405, .ref (γ 9 29), .int p397418, .ref (γ 9 31), .int p397419, .int p397420, .int p397421, .ref q397406]) := (n560937 q397399 (rn_oa he560838 he560931)).trans he560838
                                have he560944 : F560935 q560290 = .inr (4, [.int p560842, .ref q560844, .int p560843]) := (n560937 q560290 (rn_oa he560841 he560931)).trans he560841
                                have he560945 : F560935 q560291 = .inr (20, [.int p560868, .int p560869, .int p560870, .int p560871, .int p560872, .int p560873, .int p560874]) := (n560937 q560291 (rn_oa he560867 he560931)).trans he560867
                                have he560946 : F560935 (γ 9 5) = .inl (I .int, 2000, .inl f560938) := e560936
                                have hs560947 : rStr γ [] F397398 F560935 := rStr_put hs560828 n560937 ht397429 (by decide)
                                have kp560948 : F560935 q397399 = F397398 q397399 := (n560937 q397399 (rn_ty htq397399 ht397429 (by decide))).trans x560829
                                have kp560949 : F560935 (γ 9 3) = F397398 (γ 9 3) := (n560937 (γ 9 3) (rn_ty ht397427 ht397429 (by decide))).trans x560830
                                refine G_aload 0 dr_cX17_weigh_167 rfl ?_
                                have hT560950 : RS D I P397397 F560935 γ el := RS_set hT560827 n560937 ht397429 (by decide) ⟨f560938, he560946⟩
                                refine Gw_callV (As := []) (gV_ok D I) (cp_1693_Row_usesB l hl0 D I P397397 F560935 q560291 p560868 p560869 p560870 p560871 p560872 p560873 p560874 hm560866 he560945 bp560868 bp560869 bp560872 bp560873 bp560874) dr_cX17_weigh_169 ⟨wr_10_196, wr_1_39, wr_10_199, by decide, rfl, (Nat.le_of_ble_eq_true rfl), (Nat.le_of_ble_eq_true rfl)⟩ wr_10_197 wr_10_198 hm560866 he560945 rfl (show 0 + 0 ≤ 0 by first | omega | decide) (show 0 + 0 ≤ 0 by first | omega | decide) (Nat.le_of_ble_eq_true rfl) (fun r560954 w560955 dc560951 ds560952 hp560953 => ?_) (fun _ _ _ _ _ z => z.elim)
                                obtain ⟨o560956, rfl, rfl, hdc, hds, bo560956, x560957⟩ := hp560953
                                change G _ _ _ _ _ _ _ (.int o560956 :: _) _ _ _
                                refine G_widen (cs' := 0) (sl' := 0) (by omega) (by omega) ?_
                                refine G_if_eq 189 dr_cX17_weigh_172 (by decide +kernel) (fun hc560958 => ?_) (fun hc560958 => ?_)
                                · have r560959 : o560956.toInt = 0 := gj_eq hc560958 (show Int32.toInt 0 = 0 by decide)
                                  have bo560956' : gB o560956 0 0 := gB_t0 r560959
                                  obtain ⟨z560960, hz560960⟩ : ∃ z : Int32, z = g560825 + Int32.ofInt 1 := ⟨_, rfl⟩
                                  have ez560960 : z560960.toInt = g560825.toInt + 1 := gI_inc hz560960 (by decide) bg560825' (by decide) (by decide)
                                  have bz560960 : gB z560960 1 1000001 := ⟨by omega, by omega⟩
                                  refine G_iinc (L' := [(5, .int z560960), (6, .ref q560291), (4, .ref q560281), (3, .int g560252), (2, .int g559114), (0, .ref q397399), (1, .ref q397400)]) z560960 1 dr_cX17_weigh_189 rfl hz560960.symm (Nat.le_of_ble_eq_true rfl) rfl ?_
                                  refine G_goto 74 dr_cX17_weigh_192 (by decide +kernel) ?_
                                  refine G_lv (L' := [(5, .int z560960), (4, .ref q560281), (3, .int g560252), (2, .int g559114), (0, .ref q397399), (1, .ref q397400)]) [0, 2, 3, 4, 5, 6] rfl ?_
                                  exact ih74_560830 F560935 z560960 (gB_w bz560960 (by decide) (by decide)) hT560950 hs560947 kp560948 kp560949 (mz_up ez560960 (Int.le_trans bg560825'.2 (by decide)) hm74_560830)
                                · have r560961 : o560956.toInt ≠ 0 := gj_neq hc560958 (show Int32.toInt 0 = 0 by decide)
                                  have bo560956' : gB o560956 1 1 := gB_t1 bo560956 r560961
                                  refine G_aload_n 5 dr_cX17_weigh_175 rfl ?_
                                  refine Gp_get 5 hm560839 he560943 dr_cX17_weigh_176 (gk_X17 D I) (Nat.le_of_ble_eq_true rfl) wr_7_79 rfl ?_
                                  refine G_aload 0 dr_cX17_weigh_179 rfl ?_
                                  refine Gp_get 3 hm560866 he560945 dr_cX17_weigh_181 (gk_X15 D I) (Nat.le_of_ble_eq_true rfl) wr_9_190 rfl ?_
                                  refine G_dup2_11 dr_cX17_weigh_184 rfl rfl ?_
                                  refine Gp_iald 0 hm560930 he560946 dr_cX17_weigh_185 rfl (gB_inr (by omega) (by omega)) (G_nam fun z560962 hz560962 => ?_)
                                  have bz560962 : gB z560962 (-2147483648) 2147483647 := gB_any z560962
                                  refine G_iload_n 3 dr_cX17_weigh_186 rfl ?_
                                  refine G_iadd dr_cX17_weigh_187 (G_nam fun z560963 hz560963 => ?_)
                                  have bz560963 : gB z560963 (-2147483648) 2147483647 := gB_any z560963
                                  refine Gp_iast 0 hm560930 he560946 dr_cX17_weigh_188 rfl (gB_inr (by omega) (by omega)) (fun F560964 e560965 n560966 => ?_)
                                  obtain ⟨f560967, hf560967⟩ : ∃ z, z = upd f560938 p560871.toNatClampNeg z560963 := ⟨_, rfl⟩
                                  rw [← hf560967] at e560965
                                  have he560968 : F560964 q397400 = .inr (18, [.ref q559127, .ref q559128, .int p559129, .int p559130]) := (n560966 q397400 (rn_oa he560939 he560946)).trans he560939
                                  have he560969 : F560964 q559127 = .inr (4, [.int p560262, .ref q560264, .int p560263]) := (n560966 q559127 (rn_oa he560940 he560946)).trans he560940
                                  have he560970 : F560964 q560264 = .inl (I (.object "java/lang/Object"), n560278, .inr (.inr (.inr (.inr f560279)))) := (n560966 q560264 (rn_ref_num he560941 he560946)).trans he560941
                                  have he560971 : F560964 q560281 = .inr (17, [.ref q560290, .ref q560291, .int p560292, .int p560293]) := (n560966 q560281 (rn_oa he560942 he560946)).trans he560942
                                  have he560972 : F560964 q397399 = .inr (22, [.ref (γ 9 0), .ref (γ 9 1), .ref (γ 9 2), .ref (γ 9 3), .ref (γ 9 4), .ref (γ 9 5), .ref (γ 9 6), .ref (γ 9 7), .ref (γ 9 8), .int p397407, .int p397408, .int p397409, .int p397410, .int p397411, .int p397412, .ref (γ 9 15), .ref (γ 9 16), .ref (γ 9 17), .ref (γ 9 18), .ref (γ 9 19), .ref (γ 9 20), .ref (γ 9 21), .ref (γ 9 22), .int p397413, .int p397414, .int p397415, .int p397416, .int p397417, .ref q397405, .ref (γ 9 29), .int p397418, .ref (γ 9 31), .int p397419, .int p397420, .int p397421, .ref q397406]) := (n560966 q397399 (rn_oa he560943 he560946)).trans he560943
                                  have he560973 : F560964 q560290 = .inr (4, [.int p560842, .ref q560844, .int p560843]) := (n560966 q560290 (rn_oa he560944 he560946)).trans he560944
                                  have he560974 : F560964 q560291 = .inr (20, [.int p560868, .int p560869, .int p560870, .int p560871, .int p560872, .int p560873, .int p560874]) := (n560966 q560291 (rn_oa he560945 he560946)).trans he560945
                                  have he560975 : F560964 (γ 9 5) = .inl (I .int, 2000, .inl f560967) := e560965
                                  have hs560976 : rStr γ [] F397398 F560964 := rStr_put hs560947 n560966 ht397429 (by decide)
                                  have kp560977 : F560964 q397399 = F397398 q397399 := (n560966 q397399 (rn_ty htq397399 ht397429 (by decide))).trans kp560948
                                  have kp560978 : F560964 (γ 9 3) = F397398 (γ 9 3) := (n560966 (γ 9 3) (rn_ty ht397427 ht397429 (by decide))).trans kp560949
                                  obtain ⟨z560979, hz560979⟩ : ∃ z : Int32, z = g560825 + Int32.ofInt 1 := ⟨_, rfl⟩
                                  have ez560979 : z560979.toInt = g560825.toInt + 1 := gI_inc hz560979 (by decide) bg560825' (by decide) (by decide)
                                  have bz560979 : gB z560979 1 1000001 := ⟨by omega, by omega⟩
                                  refine G_iinc (L' := [(5, .int z560979), (6, .ref q560291), (4, .ref q560281), (3, .int g560252), (2, .int g559114), (0, .ref q397399), (1, .ref q397400)]) z560979 1 dr_cX17_weigh_189 rfl hz560979.symm (Nat.le_of_ble_eq_true rfl) rfl ?_
                                  refine G_goto 74 dr_cX17_weigh_192 (by decide +kernel) ?_
                                  have hT560980 : RS D I P397397 F560964 γ el := RS_set hT560950 n560966 ht397429 (by decide) ⟨f560967, he560975⟩
                                  refine G_lv (L' := [(5, .int z560979), (4, .ref q560281), (3, .int g560252), (2, .int g559114), (0, .ref q397399), (1, .ref q397400)]) [0, 2, 3, 4, 5, 6] rfl ?_
                                  exact ih74_560830 F560964 z560979 (gB_w bz560979 (by decide) (by decide)) hT560980 hs560976 kp560977 kp560978 (mz_up ez560979 (Int.le_trans bg560825'.2 (by decide)) hm74_560830)
                            · have r560981 : o560884.toInt ≠ 0 := gj_neq hc560885 (show Int32.toInt 0 = 0 by decide)
                              have bo560884' : gB o560884 1 1 := gB_t1 bo560884 r560981
                              refine G_aload_n 5 dr_cX17_weigh_131 rfl ?_
                              refine Gp_get 5 hm560839 he560838 dr_cX17_weigh_132 (gk_X17 D I) (Nat.le_of_ble_eq_true rfl) wr_7_79 rfl ?_
                              refine G_aload 0 dr_cX17_weigh_135 rfl ?_
                              refine Gp_get 1 hm560866 he560867 dr_cX17_weigh_137 (gk_X15 D I) (Nat.le_of_ble_eq_true rfl) wr_9_182 rfl ?_
                              refine G_dup2_11 dr_cX17_weigh_140 rfl rfl ?_
                              have hm560982 : (γ 9 5) ∈ P397397 := RS_m hT560827 ht397429 (by decide)
                              obtain ⟨f560984, he560983⟩ := show rk_17 I (F560826 (γ 9 5)) from RS_o hT560827 ht397429
                              refine Gp_iald 0 hm560982 he560983 dr_cX17_weigh_141 rfl (gB_in bp560869 (by decide) (by decide)) (G_nam fun z560985 hz560985 => ?_)
                              have bz560985 : gB z560985 (-2147483648) 2147483647 := gB_any z560985
                              refine G_iload_n 3 dr_cX17_weigh_142 rfl ?_
                              refine G_iadd dr_cX17_weigh_143 (G_nam fun z560986 hz560986 => ?_)
                              have bz560986 : gB z560986 (-2147483648) 2147483647 := gB_any z560986
                              refine Gp_iast 0 hm560982 he560983 dr_cX17_weigh_144 rfl (gB_in bp560869 (by decide) (by decide)) (fun F560987 e560988 n560989 => ?_)
                              obtain ⟨f560990, hf560990⟩ : ∃ z, z = upd f560984 p560869.toNatClampNeg z560986 := ⟨_, rfl⟩
                              rw [← hf560990] at e560988
                              have he560991 : F560987 q397400 = .inr (18, [.ref q559127, .ref q559128, .int p559129, .int p559130]) := (n560989 q397400 (rn_oa he560833 he560983)).trans he560833
                              have he560992 : F560987 q559127 = .inr (4, [.int p560262, .ref q560264, .int p560263]) := (n560989 q559127 (rn_oa he560834 he560983)).trans he560834
                              have he560993 : F560987 q560264 = .inl (I (.object "java/lang/Object"), n560278, .inr (.inr (.inr (.inr f560279)))) := (n560989 q560264 (rn_ref_num he560835 he560983)).trans he560835
                              have he560994 : F560987 q560281 = .inr (17, [.ref q560290, .ref q560291, .int p560292, .int p560293]) := (n560989 q560281 (rn_oa he560836 he560983)).trans he560836
                              have he560995 : F560987 q397399 = .inr (22, [.ref (γ 9 0), .ref (γ 9 1), .ref (γ 9 2), .ref (γ 9 3), .ref (γ 9 4), .ref (γ 9 5), .ref (γ 9 6), .ref (γ 9 7), .ref (γ 9 8), .int p397407, .int p397408, .int p397409, .int p397410, .int p397411, .int p397412, .ref (γ 9 15), .ref (γ 9 16), .ref (γ 9 17), .ref (γ 9 18), .ref (γ 9 19), .ref (γ 9 20), .ref (γ 9 21), .ref (γ 9 22), .int p397413, .int p397414, .int p397415, .int p397416, .int p397417, .ref q397405, .ref (γ 9 29), .int p397418, .ref (γ 9 31), .int p397419, .int p397420, .int p397421, .ref q397406]) := (n560989 q397399 (rn_oa he560838 he560983)).trans he560838
                              have he560996 : F560987 q560290 = .inr (4, [.int p560842, .ref q560844, .int p560843]) := (n560989 q560290 (rn_oa he560841 he560983)).trans he560841
                              have he560997 : F560987 q560291 = .inr (20, [.int p560868, .int p560869, .int p560870, .int p560871, .int p560872, .int p560873, .int p560874]) := (n560989 q560291 (rn_oa he560867 he560983)).trans he560867
                              have he560998 : F560987 (γ 9 5) = .inl (I .int, 2000, .inl f560990) := e560988
                              have hs560999 : rStr γ [] F397398 F560987 := rStr_put hs560828 n560989 ht397429 (by decide)
                              have kp561000 : F560987 q397399 = F397398 q397399 := (n560989 q397399 (rn_ty htq397399 ht397429 (by decide))).trans x560829
                              have kp561001 : F560987 (γ 9 3) = F397398 (γ 9 3) := (n560989 (γ 9 3) (rn_ty ht397427 ht397429 (by decide))).trans x560830
                              refine G_aload 0 dr_cX17_weigh_145 rfl ?_
                              have hT561002 : RS D I P397397 F560987 γ el := RS_set hT560827 n560989 ht397429 (by decide) ⟨f560990, he560998⟩
                              refine Gw_callV (As := []) (gV_ok D I) (cp_1669_Row_usesA l hl0 D I P397397 F560987 q560291 p560868 p560869 p560870 p560871 p560872 p560873 p560874 hm560866 he560997 bp560868 bp560869 bp560872 bp560873 bp560874) dr_cX17_weigh_147 ⟨wr_10_192, wr_1_39, wr_10_195, by decide, rfl, (Nat.le_of_ble_eq_true rfl), (Nat.le_of_ble_eq_true rfl)⟩ wr_10_193 wr_10_194 hm560866 he560997 rfl (show 0 + 0 ≤ 0 by first | omega | decide) (show 0 + 0 ≤ 0 by first | omega | decide) (Nat.le_of_ble_eq_true rfl) (fun r561006 w561007 dc561003 ds561004 hp561005 => ?_) (fun _ _ _ _ _ z => z.elim)
                              obtain ⟨o561008, rfl, rfl, hdc, hds, bo561008, x561009⟩ := hp561005
                              change G _ _ _ _ _ _ _ (.int o561008 :: _) _ _ _
                              refine G_widen (cs' := 0) (sl' := 0) (by omega) (by omega) ?_
                              refine G_if_eq 167 dr_cX17_weigh_150 (by decide +kernel) (fun hc561010 => ?_) (fun hc561010 => ?_)
                              · have r561011 : o561008.toInt = 0 := gj_eq hc561010 (show Int32.toInt 0 = 0 by decide)
                                have bo561008' : gB o561008 0 0 := gB_t0 r561011
                                refine G_aload 0 dr_cX17_weigh_167 rfl ?_
                                refine Gw_callV (As := []) (gV_ok D I) (cp_1693_Row_usesB l hl0 D I P397397 F560987 q560291 p560868 p560869 p560870 p560871 p560872 p560873 p560874 hm560866 he560997 bp560868 bp560869 bp560872 bp560873 bp560874) dr_cX17_weigh_169 ⟨wr_10_196, wr_1_39, wr_10_199, by decide, rfl, (Nat.le_of_ble_eq_true rfl), (Nat.le_of_ble_eq_true rfl)⟩ wr_10_197 wr_10_198 hm560866 he560997 rfl (show 0 + 0 ≤ 0 by first | omega | decide) (show 0 + 0 ≤ 0 by first | omega | decide) (Nat.le_of_ble_eq_true rfl) (fun r561015 w561016 dc561012 ds561013 hp561014 => ?_) (fun _ _ _ _ _ z => z.elim)
                                obtain ⟨o561017, rfl, rfl, hdc, hds, bo561017, x561018⟩ := hp561014
                                change G _ _ _ _ _ _ _ (.int o561017 :: _) _ _ _
                                refine G_widen (cs' := 0) (sl' := 0) (by omega) (by omega) ?_
                                refine G_if_eq 189 dr_cX17_weigh_172 (by decide +kernel) (fun hc561019 => ?_) (fun hc561019 => ?_)
                                · have r561020 : o561017.toInt = 0 := gj_eq hc561019 (show Int32.toInt 0 = 0 by decide)
                                  have bo561017' : gB o561017 0 0 := gB_t0 r561020
                                  obtain ⟨z561021, hz561021⟩ : ∃ z : Int32, z = g560825 + Int32.ofInt 1 := ⟨_, rfl⟩
                                  have ez561021 : z561021.toInt = g560825.toInt + 1 := gI_inc hz561021 (by decide) bg560825' (by decide) (by decide)
                                  have bz561021 : gB z561021 1 1000001 := ⟨by omega, by omega⟩
                                  refine G_iinc (L' := [(5, .int z561021), (6, .ref q560291), (4, .ref q560281), (3, .int g560252), (2, .int g559114), (0, .ref q397399), (1, .ref q397400)]) z561021 1 dr_cX17_weigh_189 rfl hz561021.symm (Nat.le_of_ble_eq_true rfl) rfl ?_
                                  refine G_goto 74 dr_cX17_weigh_192 (by decide +kernel) ?_
                                  refine G_lv (L' := [(5, .int z561021), (4, .ref q560281), (3, .int g560252), (2, .int g559114), (0, .ref q397399), (1, .ref q397400)]) [0, 2, 3, 4, 5, 6] rfl ?_
                                  exact ih74_560830 F560987 z561021 (gB_w bz561021 (by decide) (by decide)) hT561002 hs560999 kp561000 kp561001 (mz_up ez561021 (Int.le_trans bg560825'.2 (by decide)) hm74_560830)
                                · have r561022 : o561017.toInt ≠ 0 := gj_neq hc561019 (show Int32.toInt 0 = 0 by decide)
                                  have bo561017' : gB o561017 1 1 := gB_t1 bo561017 r561022
                                  refine G_aload_n 5 dr_cX17_weigh_175 rfl ?_
                                  refine Gp_get 5 hm560839 he560995 dr_cX17_weigh_176 (gk_X17 D I) (Nat.le_of_ble_eq_true rfl) wr_7_79 rfl ?_
                                  refine G_aload 0 dr_cX17_weigh_179 rfl ?_
                                  refine Gp_get 3 hm560866 he560997 dr_cX17_weigh_181 (gk_X15 D I) (Nat.le_of_ble_eq_true rfl) wr_9_190 rfl ?_
                                  refine G_dup2_11 dr_cX17_weigh_184 rfl rfl ?_
                                  refine Gp_iald 0 hm560982 he560998 dr_cX17_weigh_185 rfl (gB_inr (by omega) (by omega)) (G_nam fun z561023 hz561023 => ?_)
                                  have bz561023 : gB z561023 (-2147483648) 2147483647 := gB_any z561023
                                  refine G_iload_n 3 dr_cX17_weigh_186 rfl ?_
                                  refine G_iadd dr_cX17_weigh_187 (G_nam fun z561024 hz561024 => ?_)
                                  have bz561024 : gB z561024 (-2147483648) 2147483647 := gB_any z561024
                                  refine Gp_iast 0 hm560982 he560998 dr_cX17_weigh_188 rfl (gB_inr (by omega) (by omega)) (fun F561025 e561026 n561027 => ?_)
                                  obtain ⟨f561028, hf561028⟩ : ∃ z, z = upd f560990 p560871.toNatClampNeg z561024 := ⟨_, rfl⟩
                                  rw [← hf561028] at e561026
                                  have he561029 : F561025 q397400 = .inr (18, [.ref q559127, .ref q559128, .int p559129, .int p559130]) := (n561027 q397400 (rn_oa he560991 he560998)).trans he560991
                                  have he561030 : F561025 q559127 = .inr (4, [.int p560262, .ref q560264, .int p560263]) := (n561027 q559127 (rn_oa he560992 he560998)).trans he560992
                                  have he561031 : F561025 q560264 = .inl (I (.object "java/lang/Object"), n560278, .inr (.inr (.inr (.inr f560279)))) := (n561027 q560264 (rn_ref_num he560993 he560998)).trans he560993
                                  have he561032 : F561025 q560281 = .inr (17, [.ref q560290, .ref q560291, .int p560292, .int p560293]) := (n561027 q560281 (rn_oa he560994 he560998)).trans he560994
                                  have he561033 : F561025 q397399 = .inr (22, [.ref (γ 9 0), .ref (γ 9 1), .ref (γ 9 2), .ref (γ 9 3), .ref (γ 9 4), .ref (γ 9 5), .ref (γ 9 6), .ref (γ 9 7), .ref (γ 9 8), .int p397407, .int p397408, .int p397409, .int p397410, .int p397411, .int p397412, .ref (γ 9 15), .ref (γ 9 16), .ref (γ 9 17), .ref (γ 9 18), .ref (γ 9 19), .ref (γ 9 20), .ref (γ 9 21), .ref (γ 9 22), .int p397413, .int p397414, .int p397415, .int p397416, .int p397417, .ref q397405, .ref (γ 9 29), .int p397418, .ref (γ 9 31), .int p397419, .int p397420, .int p397421, .ref q397406]) := (n561027 q397399 (rn_oa he560995 he560998)).trans he560995
                                  have he561034 : F561025 q560290 = .inr (4, [.int p560842, .ref q560844, .int p560843]) := (n561027 q560290 (rn_oa he560996 he560998)).trans he560996
                                  have he561035 : F561025 q560291 = .inr (20, [.int p560868, .int p560869, .int p560870, .int p560871, .int p560872, .int p560873, .int p560874]) := (n561027 q560291 (rn_oa he560997 he560998)).trans he560997
                                  have he561036 : F561025 (γ 9 5) = .inl (I .int, 2000, .inl f561028) := e561026
                                  have hs561037 : rStr γ [] F397398 F561025 := rStr_put hs560999 n561027 ht397429 (by decide)
                                  have kp561038 : F561025 q397399 = F397398 q397399 := (n561027 q397399 (rn_ty htq397399 ht397429 (by decide))).trans kp561000
                                  have kp561039 : F561025 (γ 9 3) = F397398 (γ 9 3) := (n561027 (γ 9 3) (rn_ty ht397427 ht397429 (by decide))).trans kp561001
                                  obtain ⟨z561040, hz561040⟩ : ∃ z : Int32, z = g560825 + Int32.ofInt 1 := ⟨_, rfl⟩
                                  have ez561040 : z561040.toInt = g560825.toInt + 1 := gI_inc hz561040 (by decide) bg560825' (by decide) (by decide)
                                  have bz561040 : gB z561040 1 1000001 := ⟨by omega, by omega⟩
                                  refine G_iinc (L' := [(5, .int z561040), (6, .ref q560291), (4, .ref q560281), (3, .int g560252), (2, .int g559114), (0, .ref q397399), (1, .ref q397400)]) z561040 1 dr_cX17_weigh_189 rfl hz561040.symm (Nat.le_of_ble_eq_true rfl) rfl ?_
                                  refine G_goto 74 dr_cX17_weigh_192 (by decide +kernel) ?_
                                  have hT561041 : RS D I P397397 F561025 γ el := RS_set hT561002 n561027 ht397429 (by decide) ⟨f561028, he561036⟩
                                  refine G_lv (L' := [(5, .int z561040), (4, .ref q560281), (3, .int g560252), (2, .int g559114), (0, .ref q397399), (1, .ref q397400)]) [0, 2, 3, 4, 5, 6] rfl ?_
                                  exact ih74_560830 F561025 z561040 (gB_w bz561040 (by decide) (by decide)) hT561041 hs561037 kp561038 kp561039 (mz_up ez561040 (Int.le_trans bg560825'.2 (by decide)) hm74_560830)
                              · have r561042 : o561008.toInt ≠ 0 := gj_neq hc561010 (show Int32.toInt 0 = 0 by decide)
                                have bo561008' : gB o561008 1 1 := gB_t1 bo561008 r561042
                                refine G_aload_n 5 dr_cX17_weigh_153 rfl ?_
                                refine Gp_get 5 hm560839 he560995 dr_cX17_weigh_154 (gk_X17 D I) (Nat.le_of_ble_eq_true rfl) wr_7_79 rfl ?_
                                refine G_aload 0 dr_cX17_weigh_157 rfl ?_
                                refine Gp_get 2 hm560866 he560997 dr_cX17_weigh_159 (gk_X15 D I) (Nat.le_of_ble_eq_true rfl) wr_9_186 rfl ?_
                                refine G_dup2_11 dr_cX17_weigh_162 rfl rfl ?_
                                refine Gp_iald 0 hm560982 he560998 dr_cX17_weigh_163 rfl (gB_inr (by omega) (by omega)) (G_nam fun z561043 hz561043 => ?_)
                                have bz561043 : gB z561043 (-2147483648) 2147483647 := gB_any z561043
                                refine G_iload_n 3 dr_cX17_weigh_164 rfl ?_
                                refine G_iadd dr_cX17_weigh_165 (G_nam fun z561044 hz561044 => ?_)
                                have bz561044 : gB z561044 (-2147483648) 2147483647 := gB_any z561044
                                refine Gp_iast 0 hm560982 he560998 dr_cX17_weigh_166 rfl (gB_inr (by omega) (by omega)) (fun F561045 e561046 n561047 => ?_)
                                obtain ⟨f561048, hf561048⟩ : ∃ z, z = upd f560990 p560870.toNatClampNeg z561044 := ⟨_, rfl⟩
                                rw [← hf561048] at e561046
                                have he561049 : F561045 q397400 = .inr (18, [.ref q559127, .ref q559128, .int p559129, .int p559130]) := (n561047 q397400 (rn_oa he560991 he560998)).trans he560991
                                have he561050 : F561045 q559127 = .inr (4, [.int p560262, .ref q560264, .int p560263]) := (n561047 q559127 (rn_oa he560992 he560998)).trans he560992
                                have he561051 : F561045 q560264 = .inl (I (.object "java/lang/Object"), n560278, .inr (.inr (.inr (.inr f560279)))) := (n561047 q560264 (rn_ref_num he560993 he560998)).trans he560993
                                have he561052 : F561045 q560281 = .inr (17, [.ref q560290, .ref q560291, .int p560292, .int p560293]) := (n561047 q560281 (rn_oa he560994 he560998)).trans he560994
                                have he561053 : F561045 q397399 = .inr (22, [.ref (γ 9 0), .ref (γ 9 1), .ref (γ 9 2), .ref (γ 9 3), .ref (γ 9 4), .ref (γ 9 5), .ref (γ 9 6), .ref (γ 9 7), .ref (γ 9 8), .int p397407, .int p397408, .int p397409, .int p397410, .int p397411, .int p397412, .ref (γ 9 15), .ref (γ 9 16), .ref (γ 9 17), .ref (γ 9 18), .ref (γ 9 19), .ref (γ 9 20), .ref (γ 9 21), .ref (γ 9 22), .int p397413, .int p397414, .int p397415, .int p397416, .int p397417, .ref q397405, .ref (γ 9 29), .int p397418, .ref (γ 9 31), .int p397419, .int p397420, .int p397421, .ref q397406]) := (n561047 q397399 (rn_oa he560995 he560998)).trans he560995
                                have he561054 : F561045 q560290 = .inr (4, [.int p560842, .ref q560844, .int p560843]) := (n561047 q560290 (rn_oa he560996 he560998)).trans he560996
                                have he561055 : F561045 q560291 = .inr (20, [.int p560868, .int p560869, .int p560870, .int p560871, .int p560872, .int p560873, .int p560874]) := (n561047 q560291 (rn_oa he560997 he560998)).trans he560997
                                have he561056 : F561045 (γ 9 5) = .inl (I .int, 2000, .inl f561048) := e561046
                                have hs561057 : rStr γ [] F397398 F561045 := rStr_put hs560999 n561047 ht397429 (by decide)
                                have kp561058 : F561045 q397399 = F397398 q397399 := (n561047 q397399 (rn_ty htq397399 ht397429 (by decide))).trans kp561000
                                have kp561059 : F561045 (γ 9 3) = F397398 (γ 9 3) := (n561047 (γ 9 3) (rn_ty ht397427 ht397429 (by decide))).trans kp561001
                                refine G_aload 0 dr_cX17_weigh_167 rfl ?_
                                have hT561060 : RS D I P397397 F561045 γ el := RS_set hT561002 n561047 ht397429 (by decide) ⟨f561048, he561056⟩
                                refine Gw_callV (As := []) (gV_ok D I) (cp_1693_Row_usesB l hl0 D I P397397 F561045 q560291 p560868 p560869 p560870 p560871 p560872 p560873 p560874 hm560866 he561055 bp560868 bp560869 bp560872 bp560873 bp560874) dr_cX17_weigh_169 ⟨wr_10_196, wr_1_39, wr_10_199, by decide, rfl, (Nat.le_of_ble_eq_true rfl), (Nat.le_of_ble_eq_true rfl)⟩ wr_10_197 wr_10_198 hm560866 he561055 rfl (show 0 + 0 ≤ 0 by first | omega | decide) (show 0 + 0 ≤ 0 by first | omega | decide) (Nat.le_of_ble_eq_true rfl) (fun r561064 w561065 dc561061 ds561062 hp561063 => ?_) (fun _ _ _ _ _ z => z.elim)
                                obtain ⟨o561066, rfl, rfl, hdc, hds, bo561066, x561067⟩ := hp561063
                                change G _ _ _ _ _ _ _ (.int o561066 :: _) _ _ _
                                refine G_widen (cs' := 0) (sl' := 0) (by omega) (by omega) ?_
                                refine G_if_eq 189 dr_cX17_weigh_172 (by decide +kernel) (fun hc561068 => ?_) (fun hc561068 => ?_)
                                · have r561069 : o561066.toInt = 0 := gj_eq hc561068 (show Int32.toInt 0 = 0 by decide)
                                  have bo561066' : gB o561066 0 0 := gB_t0 r561069
                                  obtain ⟨z561070, hz561070⟩ : ∃ z : Int32, z = g560825 + Int32.ofInt 1 := ⟨_, rfl⟩
                                  have ez561070 : z561070.toInt = g560825.toInt + 1 := gI_inc hz561070 (by decide) bg560825' (by decide) (by decide)
                                  have bz561070 : gB z561070 1 1000001 := ⟨by omega, by omega⟩
                                  refine G_iinc (L' := [(5, .int z561070), (6, .ref q560291), (4, .ref q560281), (3, .int g560252), (2, .int g559114), (0, .ref q397399), (1, .ref q397400)]) z561070 1 dr_cX17_weigh_189 rfl hz561070.symm (Nat.le_of_ble_eq_true rfl) rfl ?_
                                  refine G_goto 74 dr_cX17_weigh_192 (by decide +kernel) ?_
                                  refine G_lv (L' := [(5, .int z561070), (4, .ref q560281), (3, .int g560252), (2, .int g559114), (0, .ref q397399), (1, .ref q397400)]) [0, 2, 3, 4, 5, 6] rfl ?_
                                  exact ih74_560830 F561045 z561070 (gB_w bz561070 (by decide) (by decide)) hT561060 hs561057 kp561058 kp561059 (mz_up ez561070 (Int.le_trans bg560825'.2 (by decide)) hm74_560830)
                                · have r561071 : o561066.toInt ≠ 0 := gj_neq hc561068 (show Int32.toInt 0 = 0 by decide)
                                  have bo561066' : gB o561066 1 1 := gB_t1 bo561066 r561071
                                  refine G_aload_n 5 dr_cX17_weigh_175 rfl ?_
                                  refine Gp_get 5 hm560839 he561053 dr_cX17_weigh_176 (gk_X17 D I) (Nat.le_of_ble_eq_true rfl) wr_7_79 rfl ?_
                                  refine G_aload 0 dr_cX17_weigh_179 rfl ?_
                                  refine Gp_get 3 hm560866 he561055 dr_cX17_weigh_181 (gk_X15 D I) (Nat.le_of_ble_eq_true rfl) wr_9_190 rfl ?_
                                  refine G_dup2_11 dr_cX17_weigh_184 rfl rfl ?_
                                  refine Gp_iald 0 hm560982 he561056 dr_cX17_weigh_185 rfl (gB_inr (by omega) (by omega)) (G_nam fun z561072 hz561072 => ?_)
                                  have bz561072 : gB z561072 (-2147483648) 2147483647 := gB_any z561072
                                  refine G_iload_n 3 dr_cX17_weigh_186 rfl ?_
                                  refine G_iadd dr_cX17_weigh_187 (G_nam fun z561073 hz561073 => ?_)
                                  have bz561073 : gB z561073 (-2147483648) 2147483647 := gB_any z561073
                                  refine Gp_iast 0 hm560982 he561056 dr_cX17_weigh_188 rfl (gB_inr (by omega) (by omega)) (fun F561074 e561075 n561076 => ?_)
                                  obtain ⟨f561077, hf561077⟩ : ∃ z, z = upd f561048 p560871.toNatClampNeg z561073 := ⟨_, rfl⟩
                                  rw [← hf561077] at e561075
                                  have he561078 : F561074 q397400 = .inr (18, [.ref q559127, .ref q559128, .int p559129, .int p559130]) := (n561076 q397400 (rn_oa he561049 he561056)).trans he561049
                                  have he561079 : F561074 q559127 = .inr (4, [.int p560262, .ref q560264, .int p560263]) := (n561076 q559127 (rn_oa he561050 he561056)).trans he561050
                                  have he561080 : F561074 q560264 = .inl (I (.object "java/lang/Object"), n560278, .inr (.inr (.inr (.inr f560279)))) := (n561076 q560264 (rn_ref_num he561051 he561056)).trans he561051
                                  have he561081 : F561074 q560281 = .inr (17, [.ref q560290, .ref q560291, .int p560292, .int p560293]) := (n561076 q560281 (rn_oa he561052 he561056)).trans he561052
                                  have he561082 : F561074 q397399 = .inr (22, [.ref (γ 9 0), .ref (γ 9 1), .ref (γ 9 2), .ref (γ 9 3), .ref (γ 9 4), .ref (γ 9 5), .ref (γ 9 6), .ref (γ 9 7), .ref (γ 9 8), .int p397407, .int p397408, .int p397409, .int p397410, .int p397411, .int p397412, .ref (γ 9 15), .ref (γ 9 16), .ref (γ 9 17), .ref (γ 9 18), .ref (γ 9 19), .ref (γ 9 20), .ref (γ 9 21), .ref (γ 9 22), .int p397413, .int p397414, .int p397415, .int p397416, .int p397417, .ref q397405, .ref (γ 9 29), .int p397418, .ref (γ 9 31), .int p397419, .int p397420, .int p397421, .ref q397406]) := (n561076 q397399 (rn_oa he561053 he561056)).trans he561053
                                  have he561083 : F561074 q560290 = .inr (4, [.int p560842, .ref q560844, .int p560843]) := (n561076 q560290 (rn_oa he561054 he561056)).trans he561054
                                  have he561084 : F561074 q560291 = .inr (20, [.int p560868, .int p560869, .int p560870, .int p560871, .int p560872, .int p560873, .int p560874]) := (n561076 q560291 (rn_oa he561055 he561056)).trans he561055
                                  have he561085 : F561074 (γ 9 5) = .inl (I .int, 2000, .inl f561077) := e561075
                                  have hs561086 : rStr γ [] F397398 F561074 := rStr_put hs561057 n561076 ht397429 (by decide)
                                  have kp561087 : F561074 q397399 = F397398 q397399 := (n561076 q397399 (rn_ty htq397399 ht397429 (by decide))).trans kp561058
                                  have kp561088 : F561074 (γ 9 3) = F397398 (γ 9 3) := (n561076 (γ 9 3) (rn_ty ht397427 ht397429 (by decide))).trans kp561059
                                  obtain ⟨z561089, hz561089⟩ : ∃ z : Int32, z = g560825 + Int32.ofInt 1 := ⟨_, rfl⟩
                                  have ez561089 : z561089.toInt = g560825.toInt + 1 := gI_inc hz561089 (by decide) bg560825' (by decide) (by decide)
                                  have bz561089 : gB z561089 1 1000001 := ⟨by omega, by omega⟩
                                  refine G_iinc (L' := [(5, .int z561089), (6, .ref q560291), (4, .ref q560281), (3, .int g560252), (2, .int g559114), (0, .ref q397399), (1, .ref q397400)]) z561089 1 dr_cX17_weigh_189 rfl hz561089.symm (Nat.le_of_ble_eq_true rfl) rfl ?_
                                  refine G_goto 74 dr_cX17_weigh_192 (by decide +kernel) ?_
                                  have hT561090 : RS D I P397397 F561074 γ el := RS_set hT561060 n561076 ht397429 (by decide) ⟨f561077, he561085⟩
                                  refine G_lv (L' := [(5, .int z561089), (4, .ref q560281), (3, .int g560252), (2, .int g559114), (0, .ref q397399), (1, .ref q397400)]) [0, 2, 3, 4, 5, 6] rfl ?_
                                  exact ih74_560830 F561074 z561089 (gB_w bz561089 (by decide) (by decide)) hT561090 hs561086 kp561087 kp561088 (mz_up ez561089 (Int.le_trans bg560825'.2 (by decide)) hm74_560830)
                          · have r561091 : g560825.toInt < p560843.toInt := gC_nle hc560864
                            have bg560825'' : gB g560825 0 999999 := ⟨by omega, by omega⟩
                            have bp560843' : gB p560843 1 1000000 := ⟨by omega, by omega⟩
                            refine G_aload 1 dr_cX17_weigh_100 rfl ?_
                            refine Gp_get 0 hm560288 he560836 dr_cX17_weigh_102 (gk_X12 D I) (Nat.le_of_ble_eq_true rfl) wr_9_220 rfl ?_
                            refine G_iload 0 dr_cX17_weigh_105 rfl ?_
                            obtain ⟨r561092, r561093, n561100, f561101, r561094, r561095, r561096, r561097, r561098, r561099⟩ := rLC_n r560847 (by omega)
                            have hm561102 : q560844 ∈ P397397 := RS_m hT560827 r561092 (by decide)
                            obtain ⟨q561103, hx561104⟩ : ∃ x, x = el q560290 g560825.toInt.toNat := ⟨_, rfl⟩
                            have hx561105 : f561101 g560825.toNatClampNeg = some q561103 := (r561098 _ (show g560825.toInt.toNat < γ 2 q560290 by omega)).trans (by rw [hx561104])
                            have ht561106 : rKd γ q561103 1 := by rw [hx561104]; exact (r560848 _ (show g560825.toInt.toNat < γ 2 q560290 by omega)).1
                            have ht561107 : rFm γ q561103 q560290 := by rw [hx561104]; exact (r560848 _ (show g560825.toInt.toNat < γ 2 q560290 by omega)).2.1
                            refine Gw_callV (As := [.int g560825]) (gV_ok D I) (cp_22_ArrayList_get l hl0 D I P397397 F560826 q560290 q560844 g560825 p560842 p560843 f561101 n561100 q561103 hm560840 hm561102 he560841 r561094 (gB_w bg560825'' (by decide) (by decide)) (gB_w bp560843' (by decide) (by decide)) (by omega) (by omega) (by assumption) (by omega)) dr_cX17_weigh_107 ⟨wr_10_201, wr_1_18, wr_10_65, by decide, rfl, (Nat.le_of_ble_eq_true rfl), (Nat.le_of_ble_eq_true rfl)⟩ wr_10_63 wr_10_64 hm560840 he560841 rfl (show 0 + 0 ≤ 0 by first | omega | decide) (show 0 + 0 ≤ 0 by first | omega | decide) (Nat.le_of_ble_eq_true rfl) (fun r561111 w561112 dc561108 ds561109 hp561110 => ?_) (fun _ _ _ _ _ z => z.elim)
                            obtain ⟨rfl, rfl, hdc, hds⟩ := hp561110
                            change G _ _ _ _ _ _ _ (.ref q561103 :: _) _ _ _
                            refine G_widen (cs' := 0) (sl' := 0) (by omega) (by omega) ?_
                            have hm561113 : q561103 ∈ P397397 := RS_m hT560827 ht561106 (by decide)
                            obtain ⟨p561115, p561116, p561117, p561118, p561119, p561120, p561121, he561114, bp561115, bp561116, bp561119, bp561120, bp561121, r561122, r561123, r561124, r561125⟩ := show rk_1 γ q561103 (F560826 q561103) from RS_o hT560827 ht561106
                            have bp561117 := gB_any p561117
                            have bp561118 := gB_any p561118
                            refine Gp_cast hm561113 he561114 rfl dr_cX17_weigh_110 wr_10_202 (gr_cast 1 rfl) ?_
                            refine G_goto 121 dr_cX17_weigh_113 (by decide +kernel) ?_
                            refine G_astore (L' := [(6, .ref q561103), (5, .int g560825), (4, .ref q560281), (3, .int g560252), (2, .int g559114), (0, .ref q397399), (1, .ref q397400)]) dr_cX17_weigh_121 (Nat.le_of_ble_eq_true rfl) rfl ?_
                            refine G_aload 0 dr_cX17_weigh_123 rfl ?_
                            refine Gw_callV (As := []) (gV_ok D I) (cp_1654_Row_sets l hl0 D I P397397 F560826 q561103 p561115 p561116 p561117 p561118 p561119 p561120 p561121 hm561113 he561114 bp561115 bp561116 bp561119 bp561120 bp561121) dr_cX17_weigh_125 ⟨wr_10_181, wr_1_39, wr_10_184, by decide, rfl, (Nat.le_of_ble_eq_true rfl), (Nat.le_of_ble_eq_true rfl)⟩ wr_10_182 wr_10_183 hm561113 he561114 rfl (show 0 + 0 ≤ 0 by first | omega | decide) (show 0 + 0 ≤ 0 by first | omega | decide) (Nat.le_of_ble_eq_true rfl) (fun r561129 w561130 dc561126 ds561127 hp561128 => ?_) (fun _ _ _ _ _ z => z.elim)
                            obtain ⟨o561131, rfl, rfl, hdc, hds, bo561131⟩ := hp561128
                            change G _ _ _ _ _ _ _ (.int o561131 :: _) _ _ _
                            refine G_widen (cs' := 0) (sl' := 0) (by omega) (by omega) ?_
                            refine G_if_eq 145 dr_cX17_weigh_128 (by decide +kernel) (fun hc561132 => ?_) (fun hc561132 => ?_)
                            · have r561133 : o561131.toInt = 0 := gj_eq hc561132 (show Int32.toInt 0 = 0 by decide)
                              have bo561131' : gB o561131 0 0 := gB_t0 r561133
                              refine G_aload 0 dr_cX17_weigh_145 rfl ?_
                              refine Gw_callV (As := []) (gV_ok D I) (cp_1669_Row_usesA l hl0 D I P397397 F560826 q561103 p561115 p561116 p561117 p561118 p561119 p561120 p561121 hm561113 he561114 bp561115 bp561116 bp561119 bp561120 bp561121) dr_cX17_weigh_147 ⟨wr_10_192, wr_1_39, wr_10_195, by decide, rfl, (Nat.le_of_ble_eq_true rfl), (Nat.le_of_ble_eq_true rfl)⟩ wr_10_193 wr_10_194 hm561113 he561114 rfl (show 0 + 0 ≤ 0 by first | omega | decide) (show 0 + 0 ≤ 0 by first | omega | decide) (Nat.le_of_ble_eq_true rfl) (fun r561137 w561138 dc561134 ds561135 hp561136 => ?_) (fun _ _ _ _ _ z => z.elim)
                              obtain ⟨o561139, rfl, rfl, hdc, hds, bo561139, x561140⟩ := hp561136
                              change G _ _ _ _ _ _ _ (.int o561139 :: _) _ _ _
                              refine G_widen (cs' := 0) (sl' := 0) (by omega) (by omega) ?_
                              refine G_if_eq 167 dr_cX17_weigh_150 (by decide +kernel) (fun hc561141 => ?_) (fun hc561141 => ?_)
                              · have r561142 : o561139.toInt = 0 := gj_eq hc561141 (show Int32.toInt 0 = 0 by decide)
                                have bo561139' : gB o561139 0 0 := gB_t0 r561142
                                refine G_aload 0 dr_cX17_weigh_167 rfl ?_
                                refine Gw_callV (As := []) (gV_ok D I) (cp_1693_Row_usesB l hl0 D I P397397 F560826 q561103 p561115 p561116 p561117 p561118 p561119 p561120 p561121 hm561113 he561114 bp561115 bp561116 bp561119 bp561120 bp561121) dr_cX17_weigh_169 ⟨wr_10_196, wr_1_39, wr_10_199, by decide, rfl, (Nat.le_of_ble_eq_true rfl), (Nat.le_of_ble_eq_true rfl)⟩ wr_10_197 wr_10_198 hm561113 he561114 rfl (show 0 + 0 ≤ 0 by first | omega | decide) (show 0 + 0 ≤ 0 by first | omega | decide) (Nat.le_of_ble_eq_true rfl) (fun r561146 w561147 dc561143 ds561144 hp561145 => ?_) (fun _ _ _ _ _ z => z.elim)
                                obtain ⟨o561148, rfl, rfl, hdc, hds, bo561148, x561149⟩ := hp561145
                                change G _ _ _ _ _ _ _ (.int o561148 :: _) _ _ _
                                refine G_widen (cs' := 0) (sl' := 0) (by omega) (by omega) ?_
                                refine G_if_eq 189 dr_cX17_weigh_172 (by decide +kernel) (fun hc561150 => ?_) (fun hc561150 => ?_)
                                · have r561151 : o561148.toInt = 0 := gj_eq hc561150 (show Int32.toInt 0 = 0 by decide)
                                  have bo561148' : gB o561148 0 0 := gB_t0 r561151
                                  obtain ⟨z561152, hz561152⟩ : ∃ z : Int32, z = g560825 + Int32.ofInt 1 := ⟨_, rfl⟩
                                  have ez561152 : z561152.toInt = g560825.toInt + 1 := gI_inc hz561152 (by decide) bg560825'' (by decide) (by decide)
                                  have bz561152 : gB z561152 1 1000000 := ⟨by omega, by omega⟩
                                  refine G_iinc (L' := [(5, .int z561152), (6, .ref q561103), (4, .ref q560281), (3, .int g560252), (2, .int g559114), (0, .ref q397399), (1, .ref q397400)]) z561152 1 dr_cX17_weigh_189 rfl hz561152.symm (Nat.le_of_ble_eq_true rfl) rfl ?_
                                  refine G_goto 74 dr_cX17_weigh_192 (by decide +kernel) ?_
                                  refine G_lv (L' := [(5, .int z561152), (4, .ref q560281), (3, .int g560252), (2, .int g559114), (0, .ref q397399), (1, .ref q397400)]) [0, 2, 3, 4, 5, 6] rfl ?_
                                  exact ih74_560830 F560826 z561152 (gB_w bz561152 (by decide) (by decide)) hT560827 hs560828 x560829 x560830 (mz_up ez561152 (Int.le_trans bg560825''.2 (by decide)) hm74_560830)
                                · have r561153 : o561148.toInt ≠ 0 := gj_neq hc561150 (show Int32.toInt 0 = 0 by decide)
                                  have bo561148' : gB o561148 1 1 := gB_t1 bo561148 r561153
                                  refine G_aload_n 5 dr_cX17_weigh_175 rfl ?_
                                  refine Gp_get 5 hm560839 he560838 dr_cX17_weigh_176 (gk_X17 D I) (Nat.le_of_ble_eq_true rfl) wr_7_79 rfl ?_
                                  refine G_aload 0 dr_cX17_weigh_179 rfl ?_
                                  refine Gp_get 3 hm561113 he561114 dr_cX17_weigh_181 (gk_X15 D I) (Nat.le_of_ble_eq_true rfl) wr_9_190 rfl ?_
                                  refine G_dup2_11 dr_cX17_weigh_184 rfl rfl ?_
                                  have hm561154 : (γ 9 5) ∈ P397397 := RS_m hT560827 ht397429 (by decide)
                                  obtain ⟨f561156, he561155⟩ := show rk_17 I (F560826 (γ 9 5)) from RS_o hT560827 ht397429
                                  refine Gp_iald 0 hm561154 he561155 dr_cX17_weigh_185 rfl (gB_inr (by omega) (by omega)) (G_nam fun z561157 hz561157 => ?_)
                                  have bz561157 : gB z561157 (-2147483648) 2147483647 := gB_any z561157
                                  refine G_iload_n 3 dr_cX17_weigh_186 rfl ?_
                                  refine G_iadd dr_cX17_weigh_187 (G_nam fun z561158 hz561158 => ?_)
                                  have bz561158 : gB z561158 (-2147483648) 2147483647 := gB_any z561158
                                  refine Gp_iast 0 hm561154 he561155 dr_cX17_weigh_188 rfl (gB_inr (by omega) (by omega)) (fun F561159 e561160 n561161 => ?_)
                                  obtain ⟨f561162, hf561162⟩ : ∃ z, z = upd f561156 p561118.toNatClampNeg z561158 := ⟨_, rfl⟩
                                  rw [← hf561162] at e561160
                                  have he561163 : F561159 q397400 = .inr (18, [.ref q559127, .ref q559128, .int p559129, .int p559130]) := (n561161 q397400 (rn_oa he560833 he561155)).trans he560833
                                  have he561164 : F561159 q559127 = .inr (4, [.int p560262, .ref q560264, .int p560263]) := (n561161 q559127 (rn_oa he560834 he561155)).trans he560834
                                  have he561165 : F561159 q560264 = .inl (I (.object "java/lang/Object"), n560278, .inr (.inr (.inr (.inr f560279)))) := (n561161 q560264 (rn_ref_num he560835 he561155)).trans he560835
                                  have he561166 : F561159 q560281 = .inr (17, [.ref q560290, .ref q560291, .int p560292, .int p560293]) := (n561161 q560281 (rn_oa he560836 he561155)).trans he560836
                                  have he561167 : F561159 q397399 = .inr (22, [.ref (γ 9 0), .ref (γ 9 1), .ref (γ 9 2), .ref (γ 9 3), .ref (γ 9 4), .ref (γ 9 5), .ref (γ 9 6), .ref (γ 9 7), .ref (γ 9 8), .int p397407, .int p397408, .int p397409, .int p397410, .int p397411, .int p397412, .ref (γ 9 15), .ref (γ 9 16), .ref (γ 9 17), .ref (γ 9 18), .ref (γ 9 19), .ref (γ 9 20), .ref (γ 9 21), .ref (γ 9 22), .int p397413, .int p397414, .int p397415, .int p397416, .int p397417, .ref q397405, .ref (γ 9 29), .int p397418, .ref (γ 9 31), .int p397419, .int p397420, .int p397421, .ref q397406]) := (n561161 q397399 (rn_oa he560838 he561155)).trans he560838
                                  have he561168 : F561159 q560290 = .inr (4, [.int p560842, .ref q560844, .int p560843]) := (n561161 q560290 (rn_oa he560841 he561155)).trans he560841
                                  have he561169 : F561159 q560844 = .inl (I (.object "java/lang/Object"), n561100, .inr (.inr (.inr (.inr f561101)))) := (n561161 q560844 (rn_ref_num r561094 he561155)).trans r561094
                                  have he561170 : F561159 q561103 = .inr (20, [.int p561115, .int p561116, .int p561117, .int p561118, .int p561119, .int p561120, .int p561121]) := (n561161 q561103 (rn_oa he561114 he561155)).trans he561114
                                  have he561171 : F561159 (γ 9 5) = .inl (I .int, 2000, .inl f561162) := e561160
                                  have hs561172 : rStr γ [] F397398 F561159 := rStr_put hs560828 n561161 ht397429 (by decide)
                                  have kp561173 : F561159 q397399 = F397398 q397399 := (n561161 q397399 (rn_ty htq397399 ht397429 (by decide))).trans x560829
                                  have kp561174 : F561159 (γ 9 3) = F397398 (γ 9 3) := (n561161 (γ 9 3) (rn_ty ht397427 ht397429 (by decide))).trans x560830
                                  obtain ⟨z561175, hz561175⟩ : ∃ z : Int32, z = g560825 + Int32.ofInt 1 := ⟨_, rfl⟩
                                  have ez561175 : z561175.toInt = g560825.toInt + 1 := gI_inc hz561175 (by decide) bg560825'' (by decide) (by decide)
                                  have bz561175 : gB z561175 1 1000000 := ⟨by omega, by omega⟩
                                  refine G_iinc (L' := [(5, .int z561175), (6, .ref q561103), (4, .ref q560281), (3, .int g560252), (2, .int g559114), (0, .ref q397399), (1, .ref q397400)]) z561175 1 dr_cX17_weigh_189 rfl hz561175.symm (Nat.le_of_ble_eq_true rfl) rfl ?_
                                  refine G_goto 74 dr_cX17_weigh_192 (by decide +kernel) ?_
                                  have hT561176 : RS D I P397397 F561159 γ el := RS_set hT560827 n561161 ht397429 (by decide) ⟨f561162, he561171⟩
                                  refine G_lv (L' := [(5, .int z561175), (4, .ref q560281), (3, .int g560252), (2, .int g559114), (0, .ref q397399), (1, .ref q397400)]) [0, 2, 3, 4, 5, 6] rfl ?_
                                  exact ih74_560830 F561159 z561175 (gB_w bz561175 (by decide) (by decide)) hT561176 hs561172 kp561173 kp561174 (mz_up ez561175 (Int.le_trans bg560825''.2 (by decide)) hm74_560830)
                              · have r561177 : o561139.toInt ≠ 0 := gj_neq hc561141 (show Int32.toInt 0 = 0 by decide)
                                have bo561139' : gB o561139 1 1 := gB_t1 bo561139 r561177
                                refine G_aload_n 5 dr_cX17_weigh_153 rfl ?_
                                refine Gp_get 5 hm560839 he560838 dr_cX17_weigh_154 (gk_X17 D I) (Nat.le_of_ble_eq_true rfl) wr_7_79 rfl ?_
                                refine G_aload 0 dr_cX17_weigh_157 rfl ?_
                                refine Gp_get 2 hm561113 he561114 dr_cX17_weigh_159 (gk_X15 D I) (Nat.le_of_ble_eq_true rfl) wr_9_186 rfl ?_
                                refine G_dup2_11 dr_cX17_weigh_162 rfl rfl ?_
                                have hm561178 : (γ 9 5) ∈ P397397 := RS_m hT560827 ht397429 (by decide)
                                obtain ⟨f561180, he561179⟩ := show rk_17 I (F560826 (γ 9 5)) from RS_o hT560827 ht397429
                                refine Gp_iald 0 hm561178 he561179 dr_cX17_weigh_163 rfl (gB_inr (by omega) (by omega)) (G_nam fun z561181 hz561181 => ?_)
                                have bz561181 : gB z561181 (-2147483648) 2147483647 := gB_any z561181
                                refine G_iload_n 3 dr_cX17_weigh_164 rfl ?_
                                refine G_iadd dr_cX17_weigh_165 (G_nam fun z561182 hz561182 => ?_)
                                have bz561182 : gB z561182 (-2147483648) 2147483647 := gB_any z561182
                                refine Gp_iast 0 hm561178 he561179 dr_cX17_weigh_166 rfl (gB_inr (by omega) (by omega)) (fun F561183 e561184 n561185 => ?_)
                                obtain ⟨f561186, hf561186⟩ : ∃ z, z = upd f561180 p561117.toNatClampNeg z561182 := ⟨_, rfl⟩
                                rw [← hf561186] at e561184
                                have he561187 : F561183 q397400 = .inr (18, [.ref q559127, .ref q559128, .int p559129, .int p559130]) := (n561185 q397400 (rn_oa he560833 he561179)).trans he560833
                                have he561188 : F561183 q559127 = .inr (4, [.int p560262, .ref q560264, .int p560263]) := (n561185 q559127 (rn_oa he560834 he561179)).trans he560834
                                have he561189 : F561183 q560264 = .inl (I (.object "java/lang/Object"), n560278, .inr (.inr (.inr (.inr f560279)))) := (n561185 q560264 (rn_ref_num he560835 he561179)).trans he560835
                                have he561190 : F561183 q560281 = .inr (17, [.ref q560290, .ref q560291, .int p560292, .int p560293]) := (n561185 q560281 (rn_oa he560836 he561179)).trans he560836
                                have he561191 : F561183 q397399 = .inr (22, [.ref (γ 9 0), .ref (γ 9 1), .ref (γ 9 2), .ref (γ 9 3), .ref (γ 9 4), .ref (γ 9 5), .ref (γ 9 6), .ref (γ 9 7), .ref (γ 9 8), .int p397407, .int p397408, .int p397409, .int p397410, .int p397411, .int p397412, .ref (γ 9 15), .ref (γ 9 16), .ref (γ 9 17), .ref (γ 9 18), .ref (γ 9 19), .ref (γ 9 20), .ref (γ 9 21), .ref (γ 9 22), .int p397413, .int p397414, .int p397415, .int p397416, .int p397417, .ref q397405, .ref (γ 9 29), .int p397418, .ref (γ 9 31), .int p397419, .int p397420, .int p397421, .ref q397406]) := (n561185 q397399 (rn_oa he560838 he561179)).trans he560838
                                have he561192 : F561183 q560290 = .inr (4, [.int p560842, .ref q560844, .int p560843]) := (n561185 q560290 (rn_oa he560841 he561179)).trans he560841
                                have he561193 : F561183 q560844 = .inl (I (.object "java/lang/Object"), n561100, .inr (.inr (.inr (.inr f561101)))) := (n561185 q560844 (rn_ref_num r561094 he561179)).trans r561094
                                have he561194 : F561183 q561103 = .inr (20, [.int p561115, .int p561116, .int p561117, .int p561118, .int p561119, .int p561120, .int p561121]) := (n561185 q561103 (rn_oa he561114 he561179)).trans he561114
                                have he561195 : F561183 (γ 9 5) = .inl (I .int, 2000, .inl f561186) := e561184
                                have hs561196 : rStr γ [] F397398 F561183 := rStr_put hs560828 n561185 ht397429 (by decide)
                                have kp561197 : F561183 q397399 = F397398 q397399 := (n561185 q397399 (rn_ty htq397399 ht397429 (by decide))).trans x560829
                                have kp561198 : F561183 (γ 9 3) = F397398 (γ 9 3) := (n561185 (γ 9 3) (rn_ty ht397427 ht397429 (by decide))).trans x560830
                                refine G_aload 0 dr_cX17_weigh_167 rfl ?_
                                have hT561199 : RS D I P397397 F561183 γ el := RS_set hT560827 n561185 ht397429 (by decide) ⟨f561186, he561195⟩
                                refine Gw_callV (As := []) (gV_ok D I) (cp_1693_Row_usesB l hl0 D I P397397 F561183 q561103 p561115 p561116 p561117 p561118 p561119 p561120 p561121 hm561113 he561194 bp561115 bp561116 bp561119 bp561120 bp561121) dr_cX17_weigh_169 ⟨wr_10_196, wr_1_39, wr_10_199, by decide, rfl, (Nat.le_of_ble_eq_true rfl), (Nat.le_of_ble_eq_true rfl)⟩ wr_10_197 wr_10_198 hm561113 he561194 rfl (show 0 + 0 ≤ 0 by first | omega | decide) (show 0 + 0 ≤ 0 by first | omega | decide) (Nat.le_of_ble_eq_true rfl) (fun r561203 w561204 dc561200 ds561201 hp561202 => ?_) (fun _ _ _ _ _ z => z.elim)
                                obtain ⟨o561205, rfl, rfl, hdc, hds, bo561205, x561206⟩ := hp561202
                                change G _ _ _ _ _ _ _ (.int o561205 :: _) _ _ _
                                refine G_widen (cs' := 0) (sl' := 0) (by omega) (by omega) ?_
                                refine G_if_eq 189 dr_cX17_weigh_172 (by decide +kernel) (fun hc561207 => ?_) (fun hc561207 => ?_)
                                · have r561208 : o561205.toInt = 0 := gj_eq hc561207 (show Int32.toInt 0 = 0 by decide)
                                  have bo561205' : gB o561205 0 0 := gB_t0 r561208
                                  obtain ⟨z561209, hz561209⟩ : ∃ z : Int32, z = g560825 + Int32.ofInt 1 := ⟨_, rfl⟩
                                  have ez561209 : z561209.toInt = g560825.toInt + 1 := gI_inc hz561209 (by decide) bg560825'' (by decide) (by decide)
                                  have bz561209 : gB z561209 1 1000000 := ⟨by omega, by omega⟩
                                  refine G_iinc (L' := [(5, .int z561209), (6, .ref q561103), (4, .ref q560281), (3, .int g560252), (2, .int g559114), (0, .ref q397399), (1, .ref q397400)]) z561209 1 dr_cX17_weigh_189 rfl hz561209.symm (Nat.le_of_ble_eq_true rfl) rfl ?_
                                  refine G_goto 74 dr_cX17_weigh_192 (by decide +kernel) ?_
                                  refine G_lv (L' := [(5, .int z561209), (4, .ref q560281), (3, .int g560252), (2, .int g559114), (0, .ref q397399), (1, .ref q397400)]) [0, 2, 3, 4, 5, 6] rfl ?_
                                  exact ih74_560830 F561183 z561209 (gB_w bz561209 (by decide) (by decide)) hT561199 hs561196 kp561197 kp561198 (mz_up ez561209 (Int.le_trans bg560825''.2 (by decide)) hm74_560830)
                                · have r561210 : o561205.toInt ≠ 0 := gj_neq hc561207 (show Int32.toInt 0 = 0 by decide)
                                  have bo561205' : gB o561205 1 1 := gB_t1 bo561205 r561210
                                  refine G_aload_n 5 dr_cX17_weigh_175 rfl ?_
                                  refine Gp_get 5 hm560839 he561191 dr_cX17_weigh_176 (gk_X17 D I) (Nat.le_of_ble_eq_true rfl) wr_7_79 rfl ?_
                                  refine G_aload 0 dr_cX17_weigh_179 rfl ?_
                                  refine Gp_get 3 hm561113 he561194 dr_cX17_weigh_181 (gk_X15 D I) (Nat.le_of_ble_eq_true rfl) wr_9_190 rfl ?_
                                  refine G_dup2_11 dr_cX17_weigh_184 rfl rfl ?_
                                  refine Gp_iald 0 hm561178 he561195 dr_cX17_weigh_185 rfl (gB_inr (by omega) (by omega)) (G_nam fun z561211 hz561211 => ?_)
                                  have bz561211 : gB z561211 (-2147483648) 2147483647 := gB_any z561211
                                  refine G_iload_n 3 dr_cX17_weigh_186 rfl ?_
                                  refine G_iadd dr_cX17_weigh_187 (G_nam fun z561212 hz561212 => ?_)
                                  have bz561212 : gB z561212 (-2147483648) 2147483647 := gB_any z561212
                                  refine Gp_iast 0 hm561178 he561195 dr_cX17_weigh_188 rfl (gB_inr (by omega) (by omega)) (fun F561213 e561214 n561215 => ?_)
                                  obtain ⟨f561216, hf561216⟩ : ∃ z, z = upd f561186 p561118.toNatClampNeg z561212 := ⟨_, rfl⟩
                                  rw [← hf561216] at e561214
                                  have he561217 : F561213 q397400 = .inr (18, [.ref q559127, .ref q559128, .int p559129, .int p559130]) := (n561215 q397400 (rn_oa he561187 he561195)).trans he561187
                                  have he561218 : F561213 q559127 = .inr (4, [.int p560262, .ref q560264, .int p560263]) := (n561215 q559127 (rn_oa he561188 he561195)).trans he561188
                                  have he561219 : F561213 q560264 = .inl (I (.object "java/lang/Object"), n560278, .inr (.inr (.inr (.inr f560279)))) := (n561215 q560264 (rn_ref_num he561189 he561195)).trans he561189
                                  have he561220 : F561213 q560281 = .inr (17, [.ref q560290, .ref q560291, .int p560292, .int p560293]) := (n561215 q560281 (rn_oa he561190 he561195)).trans he561190
                                  have he561221 : F561213 q397399 = .inr (22, [.ref (γ 9 0), .ref (γ 9 1), .ref (γ 9 2), .ref (γ 9 3), .ref (γ 9 4), .ref (γ 9 5), .ref (γ 9 6), .ref (γ 9 7), .ref (γ 9 8), .int p397407, .int p397408, .int p397409, .int p397410, .int p397411, .int p397412, .ref (γ 9 15), .ref (γ 9 16), .ref (γ 9 17), .ref (γ 9 18), .ref (γ 9 19), .ref (γ 9 20), .ref (γ 9 21), .ref (γ 9 22), .int p397413, .int p397414, .int p397415, .int p397416, .int p397417, .ref q397405, .ref (γ 9 29), .int p397418, .ref (γ 9 31), .int p397419, .int p397420, .int p397421, .ref q397406]) := (n561215 q397399 (rn_oa he561191 he561195)).trans he561191
                                  have he561222 : F561213 q560290 = .inr (4, [.int p560842, .ref q560844, .int p560843]) := (n561215 q560290 (rn_oa he561192 he561195)).trans he561192
                                  have he561223 : F561213 q560844 = .inl (I (.object "java/lang/Object"), n561100, .inr (.inr (.inr (.inr f561101)))) := (n561215 q560844 (rn_ref_num he561193 he561195)).trans he561193
                                  have he561224 : F561213 q561103 = .inr (20, [.int p561115, .int p561116, .int p561117, .int p561118, .int p561119, .int p561120, .int p561121]) := (n561215 q561103 (rn_oa he561194 he561195)).trans he561194
                                  have he561225 : F561213 (γ 9 5) = .inl (I .int, 2000, .inl f561216) := e561214
                                  have hs561226 : rStr γ [] F397398 F561213 := rStr_put hs561196 n561215 ht397429 (by decide)
                                  have kp561227 : F561213 q397399 = F397398 q397399 := (n561215 q397399 (rn_ty htq397399 ht397429 (by decide))).trans kp561197
                                  have kp561228 : F561213 (γ 9 3) = F397398 (γ 9 3) := (n561215 (γ 9 3) (rn_ty ht397427 ht397429 (by decide))).trans kp561198
                                  obtain ⟨z561229, hz561229⟩ : ∃ z : Int32, z = g560825 + Int32.ofInt 1 := ⟨_, rfl⟩
                                  have ez561229 : z561229.toInt = g560825.toInt + 1 := gI_inc hz561229 (by decide) bg560825'' (by decide) (by decide)
                                  have bz561229 : gB z561229 1 1000000 := ⟨by omega, by omega⟩
                                  refine G_iinc (L' := [(5, .int z561229), (6, .ref q561103), (4, .ref q560281), (3, .int g560252), (2, .int g559114), (0, .ref q397399), (1, .ref q397400)]) z561229 1 dr_cX17_weigh_189 rfl hz561229.symm (Nat.le_of_ble_eq_true rfl) rfl ?_
                                  refine G_goto 74 dr_cX17_weigh_192 (by decide +kernel) ?_
                                  have hT561230 : RS D I P397397 F561213 γ el := RS_set hT561199 n561215 ht397429 (by decide) ⟨f561216, he561225⟩
                                  refine G_lv (L' := [(5, .int z561229), (4, .ref q560281), (3, .int g560252), (2, .int g559114), (0, .ref q397399), (1, .ref q397400)]) [0, 2, 3, 4, 5, 6] rfl ?_
                                  exact ih74_560830 F561213 z561229 (gB_w bz561229 (by decide) (by decide)) hT561230 hs561226 kp561227 kp561228 (mz_up ez561229 (Int.le_trans bg560825''.2 (by decide)) hm74_560830)
                            · have r561231 : o561131.toInt ≠ 0 := gj_neq hc561132 (show Int32.toInt 0 = 0 by decide)
                              have bo561131' : gB o561131 1 1 := gB_t1 bo561131 r561231
                              refine G_aload_n 5 dr_cX17_weigh_131 rfl ?_
                              refine Gp_get 5 hm560839 he560838 dr_cX17_weigh_132 (gk_X17 D I) (Nat.le_of_ble_eq_true rfl) wr_7_79 rfl ?_
                              refine G_aload 0 dr_cX17_weigh_135 rfl ?_
                              refine Gp_get 1 hm561113 he561114 dr_cX17_weigh_137 (gk_X15 D I) (Nat.le_of_ble_eq_true rfl) wr_9_182 rfl ?_
                              refine G_dup2_11 dr_cX17_weigh_140 rfl rfl ?_
                              have hm561232 : (γ 9 5) ∈ P397397 := RS_m hT560827 ht397429 (by decide)
                              obtain ⟨f561234, he561233⟩ := show rk_17 I (F560826 (γ 9 5)) from RS_o hT560827 ht397429
                              refine Gp_iald 0 hm561232 he561233 dr_cX17_weigh_141 rfl (gB_in bp561116 (by decide) (by decide)) (G_nam fun z561235 hz561235 => ?_)
                              have bz561235 : gB z561235 (-2147483648) 2147483647 := gB_any z561235
                              refine G_iload_n 3 dr_cX17_weigh_142 rfl ?_
                              refine G_iadd dr_cX17_weigh_143 (G_nam fun z561236 hz561236 => ?_)
                              have bz561236 : gB z561236 (-2147483648) 2147483647 := gB_any z561236
                              refine Gp_iast 0 hm561232 he561233 dr_cX17_weigh_144 rfl (gB_in bp561116 (by decide) (by decide)) (fun F561237 e561238 n561239 => ?_)
                              obtain ⟨f561240, hf561240⟩ : ∃ z, z = upd f561234 p561116.toNatClampNeg z561236 := ⟨_, rfl⟩
                              rw [← hf561240] at e561238
                              have he561241 : F561237 q397400 = .inr (18, [.ref q559127, .ref q559128, .int p559129, .int p559130]) := (n561239 q397400 (rn_oa he560833 he561233)).trans he560833
                              have he561242 : F561237 q559127 = .inr (4, [.int p560262, .ref q560264, .int p560263]) := (n561239 q559127 (rn_oa he560834 he561233)).trans he560834
                              have he561243 : F561237 q560264 = .inl (I (.object "java/lang/Object"), n560278, .inr (.inr (.inr (.inr f560279)))) := (n561239 q560264 (rn_ref_num he560835 he561233)).trans he560835
                              have he561244 : F561237 q560281 = .inr (17, [.ref q560290, .ref q560291, .int p560292, .int p560293]) := (n561239 q560281 (rn_oa he560836 he561233)).trans he560836
                              have he561245 : F561237 q397399 = .inr (22, [.ref (γ 9 0), .ref (γ 9 1), .ref (γ 9 2), .ref (γ 9 3), .ref (γ 9 4), .ref (γ 9 5), .ref (γ 9 6), .ref (γ 9 7), .ref (γ 9 8), .int p397407, .int p397408, .int p397409, .int p397410, .int p397411, .int p397412, .ref (γ 9 15), .ref (γ 9 16), .ref (γ 9 17), .ref (γ 9 18), .ref (γ 9 19), .ref (γ 9 20), .ref (γ 9 21), .ref (γ 9 22), .int p397413, .int p397414, .int p397415, .int p397416, .int p397417, .ref q397405, .ref (γ 9 29), .int p397418, .ref (γ 9 31), .int p397419, .int p397420, .int p397421, .ref q397406]) := (n561239 q397399 (rn_oa he560838 he561233)).trans he560838
                              have he561246 : F561237 q560290 = .inr (4, [.int p560842, .ref q560844, .int p560843]) := (n561239 q560290 (rn_oa he560841 he561233)).trans he560841
                              have he561247 : F561237 q560844 = .inl (I (.object "java/lang/Object"), n561100, .inr (.inr (.inr (.inr f561101)))) := (n561239 q560844 (rn_ref_num r561094 he561233)).trans r561094
                              have he561248 : F561237 q561103 = .inr (20, [.int p561115, .int p561116, .int p561117, .int p561118, .int p561119, .int p561120, .int p561121]) := (n561239 q561103 (rn_oa he561114 he561233)).trans he561114
                              have he561249 : F561237 (γ 9 5) = .inl (I .int, 2000, .inl f561240) := e561238
                              have hs561250 : rStr γ [] F397398 F561237 := rStr_put hs560828 n561239 ht397429 (by decide)
                              have kp561251 : F561237 q397399 = F397398 q397399 := (n561239 q397399 (rn_ty htq397399 ht397429 (by decide))).trans x560829
                              have kp561252 : F561237 (γ 9 3) = F397398 (γ 9 3) := (n561239 (γ 9 3) (rn_ty ht397427 ht397429 (by decide))).trans x560830
                              refine G_aload 0 dr_cX17_weigh_145 rfl ?_
                              have hT561253 : RS D I P397397 F561237 γ el := RS_set hT560827 n561239 ht397429 (by decide) ⟨f561240, he561249⟩
                              refine Gw_callV (As := []) (gV_ok D I) (cp_1669_Row_usesA l hl0 D I P397397 F561237 q561103 p561115 p561116 p561117 p561118 p561119 p561120 p561121 hm561113 he561248 bp561115 bp561116 bp561119 bp561120 bp561121) dr_cX17_weigh_147 ⟨wr_10_192, wr_1_39, wr_10_195, by decide, rfl, (Nat.le_of_ble_eq_true rfl), (Nat.le_of_ble_eq_true rfl)⟩ wr_10_193 wr_10_194 hm561113 he561248 rfl (show 0 + 0 ≤ 0 by first | omega | decide) (show 0 + 0 ≤ 0 by first | omega | decide) (Nat.le_of_ble_eq_true rfl) (fun r561257 w561258 dc561254 ds561255 hp561256 => ?_) (fun _ _ _ _ _ z => z.elim)
                              obtain ⟨o561259, rfl, rfl, hdc, hds, bo561259, x561260⟩ := hp561256
                              change G _ _ _ _ _ _ _ (.int o561259 :: _) _ _ _
                              refine G_widen (cs' := 0) (sl' := 0) (by omega) (by omega) ?_
                              refine G_if_eq 167 dr_cX17_weigh_150 (by decide +kernel) (fun hc561261 => ?_) (fun hc561261 => ?_)
                              · have r561262 : o561259.toInt = 0 := gj_eq hc561261 (show Int32.toInt 0 = 0 by decide)
                                have bo561259' : gB o561259 0 0 := gB_t0 r561262
                                refine G_aload 0 dr_cX17_weigh_167 rfl ?_
                                refine Gw_callV (As := []) (gV_ok D I) (cp_1693_Row_usesB l hl0 D I P397397 F561237 q561103 p561115 p561116 p561117 p561118 p561119 p561120 p561121 hm561113 he561248 bp561115 bp561116 bp561119 bp561120 bp561121) dr_cX17_weigh_169 ⟨wr_10_196, wr_1_39, wr_10_199, by decide, rfl, (Nat.le_of_ble_eq_true rfl), (Nat.le_of_ble_eq_true rfl)⟩ wr_10_197 wr_10_198 hm561113 he561248 rfl (show 0 + 0 ≤ 0 by first | omega | decide) (show 0 + 0 ≤ 0 by first | omega | decide) (Nat.le_of_ble_eq_true rfl) (fun r561266 w561267 dc561263 ds561264 hp561265 => ?_) (fun _ _ _ _ _ z => z.elim)
                                obtain ⟨o561268, rfl, rfl, hdc, hds, bo561268, x561269⟩ := hp561265
                                change G _ _ _ _ _ _ _ (.int o561268 :: _) _ _ _
                                refine G_widen (cs' := 0) (sl' := 0) (by omega) (by omega) ?_
                                refine G_if_eq 189 dr_cX17_weigh_172 (by decide +kernel) (fun hc561270 => ?_) (fun hc561270 => ?_)
                                · have r561271 : o561268.toInt = 0 := gj_eq hc561270 (show Int32.toInt 0 = 0 by decide)
                                  have bo561268' : gB o561268 0 0 := gB_t0 r561271
                                  obtain ⟨z561272, hz561272⟩ : ∃ z : Int32, z = g560825 + Int32.ofInt 1 := ⟨_, rfl⟩
                                  have ez561272 : z561272.toInt = g560825.toInt + 1 := gI_inc hz561272 (by decide) bg560825'' (by decide) (by decide)
                                  have bz561272 : gB z561272 1 1000000 := ⟨by omega, by omega⟩
                                  refine G_iinc (L' := [(5, .int z561272), (6, .ref q561103), (4, .ref q560281), (3, .int g560252), (2, .int g559114), (0, .ref q397399), (1, .ref q397400)]) z561272 1 dr_cX17_weigh_189 rfl hz561272.symm (Nat.le_of_ble_eq_true rfl) rfl ?_
                                  refine G_goto 74 dr_cX17_weigh_192 (by decide +kernel) ?_
                                  refine G_lv (L' := [(5, .int z561272), (4, .ref q560281), (3, .int g560252), (2, .int g559114), (0, .ref q397399), (1, .ref q397400)]) [0, 2, 3, 4, 5, 6] rfl ?_
                                  exact ih74_560830 F561237 z561272 (gB_w bz561272 (by decide) (by decide)) hT561253 hs561250 kp561251 kp561252 (mz_up ez561272 (Int.le_trans bg560825''.2 (by decide)) hm74_560830)
                                · have r561273 : o561268.toInt ≠ 0 := gj_neq hc561270 (show Int32.toInt 0 = 0 by decide)
                                  have bo561268' : gB o561268 1 1 := gB_t1 bo561268 r561273
                                  refine G_aload_n 5 dr_cX17_weigh_175 rfl ?_
                                  refine Gp_get 5 hm560839 he561245 dr_cX17_weigh_176 (gk_X17 D I) (Nat.le_of_ble_eq_true rfl) wr_7_79 rfl ?_
                                  refine G_aload 0 dr_cX17_weigh_179 rfl ?_
                                  refine Gp_get 3 hm561113 he561248 dr_cX17_weigh_181 (gk_X15 D I) (Nat.le_of_ble_eq_true rfl) wr_9_190 rfl ?_
                                  refine G_dup2_11 dr_cX17_weigh_184 rfl rfl ?_
                                  refine Gp_iald 0 hm561232 he561249 dr_cX17_weigh_185 rfl (gB_inr (by omega) (by omega)) (G_nam fun z561274 hz561274 => ?_)
                                  have bz561274 : gB z561274 (-2147483648) 2147483647 := gB_any z561274
                                  refine G_iload_n 3 dr_cX17_weigh_186 rfl ?_
                                  refine G_iadd dr_cX17_weigh_187 (G_nam fun z561275 hz561275 => ?_)
                                  have bz561275 : gB z561275 (-2147483648) 2147483647 := gB_any z561275
                                  refine Gp_iast 0 hm561232 he561249 dr_cX17_weigh_188 rfl (gB_inr (by omega) (by omega)) (fun F561276 e561277 n561278 => ?_)
                                  obtain ⟨f561279, hf561279⟩ : ∃ z, z = upd f561240 p561118.toNatClampNeg z561275 := ⟨_, rfl⟩
                                  rw [← hf561279] at e561277
                                  have he561280 : F561276 q397400 = .inr (18, [.ref q559127, .ref q559128, .int p559129, .int p559130]) := (n561278 q397400 (rn_oa he561241 he561249)).trans he561241
                                  have he561281 : F561276 q559127 = .inr (4, [.int p560262, .ref q560264, .int p560263]) := (n561278 q559127 (rn_oa he561242 he561249)).trans he561242
                                  have he561282 : F561276 q560264 = .inl (I (.object "java/lang/Object"), n560278, .inr (.inr (.inr (.inr f560279)))) := (n561278 q560264 (rn_ref_num he561243 he561249)).trans he561243
                                  have he561283 : F561276 q560281 = .inr (17, [.ref q560290, .ref q560291, .int p560292, .int p560293]) := (n561278 q560281 (rn_oa he561244 he561249)).trans he561244
                                  have he561284 : F561276 q397399 = .inr (22, [.ref (γ 9 0), .ref (γ 9 1), .ref (γ 9 2), .ref (γ 9 3), .ref (γ 9 4), .ref (γ 9 5), .ref (γ 9 6), .ref (γ 9 7), .ref (γ 9 8), .int p397407, .int p397408, .int p397409, .int p397410, .int p397411, .int p397412, .ref (γ 9 15), .ref (γ 9 16), .ref (γ 9 17), .ref (γ 9 18), .ref (γ 9 19), .ref (γ 9 20), .ref (γ 9 21), .ref (γ 9 22), .int p397413, .int p397414, .int p397415, .int p397416, .int p397417, .ref q397405, .ref (γ 9 29), .int p397418, .ref (γ 9 31), .int p397419, .int p397420, .int p397421, .ref q397406]) := (n561278 q397399 (rn_oa he561245 he561249)).trans he561245
                                  have he561285 : F561276 q560290 = .inr (4, [.int p560842, .ref q560844, .int p560843]) := (n561278 q560290 (rn_oa he561246 he561249)).trans he561246
                                  have he561286 : F561276 q560844 = .inl (I (.object "java/lang/Object"), n561100, .inr (.inr (.inr (.inr f561101)))) := (n561278 q560844 (rn_ref_num he561247 he561249)).trans he561247
                                  have he561287 : F561276 q561103 = .inr (20, [.int p561115, .int p561116, .int p561117, .int p561118, .int p561119, .int p561120, .int p561121]) := (n561278 q561103 (rn_oa he561248 he561249)).trans he561248
                                  have he561288 : F561276 (γ 9 5) = .inl (I .int, 2000, .inl f561279) := e561277
                                  have hs561289 : rStr γ [] F397398 F561276 := rStr_put hs561250 n561278 ht397429 (by decide)
                                  have kp561290 : F561276 q397399 = F397398 q397399 := (n561278 q397399 (rn_ty htq397399 ht397429 (by decide))).trans kp561251
                                  have kp561291 : F561276 (γ 9 3) = F397398 (γ 9 3) := (n561278 (γ 9 3) (rn_ty ht397427 ht397429 (by decide))).trans kp561252
                                  obtain ⟨z561292, hz561292⟩ : ∃ z : Int32, z = g560825 + Int32.ofInt 1 := ⟨_, rfl⟩
                                  have ez561292 : z561292.toInt = g560825.toInt + 1 := gI_inc hz561292 (by decide) bg560825'' (by decide) (by decide)
                                  have bz561292 : gB z561292 1 1000000 := ⟨by omega, by omega⟩
                                  refine G_iinc (L' := [(5, .int z561292), (6, .ref q561103), (4, .ref q560281), (3, .int g560252), (2, .int g559114), (0, .ref q397399), (1, .ref q397400)]) z561292 1 dr_cX17_weigh_189 rfl hz561292.symm (Nat.le_of_ble_eq_true rfl) rfl ?_
                                  refine G_goto 74 dr_cX17_weigh_192 (by decide +kernel) ?_
                                  have hT561293 : RS D I P397397 F561276 γ el := RS_set hT561253 n561278 ht397429 (by decide) ⟨f561279, he561288⟩
                                  refine G_lv (L' := [(5, .int z561292), (4, .ref q560281), (3, .int g560252), (2, .int g559114), (0, .ref q397399), (1, .ref q397400)]) [0, 2, 3, 4, 5, 6] rfl ?_
                                  exact ih74_560830 F561276 z561292 (gB_w bz561292 (by decide) (by decide)) hT561293 hs561289 kp561290 kp561291 (mz_up ez561292 (Int.le_trans bg560825''.2 (by decide)) hm74_560830)
                              · have r561294 : o561259.toInt ≠ 0 := gj_neq hc561261 (show Int32.toInt 0 = 0 by decide)
                                have bo561259' : gB o561259 1 1 := gB_t1 bo561259 r561294
                                refine G_aload_n 5 dr_cX17_weigh_153 rfl ?_
                                refine Gp_get 5 hm560839 he561245 dr_cX17_weigh_154 (gk_X17 D I) (Nat.le_of_ble_eq_true rfl) wr_7_79 rfl ?_
                                refine G_aload 0 dr_cX17_weigh_157 rfl ?_
                                refine Gp_get 2 hm561113 he561248 dr_cX17_weigh_159 (gk_X15 D I) (Nat.le_of_ble_eq_true rfl) wr_9_186 rfl ?_
                                refine G_dup2_11 dr_cX17_weigh_162 rfl rfl ?_
                                refine Gp_iald 0 hm561232 he561249 dr_cX17_weigh_163 rfl (gB_inr (by omega) (by omega)) (G_nam fun z561295 hz561295 => ?_)
                                have bz561295 : gB z561295 (-2147483648) 2147483647 := gB_any z561295
                                refine G_iload_n 3 dr_cX17_weigh_164 rfl ?_
                                refine G_iadd dr_cX17_weigh_165 (G_nam fun z561296 hz561296 => ?_)
                                have bz561296 : gB z561296 (-2147483648) 2147483647 := gB_any z561296
                                refine Gp_iast 0 hm561232 he561249 dr_cX17_weigh_166 rfl (gB_inr (by omega) (by omega)) (fun F561297 e561298 n561299 => ?_)
                                obtain ⟨f561300, hf561300⟩ : ∃ z, z = upd f561240 p561117.toNatClampNeg z561296 := ⟨_, rfl⟩
                                rw [← hf561300] at e561298
                                have he561301 : F561297 q397400 = .inr (18, [.ref q559127, .ref q559128, .int p559129, .int p559130]) := (n561299 q397400 (rn_oa he561241 he561249)).trans he561241
                                have he561302 : F561297 q559127 = .inr (4, [.int p560262, .ref q560264, .int p560263]) := (n561299 q559127 (rn_oa he561242 he561249)).trans he561242
                                have he561303 : F561297 q560264 = .inl (I (.object "java/lang/Object"), n560278, .inr (.inr (.inr (.inr f560279)))) := (n561299 q560264 (rn_ref_num he561243 he561249)).trans he561243
                                have he561304 : F561297 q560281 = .inr (17, [.ref q560290, .ref q560291, .int p560292, .int p560293]) := (n561299 q560281 (rn_oa he561244 he561249)).trans he561244
                                have he561305 : F561297 q397399 = .inr (22, [.ref (γ 9 0), .ref (γ 9 1), .ref (γ 9 2), .ref (γ 9 3), .ref (γ 9 4), .ref (γ 9 5), .ref (γ 9 6), .ref (γ 9 7), .ref (γ 9 8), .int p397407, .int p397408, .int p397409, .int p397410, .int p397411, .int p397412, .ref (γ 9 15), .ref (γ 9 16), .ref (γ 9 17), .ref (γ 9 18), .ref (γ 9 19), .ref (γ 9 20), .ref (γ 9 21), .ref (γ 9 22), .int p397413, .int p397414, .int p397415, .int p397416, .int p397417, .ref q397405, .ref (γ 9 29), .int p397418, .ref (γ 9 31), .int p397419, .int p397420, .int p397421, .ref q397406]) := (n561299 q397399 (rn_oa he561245 he561249)).trans he561245
                                have he561306 : F561297 q560290 = .inr (4, [.int p560842, .ref q560844, .int p560843]) := (n561299 q560290 (rn_oa he561246 he561249)).trans he561246
                                have he561307 : F561297 q560844 = .inl (I (.object "java/lang/Object"), n561100, .inr (.inr (.inr (.inr f561101)))) := (n561299 q560844 (rn_ref_num he561247 he561249)).trans he561247
                                have he561308 : F561297 q561103 = .inr (20, [.int p561115, .int p561116, .int p561117, .int p561118, .int p561119, .int p561120, .int p561121]) := (n561299 q561103 (rn_oa he561248 he561249)).trans he561248
                                have he561309 : F561297 (γ 9 5) = .inl (I .int, 2000, .inl f561300) := e561298
                                have hs561310 : rStr γ [] F397398 F561297 := rStr_put hs561250 n561299 ht397429 (by decide)
                                have kp561311 : F561297 q397399 = F397398 q397399 := (n561299 q397399 (rn_ty htq397399 ht397429 (by decide))).trans kp561251
                                have kp561312 : F561297 (γ 9 3) = F397398 (γ 9 3) := (n561299 (γ 9 3) (rn_ty ht397427 ht397429 (by decide))).trans kp561252
                                refine G_aload 0 dr_cX17_weigh_167 rfl ?_
                                have hT561313 : RS D I P397397 F561297 γ el := RS_set hT561253 n561299 ht397429 (by decide) ⟨f561300, he561309⟩
                                refine Gw_callV (As := []) (gV_ok D I) (cp_1693_Row_usesB l hl0 D I P397397 F561297 q561103 p561115 p561116 p561117 p561118 p561119 p561120 p561121 hm561113 he561308 bp561115 bp561116 bp561119 bp561120 bp561121) dr_cX17_weigh_169 ⟨wr_10_196, wr_1_39, wr_10_199, by decide, rfl, (Nat.le_of_ble_eq_true rfl), (Nat.le_of_ble_eq_true rfl)⟩ wr_10_197 wr_10_198 hm561113 he561308 rfl (show 0 + 0 ≤ 0 by first | omega | decide) (show 0 + 0 ≤ 0 by first | omega | decide) (Nat.le_of_ble_eq_true rfl) (fun r561317 w561318 dc561314 ds561315 hp561316 => ?_) (fun _ _ _ _ _ z => z.elim)
                                obtain ⟨o561319, rfl, rfl, hdc, hds, bo561319, x561320⟩ := hp561316
                                change G _ _ _ _ _ _ _ (.int o561319 :: _) _ _ _
                                refine G_widen (cs' := 0) (sl' := 0) (by omega) (by omega) ?_
                                refine G_if_eq 189 dr_cX17_weigh_172 (by decide +kernel) (fun hc561321 => ?_) (fun hc561321 => ?_)
                                · have r561322 : o561319.toInt = 0 := gj_eq hc561321 (show Int32.toInt 0 = 0 by decide)
                                  have bo561319' : gB o561319 0 0 := gB_t0 r561322
                                  obtain ⟨z561323, hz561323⟩ : ∃ z : Int32, z = g560825 + Int32.ofInt 1 := ⟨_, rfl⟩
                                  have ez561323 : z561323.toInt = g560825.toInt + 1 := gI_inc hz561323 (by decide) bg560825'' (by decide) (by decide)
                                  have bz561323 : gB z561323 1 1000000 := ⟨by omega, by omega⟩
                                  refine G_iinc (L' := [(5, .int z561323), (6, .ref q561103), (4, .ref q560281), (3, .int g560252), (2, .int g559114), (0, .ref q397399), (1, .ref q397400)]) z561323 1 dr_cX17_weigh_189 rfl hz561323.symm (Nat.le_of_ble_eq_true rfl) rfl ?_
                                  refine G_goto 74 dr_cX17_weigh_192 (by decide +kernel) ?_
                                  refine G_lv (L' := [(5, .int z561323), (4, .ref q560281), (3, .int g560252), (2, .int g559114), (0, .ref q397399), (1, .ref q397400)]) [0, 2, 3, 4, 5, 6] rfl ?_
                                  exact ih74_560830 F561297 z561323 (gB_w bz561323 (by decide) (by decide)) hT561313 hs561310 kp561311 kp561312 (mz_up ez561323 (Int.le_trans bg560825''.2 (by decide)) hm74_560830)
                                · have r561324 : o561319.toInt ≠ 0 := gj_neq hc561321 (show Int32.toInt 0 = 0 by decide)
                                  have bo561319' : gB o561319 1 1 := gB_t1 bo561319 r561324
                                  refine G_aload_n 5 dr_cX17_weigh_175 rfl ?_
                                  refine Gp_get 5 hm560839 he561305 dr_cX17_weigh_176 (gk_X17 D I) (Nat.le_of_ble_eq_true rfl) wr_7_79 rfl ?_
                                  refine G_aload 0 dr_cX17_weigh_179 rfl ?_
                                  refine Gp_get 3 hm561113 he561308 dr_cX17_weigh_181 (gk_X15 D I) (Nat.le_of_ble_eq_true rfl) wr_9_190 rfl ?_
                                  refine G_dup2_11 dr_cX17_weigh_184 rfl rfl ?_
                                  refine Gp_iald 0 hm561232 he561309 dr_cX17_weigh_185 rfl (gB_inr (by omega) (by omega)) (G_nam fun z561325 hz561325 => ?_)
                                  have bz561325 : gB z561325 (-2147483648) 2147483647 := gB_any z561325
                                  refine G_iload_n 3 dr_cX17_weigh_186 rfl ?_
                                  refine G_iadd dr_cX17_weigh_187 (G_nam fun z561326 hz561326 => ?_)
                                  have bz561326 : gB z561326 (-2147483648) 2147483647 := gB_any z561326
                                  refine Gp_iast 0 hm561232 he561309 dr_cX17_weigh_188 rfl (gB_inr (by omega) (by omega)) (fun F561327 e561328 n561329 => ?_)
                                  obtain ⟨f561330, hf561330⟩ : ∃ z, z = upd f561300 p561118.toNatClampNeg z561326 := ⟨_, rfl⟩
                                  rw [← hf561330] at e561328
                                  have he561331 : F561327 q397400 = .inr (18, [.ref q559127, .ref q559128, .int p559129, .int p559130]) := (n561329 q397400 (rn_oa he561301 he561309)).trans he561301
                                  have he561332 : F561327 q559127 = .inr (4, [.int p560262, .ref q560264, .int p560263]) := (n561329 q559127 (rn_oa he561302 he561309)).trans he561302
                                  have he561333 : F561327 q560264 = .inl (I (.object "java/lang/Object"), n560278, .inr (.inr (.inr (.inr f560279)))) := (n561329 q560264 (rn_ref_num he561303 he561309)).trans he561303
                                  have he561334 : F561327 q560281 = .inr (17, [.ref q560290, .ref q560291, .int p560292, .int p560293]) := (n561329 q560281 (rn_oa he561304 he561309)).trans he561304
                                  have he561335 : F561327 q397399 = .inr (22, [.ref (γ 9 0), .ref (γ 9 1), .ref (γ 9 2), .ref (γ 9 3), .ref (γ 9 4), .ref (γ 9 5), .ref (γ 9 6), .ref (γ 9 7), .ref (γ 9 8), .int p397407, .int p397408, .int p397409, .int p397410, .int p397411, .int p397412, .ref (γ 9 15), .ref (γ 9 16), .ref (γ 9 17), .ref (γ 9 18), .ref (γ 9 19), .ref (γ 9 20), .ref (γ 9 21), .ref (γ 9 22), .int p397413, .int p397414, .int p397415, .int p397416, .int p397417, .ref q397405, .ref (γ 9 29), .int p397418, .ref (γ 9 31), .int p397419, .int p397420, .int p397421, .ref q397406]) := (n561329 q397399 (rn_oa he561305 he561309)).trans he561305
                                  have he561336 : F561327 q560290 = .inr (4, [.int p560842, .ref q560844, .int p560843]) := (n561329 q560290 (rn_oa he561306 he561309)).trans he561306
                                  have he561337 : F561327 q560844 = .inl (I (.object "java/lang/Object"), n561100, .inr (.inr (.inr (.inr f561101)))) := (n561329 q560844 (rn_ref_num he561307 he561309)).trans he561307
                                  have he561338 : F561327 q561103 = .inr (20, [.int p561115, .int p561116, .int p561117, .int p561118, .int p561119, .int p561120, .int p561121]) := (n561329 q561103 (rn_oa he561308 he561309)).trans he561308
                                  have he561339 : F561327 (γ 9 5) = .inl (I .int, 2000, .inl f561330) := e561328
                                  have hs561340 : rStr γ [] F397398 F561327 := rStr_put hs561310 n561329 ht397429 (by decide)
                                  have kp561341 : F561327 q397399 = F397398 q397399 := (n561329 q397399 (rn_ty htq397399 ht397429 (by decide))).trans kp561311
                                  have kp561342 : F561327 (γ 9 3) = F397398 (γ 9 3) := (n561329 (γ 9 3) (rn_ty ht397427 ht397429 (by decide))).trans kp561312
                                  obtain ⟨z561343, hz561343⟩ : ∃ z : Int32, z = g560825 + Int32.ofInt 1 := ⟨_, rfl⟩
                                  have ez561343 : z561343.toInt = g560825.toInt + 1 := gI_inc hz561343 (by decide) bg560825'' (by decide) (by decide)
                                  have bz561343 : gB z561343 1 1000000 := ⟨by omega, by omega⟩
                                  refine G_iinc (L' := [(5, .int z561343), (6, .ref q561103), (4, .ref q560281), (3, .int g560252), (2, .int g559114), (0, .ref q397399), (1, .ref q397400)]) z561343 1 dr_cX17_weigh_189 rfl hz561343.symm (Nat.le_of_ble_eq_true rfl) rfl ?_
                                  refine G_goto 74 dr_cX17_weigh_192 (by decide +kernel) ?_
                                  have hT561344 : RS D I P397397 F561327 γ el := RS_set hT561313 n561329 ht397429 (by decide) ⟨f561330, he561339⟩
                                  refine G_lv (L' := [(5, .int z561343), (4, .ref q560281), (3, .int g560252), (2, .int g559114), (0, .ref q397399), (1, .ref q397400)]) [0, 2, 3, 4, 5, 6] rfl ?_
                                  exact ih74_560830 F561327 z561343 (gB_w bz561343 (by decide) (by decide)) hT561344 hs561340 kp561341 kp561342 (mz_up ez561343 (Int.le_trans bg560825''.2 (by decide)) hm74_560830)
                    exact hlp74_560830 (((1000002 : Int) - 0).toNat + 1) F559115 0 (gB_w (gBl (show Int32.toInt 0 = 0 by decide)) (by decide) (by decide)) hT559116 hs559117 x559118 x559119 (Nat.lt_succ_self _)
                  · have r561345 : g560251.toInt < z560257.toInt := gC_nle hc560258
                    have bg560251' : gB g560251 0 2147483646 := ⟨by omega, by omega⟩
                    have bz560257' : gB z560257 1 2147483647 := ⟨by omega, by omega⟩
                    refine G_iload_n 1 dr_cX17_weigh_53 rfl ?_
                    refine G_bipush 10 dr_cX17_weigh_54 (by decide +kernel) ?_
                    refine G_imul dr_cX17_weigh_56 (G_nam fun z561346 hz561346 => ?_)
                    have bz561346 : gB z561346 (-2147483648) 2147483647 := gB_any z561346
                    refine G_istore_n (L' := [(3, .int z561346), (4, .int g560251), (2, .int g559114), (0, .ref q397399), (1, .ref q397400)]) dr_cX17_weigh_57 (Nat.le_of_ble_eq_true rfl) rfl ?_
                    obtain ⟨z561347, hz561347⟩ : ∃ z : Int32, z = g560251 + Int32.ofInt 1 := ⟨_, rfl⟩
                    have ez561347 : z561347.toInt = g560251.toInt + 1 := gI_inc hz561347 (by decide) bg560251' (by decide) (by decide)
                    have bz561347 : gB z561347 1 2147483647 := ⟨by omega, by omega⟩
                    refine G_iinc (L' := [(4, .int z561347), (3, .int z561346), (2, .int g559114), (0, .ref q397399), (1, .ref q397400)]) z561347 1 dr_cX17_weigh_58 rfl hz561347.symm (Nat.le_of_ble_eq_true rfl) rfl ?_
                    refine G_goto 42 dr_cX17_weigh_61 (by decide +kernel) ?_
                    exact ih42_560252 z561347 z561346 (gB_w bz561347 (by decide) (by decide)) (mz_up ez561347 (Int.le_trans bg560251'.2 (by decide)) hm42_560252)
              exact hlp42_560252 (((2147483648 : Int) - 0).toNat + 1) 0 1 (gB_w (gBl (show Int32.toInt 0 = 0 by decide)) (by decide) (by decide)) (Nat.lt_succ_self _)
        exact hlp29_559119 (((1000001 : Int) - 0).toNat + 1) F556871 0 (gB_w (gBl (show Int32.toInt 0 = 0 by decide)) (by decide) (by decide)) hT556872 hs556873 x556874 x556875 (Nat.lt_succ_self _)
      · have r561348 : g556870.toInt < 2000 := gj_nleL hc556881 (show Int32.toInt 2000 = 2000 by decide)
        have bg556870' : gB g556870 0 1999 := ⟨by omega, by omega⟩
        refine G_aload_n 1 dr_cX17_weigh_14 rfl ?_
        refine Gp_get 5 hm556880 he556879 dr_cX17_weigh_15 (gk_X17 D I) (Nat.le_of_ble_eq_true rfl) wr_7_79 rfl ?_
        refine G_iload_n 0 dr_cX17_weigh_18 rfl ?_
        refine G_iconst 0 dr_cX17_weigh_19 (by decide +kernel) ?_
        have hm561349 : (γ 9 5) ∈ P397397 := RS_m hT556872 ht397429 (by decide)
        obtain ⟨f561351, he561350⟩ := show rk_17 I (F556871 (γ 9 5)) from RS_o hT556872 ht397429
        refine Gp_iast 0 hm561349 he561350 dr_cX17_weigh_20 rfl (gB_in bg556870' (by decide) (by decide)) (fun F561352 e561353 n561354 => ?_)
        obtain ⟨f561355, hf561355⟩ : ∃ z, z = upd f561351 g556870.toNatClampNeg 0 := ⟨_, rfl⟩
        rw [← hf561355] at e561353
        have he561356 : F561352 q397399 = .inr (22, [.ref (γ 9 0), .ref (γ 9 1), .ref (γ 9 2), .ref (γ 9 3), .ref (γ 9 4), .ref (γ 9 5), .ref (γ 9 6), .ref (γ 9 7), .ref (γ 9 8), .int p397407, .int p397408, .int p397409, .int p397410, .int p397411, .int p397412, .ref (γ 9 15), .ref (γ 9 16), .ref (γ 9 17), .ref (γ 9 18), .ref (γ 9 19), .ref (γ 9 20), .ref (γ 9 21), .ref (γ 9 22), .int p397413, .int p397414, .int p397415, .int p397416, .int p397417, .ref q397405, .ref (γ 9 29), .int p397418, .ref (γ 9 31), .int p397419, .int p397420, .int p397421, .ref q397406]) := (n561354 q397399 (rn_oa he556879 he561350)).trans he556879
        have he561357 : F561352 (γ 9 5) = .inl (I .int, 2000, .inl f561355) := e561353
        have hs561358 : rStr γ [] F397398 F561352 := rStr_put hs556873 n561354 ht397429 (by decide)
        have kp561359 : F561352 q397399 = F397398 q397399 := (n561354 q397399 (rn_ty htq397399 ht397429 (by decide))).trans x556874
        have kp561360 : F561352 (γ 9 3) = F397398 (γ 9 3) := (n561354 (γ 9 3) (rn_ty ht397427 ht397429 (by decide))).trans x556875
        obtain ⟨z561361, hz561361⟩ : ∃ z : Int32, z = g556870 + Int32.ofInt 1 := ⟨_, rfl⟩
        have ez561361 : z561361.toInt = g556870.toInt + 1 := gI_inc hz561361 (by decide) bg556870' (by decide) (by decide)
        have bz561361 : gB z561361 1 2000 := ⟨by omega, by omega⟩
        refine G_iinc (L' := [(2, .int z561361), (0, .ref q397399), (1, .ref q397400)]) z561361 0 dr_cX17_weigh_21 rfl hz561361.symm (Nat.le_of_ble_eq_true rfl) rfl ?_
        refine G_goto 7 dr_cX17_weigh_24 (by decide +kernel) ?_
        have hT561362 : RS D I P397397 F561352 γ el := RS_set hT556872 n561354 ht397429 (by decide) ⟨f561355, he561357⟩
        exact ih7_556875 F561352 z561361 (gB_w bz561361 (by decide) (by decide)) hT561362 hs561358 kp561359 kp561360 (mz_up ez561361 (Int.le_trans bg556870'.2 (by decide)) hm7_556875)
  exact hlp7_556875 (((2001 : Int) - 0).toNat + 1) F518335 0 (gB_w (gBl (show Int32.toInt 0 = 0 by decide)) (by decide) (by decide)) hT518336 hs518338 kp518339 kp518340 (Nat.lt_succ_self _)
