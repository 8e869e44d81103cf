theorem dr_cX17_weigh_0 : decode cX17_weigh 0 = .ok (.aload_n 0, 1) := by decide +kernel
theorem dr_cX17_weigh_1 : decode cX17_weigh 1 = .ok (.aload_n 1, 1) := by decide +kernel
theorem dr_cX17_weigh_2 : decode cX17_weigh 2 = .ok (.invokevirtual 170, 3) := by decide +kernel
theorem wr_11_37 : (Jvm.Cond.methodLink "SpillForgeModel" (170 : Nat) ({ cls := "SpillForgeModel", name := "findDepth", desc := "(LSpillForgeModel$Code;)V" } : Jvm.MethodName)) ∈ gw := gw_11 37 rfl rfl
theorem wr_11_40 : (Jvm.Cond.code ({ cls := "SpillForgeModel", name := "findDepth", desc := "(LSpillForgeModel$Code;)V" } : Jvm.MethodName) prog_14_method_14_code (13 : Nat) (Option.none : Option Jvm.ClassFile.FieldType)) ∈ gw := gw_11 40 rfl rfl
theorem wr_11_39 : (Jvm.Cond.instanceMethod ({ cls := "SpillForgeModel", name := "findDepth", desc := "(LSpillForgeModel$Code;)V" } : Jvm.MethodName)) ∈ gw := gw_11 39 rfl rfl
theorem wr_p_105 : Cond.selects "SpillForgeModel" ⟨"SpillForgeModel", "findDepth", "(LSpillForgeModel$Code;)V"⟩ ⟨"SpillForgeModel", "findDepth", "(LSpillForgeModel$Code;)V"⟩ ∈ gw := gw_p _ 105 rfl rfl rfl
theorem dr_cX17_weigh_5 : decode cX17_weigh 5 = .ok (.iconst 0, 1) := by decide +kernel
theorem dr_cX17_weigh_6 : decode cX17_weigh 6 = .ok (.istore_n 2, 1) := by decide +kernel
theorem dr_cX17_weigh_7 : decode cX17_weigh 7 = .ok (.iload_n 2, 1) := by decide +kernel
theorem dr_cX17_weigh_8 : decode cX17_weigh 8 = .ok (.sipush 2000, 3) := by decide +kernel
theorem dr_cX17_weigh_11 : decode cX17_weigh 11 = .ok (.if_icmp .ge 16, 3) := by decide +kernel
theorem dr_cX17_weigh_27 : decode cX17_weigh 27 = .ok (.iconst 0, 1) := by decide +kernel
theorem dr_cX17_weigh_28 : decode cX17_weigh 28 = .ok (.istore_n 2, 1) := by decide +kernel
theorem dr_cX17_weigh_29 : decode cX17_weigh 29 = .ok (.iload_n 2, 1) := by decide +kernel
theorem dr_cX17_weigh_30 : decode cX17_weigh 30 = .ok (.aload_n 1, 1) := by decide +kernel
theorem dr_cX17_weigh_31 : decode cX17_weigh 31 = .ok (.invokevirtual 96, 3) := by decide +kernel
theorem dr_cX17_weigh_34 : decode cX17_weigh 34 = .ok (.if_icmp .ge 167, 3) := by decide +kernel
theorem dr_cX17_weigh_201 : decode cX17_weigh 201 = .ok (.return_, 1) := by decide +kernel
theorem dr_cX17_weigh_37 : decode cX17_weigh 37 = .ok (.iconst 1, 1) := by decide +kernel
theorem dr_cX17_weigh_38 : decode cX17_weigh 38 = .ok (.istore_n 3, 1) := by decide +kernel
theorem dr_cX17_weigh_39 : decode cX17_weigh 39 = .ok (.iconst 0, 1) := by decide +kernel
theorem dr_cX17_weigh_40 : decode cX17_weigh 40 = .ok (.istore 4, 2) := by decide +kernel
theorem dr_cX17_weigh_42 : decode cX17_weigh 42 = .ok (.iload 4, 2) := by decide +kernel
theorem dr_cX17_weigh_44 : decode cX17_weigh 44 = .ok (.aload_n 0, 1) := by decide +kernel
theorem dr_cX17_weigh_45 : decode cX17_weigh 45 = .ok (.getfield 152, 3) := by decide +kernel
theorem dr_cX17_weigh_48 : decode cX17_weigh 48 = .ok (.iload_n 2, 1) := by decide +kernel
theorem dr_cX17_weigh_49 : decode cX17_weigh 49 = .ok (.iaload, 1) := by decide +kernel
theorem dr_cX17_weigh_50 : decode cX17_weigh 50 = .ok (.if_icmp .ge 14, 3) := by decide +kernel
theorem dr_cX17_weigh_64 : decode cX17_weigh 64 = .ok (.aload_n 1, 1) := by decide +kernel
theorem dr_cX17_weigh_65 : decode cX17_weigh 65 = .ok (.iload_n 2, 1) := by decide +kernel
theorem dr_cX17_weigh_66 : decode cX17_weigh 66 = .ok (.invokevirtual 101, 3) := by decide +kernel
theorem dr_cX17_weigh_69 : decode cX17_weigh 69 = .ok (.astore 4, 2) := by decide +kernel
theorem dr_cX17_weigh_71 : decode cX17_weigh 71 = .ok (.iconst 0, 1) := by decide +kernel
theorem dr_cX17_weigh_72 : decode cX17_weigh 72 = .ok (.istore 5, 2) := by decide +kernel
theorem dr_cX17_weigh_74 : decode cX17_weigh 74 = .ok (.iload 5, 2) := by decide +kernel
theorem dr_cX17_weigh_76 : decode cX17_weigh 76 = .ok (.aload 4, 2) := by decide +kernel
theorem dr_cX17_weigh_78 : decode cX17_weigh 78 = .ok (.getfield 117, 3) := by decide +kernel
theorem dr_cX17_weigh_81 : decode cX17_weigh 81 = .ok (.invokevirtual 121, 3) := by decide +kernel
theorem dr_cX17_weigh_84 : decode cX17_weigh 84 = .ok (.if_icmp .gt 111, 3) := by decide +kernel
theorem dr_cX17_weigh_195 : decode cX17_weigh 195 = .ok (.iinc 2 1, 3) := by decide +kernel
theorem dr_cX17_weigh_198 : decode cX17_weigh 198 = .ok (.goto (-169), 3) := by decide +kernel
theorem dr_cX17_weigh_87 : decode cX17_weigh 87 = .ok (.iload 5, 2) := by decide +kernel
theorem dr_cX17_weigh_89 : decode cX17_weigh 89 = .ok (.aload 4, 2) := by decide +kernel
theorem dr_cX17_weigh_91 : decode cX17_weigh 91 = .ok (.getfield 117, 3) := by decide +kernel
theorem dr_cX17_weigh_94 : decode cX17_weigh 94 = .ok (.invokevirtual 121, 3) := by decide +kernel
theorem dr_cX17_weigh_97 : decode cX17_weigh 97 = .ok (.if_icmp .ge 19, 3) := by decide +kernel
theorem dr_cX17_weigh_116 : decode cX17_weigh 116 = .ok (.aload 4, 2) := by decide +kernel
theorem dr_cX17_weigh_118 : decode cX17_weigh 118 = .ok (.getfield 109, 3) := by decide +kernel
theorem dr_cX17_weigh_121 : decode cX17_weigh 121 = .ok (.astore 6, 2) := by decide +kernel
theorem dr_cX17_weigh_123 : decode cX17_weigh 123 = .ok (.aload 6, 2) := by decide +kernel
theorem dr_cX17_weigh_125 : decode cX17_weigh 125 = .ok (.invokevirtual 48, 3) := by decide +kernel
theorem dr_cX17_weigh_128 : decode cX17_weigh 128 = .ok (.ifCond .eq 17, 3) := by decide +kernel
theorem dr_cX17_weigh_145 : decode cX17_weigh 145 = .ok (.aload 6, 2) := by decide +kernel
theorem dr_cX17_weigh_147 : decode cX17_weigh 147 = .ok (.invokevirtual 70, 3) := by decide +kernel
theorem dr_cX17_weigh_150 : decode cX17_weigh 150 = .ok (.ifCond .eq 17, 3) := by decide +kernel
theorem dr_cX17_weigh_167 : decode cX17_weigh 167 = .ok (.aload 6, 2) := by decide +kernel
theorem dr_cX17_weigh_169 : decode cX17_weigh 169 = .ok (.invokevirtual 76, 3) := by decide +kernel
theorem dr_cX17_weigh_172 : decode cX17_weigh 172 = .ok (.ifCond .eq 17, 3) := by decide +kernel
theorem dr_cX17_weigh_189 : decode cX17_weigh 189 = .ok (.iinc 5 1, 3) := by decide +kernel
theorem dr_cX17_weigh_192 : decode cX17_weigh 192 = .ok (.goto (-118), 3) := by decide +kernel
theorem dr_cX17_weigh_175 : decode cX17_weigh 175 = .ok (.aload_n 0, 1) := by decide +kernel
theorem dr_cX17_weigh_176 : decode cX17_weigh 176 = .ok (.getfield 174, 3) := by decide +kernel
theorem dr_cX17_weigh_179 : decode cX17_weigh 179 = .ok (.aload 6, 2) := by decide +kernel
theorem dr_cX17_weigh_181 : decode cX17_weigh 181 = .ok (.getfield 79, 3) := by decide +kernel
theorem dr_cX17_weigh_184 : decode cX17_weigh 184 = .ok (.dup2, 1) := by decide +kernel
theorem dr_cX17_weigh_185 : decode cX17_weigh 185 = .ok (.iaload, 1) := by decide +kernel
theorem dr_cX17_weigh_186 : decode cX17_weigh 186 = .ok (.iload_n 3, 1) := by decide +kernel
theorem dr_cX17_weigh_187 : decode cX17_weigh 187 = .ok (.iadd, 1) := by decide +kernel
theorem dr_cX17_weigh_188 : decode cX17_weigh 188 = .ok (.iastore, 1) := by decide +kernel
theorem dr_cX17_weigh_153 : decode cX17_weigh 153 = .ok (.aload_n 0, 1) := by decide +kernel
theorem dr_cX17_weigh_154 : decode cX17_weigh 154 = .ok (.getfield 174, 3) := by decide +kernel
theorem dr_cX17_weigh_157 : decode cX17_weigh 157 = .ok (.aload 6, 2) := by decide +kernel
theorem dr_cX17_weigh_159 : decode cX17_weigh 159 = .ok (.getfield 73, 3) := by decide +kernel
theorem dr_cX17_weigh_162 : decode cX17_weigh 162 = .ok (.dup2, 1) := by decide +kernel
theorem dr_cX17_weigh_163 : decode cX17_weigh 163 = .ok (.iaload, 1) := by decide +kernel
theorem dr_cX17_weigh_164 : decode cX17_weigh 164 = .ok (.iload_n 3, 1) := by decide +kernel
theorem dr_cX17_weigh_165 : decode cX17_weigh 165 = .ok (.iadd, 1) := by decide +kernel
theorem dr_cX17_weigh_166 : decode cX17_weigh 166 = .ok (.iastore, 1) := by decide +kernel
theorem dr_cX17_weigh_131 : decode cX17_weigh 131 = .ok (.aload_n 0, 1) := by decide +kernel
theorem dr_cX17_weigh_132 : decode cX17_weigh 132 = .ok (.getfield 174, 3) := by decide +kernel
theorem dr_cX17_weigh_135 : decode cX17_weigh 135 = .ok (.aload 6, 2) := by decide +kernel
theorem dr_cX17_weigh_137 : decode cX17_weigh 137 = .ok (.getfield 52, 3) := by decide +kernel
theorem dr_cX17_weigh_140 : decode cX17_weigh 140 = .ok (.dup2, 1) := by decide +kernel
theorem dr_cX17_weigh_141 : decode cX17_weigh 141 = .ok (.iaload, 1) := by decide +kernel
theorem dr_cX17_weigh_142 : decode cX17_weigh 142 = .ok (.iload_n 3, 1) := by decide +kernel
theorem dr_cX17_weigh_143 : decode cX17_weigh 143 = .ok (.iadd, 1) := by decide +kernel
theorem dr_cX17_weigh_144 : decode cX17_weigh 144 = .ok (.iastore, 1) := by decide +kernel
theorem dr_cX17_weigh_100 : decode cX17_weigh 100 = .ok (.aload 4, 2) := by decide +kernel
theorem dr_cX17_weigh_102 : decode cX17_weigh 102 = .ok (.getfield 117, 3) := by decide +kernel
theorem dr_cX17_weigh_105 : decode cX17_weigh 105 = .ok (.iload 5, 2) := by decide +kernel
theorem dr_cX17_weigh_107 : decode cX17_weigh 107 = .ok (.invokevirtual 124, 3) := by decide +kernel
theorem dr_cX17_weigh_110 : decode cX17_weigh 110 = .ok (.checkcast 40, 3) := by decide +kernel
theorem dr_cX17_weigh_113 : decode cX17_weigh 113 = .ok (.goto 8, 3) := by decide +kernel
theorem dr_cX17_weigh_53 : decode cX17_weigh 53 = .ok (.iload_n 3, 1) := by decide +kernel
theorem dr_cX17_weigh_54 : decode cX17_weigh 54 = .ok (.bipush 10, 2) := by decide +kernel
theorem dr_cX17_weigh_56 : decode cX17_weigh 56 = .ok (.imul, 1) := by decide +kernel
theorem dr_cX17_weigh_57 : decode cX17_weigh 57 = .ok (.istore_n 3, 1) := by decide +kernel
theorem dr_cX17_weigh_58 : decode cX17_weigh 58 = .ok (.iinc 4 1, 3) := by decide +kernel
theorem dr_cX17_weigh_61 : decode cX17_weigh 61 = .ok (.goto (-19), 3) := by decide +kernel
theorem dr_cX17_weigh_14 : decode cX17_weigh 14 = .ok (.aload_n 0, 1) := by decide +kernel
theorem dr_cX17_weigh_15 : decode cX17_weigh 15 = .ok (.getfield 174, 3) := by decide +kernel
theorem dr_cX17_weigh_18 : decode cX17_weigh 18 = .ok (.iload_n 2, 1) := by decide +kernel
theorem dr_cX17_weigh_19 : decode cX17_weigh 19 = .ok (.iconst 0, 1) := by decide +kernel
theorem dr_cX17_weigh_20 : decode cX17_weigh 20 = .ok (.iastore, 1) := by decide +kernel
theorem dr_cX17_weigh_21 : decode cX17_weigh 21 = .ok (.iinc 2 1, 3) := by decide +kernel
theorem dr_cX17_weigh_24 : decode cX17_weigh 24 = .ok (.goto (-17), 3) := by decide +kernel
abbrev ky_410228_SpillForgeModel_weigh : gKey := (cX17_weigh, 7, "SpillForgeModel", none, [], "weigh", fun _ _ => True)
def pt_410228_SpillForgeModel_weigh (D : va_G) (I : FieldType → ClassId) (γ el : Nat → Nat → Nat) (P410223 : List Nat) (F410224 : Nat → va_E) (q410225 : Nat) (q410226 : Nat) : Option Value → va_W → Nat → Nat → Prop := fun r w dc ds => ∃ (F580875 : Nat → va_E), r = none ∧ w = va_pl P410223 F580875 ∧ RS D I P410223 F580875 γ el ∧ rStr γ [] F410224 F580875 ∧ dc ≤ 0 ∧ ds ≤ 0 ∧ (F580875 q410225 = F410224 q410225) ∧ (F580875 (γ 9 3) = F410224 (γ 9 3)) ∧ tr_RModel_weigh D I γ el P410223 F410224 q410225 q410226 F580875
set_option maxRecDepth 100000 in
set_option maxHeartbeats 4000000 in
theorem ct_410228_SpillForgeModel_weigh (l : Launch) (hl0 : l.stackTraces = false) (D : va_G) (I : FieldType → ClassId) (γ el : Nat → Nat → Nat) (P410223 : List Nat) (F410224 : Nat → va_E) (q410225 : Nat) (q410226 : Nat) (hT : RS D I P410223 F410224 γ el) (htq410225 : rKd γ q410225 10) (htq410226 : rKd γ q410226 9) (x410227 : 0 < γ 6 (γ 1 q410226)) : CtA (gV D I) l yX17_weigh cX17_weigh 7 none 6 144 0 0 [.ref q410225, .ref q410226] (va_pl P410223 F410224) (pt_410228_SpillForgeModel_weigh D I γ el P410223 F410224 q410225 q410226) gNA := by
  refine CtA_of hl0 (by decide) (Nat.le_of_ble_eq_true rfl) ?_
  have hm410229 : q410225 ∈ P410223 := RS_m hT htq410225 (by decide)
  refine rk10_e (show rk_10 γ (F410224 q410225) from RS_o hT htq410225) (fun q410231 q410232 p410233 p410234 p410235 p410236 p410237 p410238 p410239 p410240 p410241 p410242 p410243 p410244 p410245 p410246 p410247 he410230 hB410274 ht410248 ht410249 ht410250 ht410251 ht410252 ht410253 ht410254 ht410255 ht410256 ht410257 ht410258 ht410259 ht410260 ht410261 ht410262 ht410263 ht410264 ht410265 ht410266 ht410267 ht410268 ht410269 ht410270 ht410271 hB410275 => ?_)
  refine G_aload_n 0 dr_cX17_weigh_0 rfl ?_
  refine G_aload_n 1 dr_cX17_weigh_1 rfl ?_
  refine Gw_callV (As := [.ref q410226]) (gV_ok D I) (ct_410281_SpillForgeModel_findDepth l hl0 D I γ el P410223 F410224 q410225 q410226 hT htq410225 htq410226 (by omega)) dr_cX17_weigh_2 ⟨wr_11_37, wr_1_14, wr_11_40, by decide, rfl, (Nat.le_of_ble_eq_true rfl), (Nat.le_of_ble_eq_true rfl)⟩ wr_11_39 wr_p_105 hm410229 he410230 rfl (show 0 + 0 ≤ 0 by first | omega | decide) (show 0 + 0 ≤ 0 by first | omega | decide) (Nat.le_of_ble_eq_true rfl) (fun r536420 w536421 dc536417 ds536418 hp536419 => ?_) (fun _ _ _ _ _ z => z.elim)
  obtain ⟨F536425, rfl, rfl, hT536426, hs536427, hdc, hds, x536422, x536423, ht536424⟩ := hp536419
  have hs536428 : rStr γ [] F410224 F536425 := rStr_tr (rStr_rf (γ := γ) (W := []) (F := F410224)) hs536427
  have kp536429 : F536425 q410225 = F410224 q410225 := x536422
  have kp536430 : F536425 (γ 9 3) = F410224 (γ 9 3) := x536423
  have he536431 : F536425 q410225 = .inr (22, [.ref (γ 9 0), .ref (γ 9 1), .ref (γ 9 2), .ref (γ 9 3), .ref (γ 9 4), .ref (γ 9 5), .ref (γ 9 6), .ref (γ 9 7), .ref (γ 9 8), .int p410233, .int p410234, .int p410235, .int p410236, .int p410237, .int p410238, .ref (γ 9 15), .ref (γ 9 16), .ref (γ 9 17), .ref (γ 9 18), .ref (γ 9 19), .ref (γ 9 20), .ref (γ 9 21), .ref (γ 9 22), .int p410239, .int p410240, .int p410241, .int p410242, .int p410243, .ref q410231, .ref (γ 9 29), .int p410244, .ref (γ 9 31), .int p410245, .int p410246, .int p410247, .ref q410232]) := (x536422).trans he410230
  change G _ _ _ _ _ _ _ _ _ _ _
  refine G_widen (cs' := 0) (sl' := 0) (by omega) (by omega) ?_
  refine G_iconst 0 dr_cX17_weigh_5 (by decide +kernel) ?_
  refine G_istore_n (L' := [(2, .int 0), (0, .ref q410225), (1, .ref q410226)]) dr_cX17_weigh_6 (Nat.le_of_ble_eq_true rfl) rfl ?_
  have hlp7_576185 : ∀ (n7_576185 : Nat) (F576181 : Nat → va_E) (g576180 : Int32), gB g576180 0 2000 → RS D I P410223 F576181 γ el → rStr γ [] F410224 F576181 → (F576181 q410225 = F410224 q410225) → (F576181 (γ 9 3) = F410224 (γ 9 3)) → (∀ (k : Nat) (e1 : Nat → va_E), tl_RModel_weigh_7 D I γ el P410223 F410224 q410225 F576181 g576180 k e1 → tl_RModel_weigh_7 D I γ el P410223 F410224 q410225 F536425 (0 : Int32) k e1) → ((2001 : Int) - g576180.toInt).toNat < n7_576185 → G (gV D I) l (gRm 6 144 0 0) (gMA (gV D I) (pt_410228_SpillForgeModel_weigh D I γ el P410223 F410224 q410225 q410226) gNA 0 0) ky_410228_SpillForgeModel_weigh 7 [(2, .int g576180), (0, .ref q410225), (1, .ref q410226)] [] (va_pl P410223 F576181) 0 0 := by
    intro n7_576185
    induction n7_576185 with
    | zero => intro F576181 g576180 bg576180 hT576182 hs576183 x576184 x576185 kt7_576186 hm7_576185; exact absurd hm7_576185 (Nat.not_lt_zero _)
    | succ n7_576185 ih7_576185 =>
      intro F576181 g576180 bg576180 hT576182 hs576183 x576184 x576185 kt7_576186 hm7_576185
      have hs576187 : rStr γ [] F536425 F576181 := fun b h0 hb hw => (hs576183 b h0 hb hw).trans (hs536428 b h0 hb hw).symm
      have hs576188 : rStr γ [] F410224 F576181 := rStr_tr hs536428 hs576187
      have he576189 : F576181 q410225 = .inr (22, [.ref (γ 9 0), .ref (γ 9 1), .ref (γ 9 2), .ref (γ 9 3), .ref (γ 9 4), .ref (γ 9 5), .ref (γ 9 6), .ref (γ 9 7), .ref (γ 9 8), .int p410233, .int p410234, .int p410235, .int p410236, .int p410237, .int p410238, .ref (γ 9 15), .ref (γ 9 16), .ref (γ 9 17), .ref (γ 9 18), .ref (γ 9 19), .ref (γ 9 20), .ref (γ 9 21), .ref (γ 9 22), .int p410239, .int p410240, .int p410241, .int p410242, .int p410243, .ref q410231, .ref (γ 9 29), .int p410244, .ref (γ 9 31), .int p410245, .int p410246, .int p410247, .ref q410232]) := x576184.trans he410230
      have hm576190 : q410225 ∈ P410223 := RS_m hT576182 htq410225 (by decide)
      refine G_iload_n 0 dr_cX17_weigh_7 rfl ?_
      refine G_sipush 2000 dr_cX17_weigh_8 (by decide +kernel) ?_
      refine G_icmp_ge 27 dr_cX17_weigh_11 (by decide +kernel) (fun hc576191 => ?_) (fun hc576191 => ?_)
      · have r576192 : 2000 ≤ g576180.toInt := gj_leL hc576191 (show Int32.toInt 2000 = 2000 by decide)
        have bg576180' : gB g576180 2000 2000 := ⟨by omega, by omega⟩
        have hx576193 : tl_RModel_weigh_7 D I γ el P410223 F410224 q410225 F536425 (0 : Int32) 27 F576181 := kt7_576186 27 F576181 (fun R c1 c2 => c1 F576181 g576180 bg576180 hT576182 hs576183 x576184 x576185 r576192)
        refine G_iconst 0 dr_cX17_weigh_27 (by decide +kernel) ?_
        refine G_istore_n (L' := [(2, .int 0), (0, .ref q410225), (1, .ref q410226)]) dr_cX17_weigh_28 (Nat.le_of_ble_eq_true rfl) rfl ?_
        have hlp29_578500 : ∀ (n29_578500 : Nat) (F578496 : Nat → va_E) (g578495 : Int32), gB g578495 0 1000000 → RS D I P410223 F578496 γ el → rStr γ [] F410224 F578496 → (F578496 q410225 = F410224 q410225) → (F578496 (γ 9 3) = F410224 (γ 9 3)) → (∀ (k : Nat) (e1 : Nat → va_E), tl_RModel_weigh_29 D I γ el P410223 F410224 q410225 q410226 F578496 g578495 k e1 → tl_RModel_weigh_29 D I γ el P410223 F410224 q410225 q410226 F576181 (0 : Int32) k e1) → ((1000001 : Int) - g578495.toInt).toNat < n29_578500 → G (gV D I) l (gRm 6 144 0 0) (gMA (gV D I) (pt_410228_SpillForgeModel_weigh D I γ el P410223 F410224 q410225 q410226) gNA 0 0) ky_410228_SpillForgeModel_weigh 29 [(2, .int g578495), (0, .ref q410225), (1, .ref q410226)] [] (va_pl P410223 F578496) 0 0 := by
          intro n29_578500
          induction n29_578500 with
          | zero => intro F578496 g578495 bg578495 hT578497 hs578498 x578499 x578500 kt29_578501 hm29_578500; exact absurd hm29_578500 (Nat.not_lt_zero _)
          | succ n29_578500 ih29_578500 =>
            intro F578496 g578495 bg578495 hT578497 hs578498 x578499 x578500 kt29_578501 hm29_578500
            have hs578502 : rStr γ [] F576181 F578496 := fun b h0 hb hw => (hs578498 b h0 hb hw).trans (hs576183 b h0 hb hw).symm
            have hs578503 : rStr γ [] F410224 F578496 := rStr_tr hs576183 hs578502
            have he578504 : F578496 q410225 = .inr (22, [.ref (γ 9 0), .ref (γ 9 1), .ref (γ 9 2), .ref (γ 9 3), .ref (γ 9 4), .ref (γ 9 5), .ref (γ 9 6), .ref (γ 9 7), .ref (γ 9 8), .int p410233, .int p410234, .int p410235, .int p410236, .int p410237, .int p410238, .ref (γ 9 15), .ref (γ 9 16), .ref (γ 9 17), .ref (γ 9 18), .ref (γ 9 19), .ref (γ 9 20), .ref (γ 9 21), .ref (γ 9 22), .int p410239, .int p410240, .int p410241, .int p410242, .int p410243, .ref q410231, .ref (γ 9 29), .int p410244, .ref (γ 9 31), .int p410245, .int p410246, .int p410247, .ref q410232]) := x578499.trans he410230
            have hm578505 : q410225 ∈ P410223 := RS_m hT578497 htq410225 (by decide)
            refine G_iload_n 0 dr_cX17_weigh_29 rfl ?_
            refine G_aload_n 2 dr_cX17_weigh_30 rfl ?_
            have hm578506 : q410226 ∈ P410223 := RS_m hT578497 htq410226 (by decide)
            obtain ⟨q578508, q578509, p578510, p578511, he578507, ht578527, ht578512, ht578513, ht578514, ht578515, r578516, r578517, r578518, r578519, r578520, r578521, r578522, r578523, r578524, r578525, r578526⟩ := show rk_9 γ el q410226 (F578496 q410226) from RS_o hT578497 htq410226
            have bp578510 : gB p578510 0 1000000 := ⟨by omega, by omega⟩
            have bp578511 : gB p578511 0 1000000 := ⟨by omega, by omega⟩
            have fq578528 : fI (F578496 q410226) 3 = p578511 := by rw [he578507]; rfl
            refine Gw_callV (As := []) (gV_ok D I) (cp_12780_Code_size l hl0 D I P410223 F578496 q410226 q578508 q578509 p578510 p578511 hm578506 he578507) dr_cX17_weigh_31 ⟨wr_10_160, wr_1_15, wr_9_131, by decide, rfl, (Nat.le_of_ble_eq_true rfl), (Nat.le_of_ble_eq_true rfl)⟩ wr_9_129 wr_9_130 hm578506 he578507 rfl (show 0 + 0 ≤ 0 by first | omega | decide) (show 0 + 0 ≤ 0 by first | omega | decide) (Nat.le_of_ble_eq_true rfl) (fun r578532 w578533 dc578529 ds578530 hp578531 => ?_) (fun _ _ _ _ _ z => z.elim)
            obtain ⟨rfl, rfl, hdc, hds⟩ := hp578531
            change G _ _ _ _ _ _ _ (.int p578511 :: _) _ _ _
            refine G_widen (cs' := 0) (sl' := 0) (by omega) (by omega) ?_
            refine G_icmp_ge 201 dr_cX17_weigh_34 (by decide +kernel) (fun hc578534 => ?_) (fun hc578534 => ?_)
            · have r578535 : p578511.toInt ≤ g578495.toInt := gC_le hc578534
              have hx578536 : tl_RModel_weigh_29 D I γ el P410223 F410224 q410225 q410226 F576181 (0 : Int32) 201 F578496 := kt29_578501 201 F578496 (fun R c1 c2 => c1 F578496 g578495 p578511 bg578495 hT578497 hs578498 x578499 x578500 fq578528 r578535)
              exact G_vretA dr_cX17_weigh_201 rfl (Nat.le_of_ble_eq_true rfl) (Nat.le_of_ble_eq_true rfl) ⟨F578496, rfl, rfl, hT578497, hs578498, (Nat.le_of_ble_eq_true rfl), (Nat.le_of_ble_eq_true rfl), x578499, x578500, (fun R c1 => c1 F536425 F576181 F578496 hT536426 hs536427 x536422 x536423 ht536424 hx576193 hx578536)⟩
            · have r578537 : g578495.toInt < p578511.toInt := gC_nle hc578534
              have bg578495' : gB g578495 0 999999 := ⟨by omega, by omega⟩
              have bp578511' : gB p578511 1 1000000 := ⟨by omega, by omega⟩
              refine G_iconst 1 dr_cX17_weigh_37 (by decide +kernel) ?_
              refine G_istore_n (L' := [(3, .int 1), (2, .int g578495), (0, .ref q410225), (1, .ref q410226)]) dr_cX17_weigh_38 (Nat.le_of_ble_eq_true rfl) rfl ?_
              refine G_iconst 0 dr_cX17_weigh_39 (by decide +kernel) ?_
              refine G_istore (L' := [(4, .int 0), (3, .int 1), (2, .int g578495), (0, .ref q410225), (1, .ref q410226)]) dr_cX17_weigh_40 (Nat.le_of_ble_eq_true rfl) rfl ?_
              have hlp42_579670 : ∀ (n42_579670 : Nat) (g579669 : Int32) (g579670 : Int32), gB g579669 0 2147483647 → (∀ (k : Nat) (e1 : Int32), tl_RModel_weigh_42 D I γ el F578496 q410225 g578495 g579669 g579670 k e1 → tl_RModel_weigh_42 D I γ el F578496 q410225 g578495 (0 : Int32) (1 : Int32) k e1) → ((2147483648 : Int) - g579669.toInt).toNat < n42_579670 → G (gV D I) l (gRm 6 144 0 0) (gMA (gV D I) (pt_410228_SpillForgeModel_weigh D I γ el P410223 F410224 q410225 q410226) gNA 0 0) ky_410228_SpillForgeModel_weigh 42 [(4, .int g579669), (3, .int g579670), (2, .int g578495), (0, .ref q410225), (1, .ref q410226)] [] (va_pl P410223 F578496) 0 0 := by
                intro n42_579670
                induction n42_579670 with
                | zero => intro g579669 g579670 bg579669 kt42_579671 hm42_579670; exact absurd hm42_579670 (Nat.not_lt_zero _)
                | succ n42_579670 ih42_579670 =>
                  intro g579669 g579670 bg579669 kt42_579671 hm42_579670
                  have bg579670 := gB_any g579670
                  refine G_iload 0 dr_cX17_weigh_42 rfl ?_
                  refine G_aload_n 3 dr_cX17_weigh_44 rfl ?_
                  have fq579672 : fR (F578496 q410225) 4 = (γ 9 4) := by rw [he578504]; rfl
                  refine Gp_get 4 hm578505 he578504 dr_cX17_weigh_45 (gk_X17 D I) (Nat.le_of_ble_eq_true rfl) wr_7_78 rfl ?_
                  refine G_iload_n 2 dr_cX17_weigh_48 rfl ?_
                  have hm579673 : (γ 9 4) ∈ P410223 := RS_m hT578497 ht410254 (by decide)
                  obtain ⟨f579675, he579674⟩ := show rk_16 I (F578496 (γ 9 4)) from RS_o hT578497 ht410254
                  refine Gp_iald 0 hm579673 he579674 dr_cX17_weigh_49 rfl (gB_inr (by omega) (by omega)) (G_nam fun z579676 hz579676 => ?_)
                  have bz579676 : gB z579676 (-2147483648) 2147483647 := gB_any z579676
                  refine G_icmp_ge 64 dr_cX17_weigh_50 (by decide +kernel) (fun hc579677 => ?_) (fun hc579677 => ?_)
                  · have r579678 : z579676.toInt ≤ g579669.toInt := gC_le hc579677
                    have hx579679 : tl_RModel_weigh_42 D I γ el F578496 q410225 g578495 (0 : Int32) (1 : Int32) 64 g579670 := kt42_579671 64 g579670 (fun R c1 c2 => c1 g579669 g579670 f579675 z579676 bg579669 fq579672 he579674 hz579676 r579678)
                    refine G_aload_n 4 dr_cX17_weigh_64 rfl ?_
                    refine G_iload_n 2 dr_cX17_weigh_65 rfl ?_
                    have hm579680 : q578508 ∈ P410223 := RS_m hT578497 ht578512 (by decide)
                    obtain ⟨⟨p579682, p579683, q579684, he579681, r579685, r579686, r579687, r579689⟩, r579688⟩ := show rk_4 D I γ el F578496 q578508 from RS_o hT578497 ht578512
                    have bp579682 := gB_any p579682
                    have bp579683 : gB p579683 0 1000000 := ⟨by omega, by omega⟩
                    obtain ⟨r579690, r579691, n579698, f579699, r579692, r579693, r579694, r579695, r579696, r579697⟩ := rLC_n r579687 (by omega)
                    have hm579700 : q579684 ∈ P410223 := RS_m hT578497 r579690 (by decide)
                    obtain ⟨q579701, hx579702⟩ : ∃ x, x = el q578508 g578495.toInt.toNat := ⟨_, rfl⟩
                    have fq579706 : fR (F578496 q410226) 0 = q578508 := by rw [he578507]; rfl
                    have hx579703 : f579699 g578495.toNatClampNeg = some q579701 := (r579696 _ (show g578495.toInt.toNat < γ 2 q578508 by omega)).trans (by rw [hx579702])
                    have ht579707 : rKd γ q579701 2 := by rw [hx579702]; exact (r578523 _ (by omega)).resolve_right (fun z => absurd z.1 (by omega))
                    have ht579708 : rFm γ q579701 q578508 := by rw [hx579702]; exact (r579688 _ (show g578495.toInt.toNat < γ 2 q578508 by omega)).2.1
                    have hm579709 : q579701 ∈ P410223 := RS_m hT578497 ht579707 (by decide)
                    obtain ⟨q579711, q579712, p579713, p579714, he579710, ht579721, ht579715, ht579716, ht579717, ht579718, ht579719, bp579713, bp579714, r579720, r579722, r579723⟩ := show rk_2 γ q579701 (F578496 q579701) from RS_o hT578497 ht579707
                    have fq579724 : fI (F578496 q578508) 2 = p579683 := by rw [he579681]; rfl
                    refine Gw_callV (As := [.int g578495]) (gV_ok D I) (cp_7901_Code_get l hl0 D I P410223 F578496 q410226 q578508 q579684 g578495 q578509 p578510 p578511 p579682 p579683 f579699 n579698 q579701 q579711 q579712 p579713 p579714 hm578506 hm579680 hm579700 hm579709 he578507 he579681 r579692 he579710 (gB_w bg578495' (by decide) (by decide)) (gB_w bp579683 (by decide) (by decide)) (by omega) (by omega) (by assumption) (by omega)) dr_cX17_weigh_66 ⟨wr_10_161, wr_1_15, wr_10_141, by decide, rfl, (Nat.le_of_ble_eq_true rfl), (Nat.le_of_ble_eq_true rfl)⟩ wr_10_139 wr_10_140 hm578506 he578507 rfl (show 0 + 0 ≤ 0 by first | omega | decide) (show 0 + 0 ≤ 0 by first | omega | decide) (Nat.le_of_ble_eq_true rfl) (fun r579728 w579729 dc579725 ds579726 hp579727 => ?_) (fun _ _ _ _ _ z => z.elim)
                    obtain ⟨rfl, rfl, hdc, hds, ht579730⟩ := hp579727
                    change G _ _ _ _ _ _ _ (.ref q579701 :: _) _ _ _
                    refine G_widen (cs' := 0) (sl' := 0) (by omega) (by omega) ?_
                    refine G_astore (L' := [(4, .ref q579701), (3, .int g579670), (2, .int g578495), (0, .ref q410225), (1, .ref q410226)]) dr_cX17_weigh_69 (Nat.le_of_ble_eq_true rfl) rfl ?_
                    refine G_iconst 0 dr_cX17_weigh_71 (by decide +kernel) ?_
                    refine G_istore (L' := [(5, .int 0), (4, .ref q579701), (3, .int g579670), (2, .int g578495), (0, .ref q410225), (1, .ref q410226)]) dr_cX17_weigh_72 (Nat.le_of_ble_eq_true rfl) rfl ?_
                    have hlp74_580270 : ∀ (n74_580270 : Nat) (F580266 : Nat → va_E) (g580265 : Int32), gB g580265 0 1000001 → RS D I P410223 F580266 γ el → rStr γ [] F410224 F580266 → (F580266 q410225 = F410224 q410225) → (F580266 (γ 9 3) = F410224 (γ 9 3)) → (∀ (k : Nat) (e1 : Nat → va_E), tl_RModel_weigh_74 D I γ el P410223 F410224 q410225 q579701 g579670 F580266 g580265 k e1 → tl_RModel_weigh_74 D I γ el P410223 F410224 q410225 q579701 g579670 F578496 (0 : Int32) k e1) → ((1000002 : Int) - g580265.toInt).toNat < n74_580270 → G (gV D I) l (gRm 6 144 0 0) (gMA (gV D I) (pt_410228_SpillForgeModel_weigh D I γ el P410223 F410224 q410225 q410226) gNA 0 0) ky_410228_SpillForgeModel_weigh 74 [(5, .int g580265), (4, .ref q579701), (3, .int g579670), (2, .int g578495), (0, .ref q410225), (1, .ref q410226)] [] (va_pl P410223 F580266) 0 0 := by
                      intro n74_580270
                      induction n74_580270 with
                      | zero => intro F580266 g580265 bg580265 hT580267 hs580268 x580269 x580270 kt74_580271 hm74_580270; exact absurd hm74_580270 (Nat.not_lt_zero _)
                      | succ n74_580270 ih74_580270 =>
                        intro F580266 g580265 bg580265 hT580267 hs580268 x580269 x580270 kt74_580271 hm74_580270
                        have hs580272 : rStr γ [] F578496 F580266 := fun b h0 hb hw => (hs580268 b h0 hb hw).trans (hs578498 b h0 hb hw).symm
                        have he580273 : F580266 q410226 = .inr (18, [.ref q578508, .ref q578509, .int p578510, .int p578511]) := (hs580272 q410226 (rT0 htq410226 (by decide)) (rT1 htq410226 (by decide)) (rT2 htq410226 (by decide))).trans he578507
                        have he580274 : F580266 q578508 = .inr (4, [.int p579682, .ref q579684, .int p579683]) := (hs580272 q578508 (rT0 ht578512 (by decide)) (rT1 ht578512 (by decide)) (rT2 ht578512 (by decide))).trans he579681
                        have he580275 : F580266 q579684 = .inl (I (.object "java/lang/Object"), n579698, .inr (.inr (.inr (.inr f579699)))) := (hs580272 q579684 (rT0 r579690 (by decide)) (rT1 r579690 (by decide)) (rT2 r579690 (by decide))).trans r579692
                        have he580276 : F580266 q579701 = .inr (17, [.ref q579711, .ref q579712, .int p579713, .int p579714]) := (hs580272 q579701 (rT0 ht579707 (by decide)) (rT1 ht579707 (by decide)) (rT2 ht579707 (by decide))).trans he579710
                        have hs580277 : rStr γ [] F410224 F580266 := rStr_tr hs578498 hs580272
                        have he580278 : F580266 q410225 = .inr (22, [.ref (γ 9 0), .ref (γ 9 1), .ref (γ 9 2), .ref (γ 9 3), .ref (γ 9 4), .ref (γ 9 5), .ref (γ 9 6), .ref (γ 9 7), .ref (γ 9 8), .int p410233, .int p410234, .int p410235, .int p410236, .int p410237, .int p410238, .ref (γ 9 15), .ref (γ 9 16), .ref (γ 9 17), .ref (γ 9 18), .ref (γ 9 19), .ref (γ 9 20), .ref (γ 9 21), .ref (γ 9 22), .int p410239, .int p410240, .int p410241, .int p410242, .int p410243, .ref q410231, .ref (γ 9 29), .int p410244, .ref (γ 9 31), .int p410245, .int p410246, .int p410247, .ref q410232]) := x580269.trans he410230
                        have hm580279 : q410225 ∈ P410223 := RS_m hT580267 htq410225 (by decide)
                        refine G_iload 0 dr_cX17_weigh_74 rfl ?_
                        refine G_aload 1 dr_cX17_weigh_76 rfl ?_
                        have fq580280 : fR (F580266 q579701) 0 = q579711 := by rw [he580276]; rfl
                        refine Gp_get 0 hm579709 he580276 dr_cX17_weigh_78 (gk_X12 D I) (Nat.le_of_ble_eq_true rfl) wr_9_220 rfl ?_
                        have hm580281 : q579711 ∈ P410223 := RS_m hT580267 ht579715 (by decide)
                        obtain ⟨⟨p580283, p580284, q580285, he580282, r580286, r580287, r580288, r580290⟩, r580289⟩ := show rk_3 D I γ el F580266 q579711 from RS_o hT580267 ht579715
                        have bp580283 := gB_any p580283
                        have bp580284 : gB p580284 0 1000000 := ⟨by omega, by omega⟩
                        have fq580291 : p580284.toInt = (γ 2 q579711 : Int) := by omega
                        have fq580292 : fI (F580266 q579711) 2 = p580284 := by rw [he580282]; rfl
                        refine Gw_callV (As := []) (gV_ok D I) (cp_7_ArrayList_size l hl0 D I P410223 F580266 q579711 p580283 q580285 p580284 hm580281 he580282 (gB_w bp580284 (by decide) (by decide))) dr_cX17_weigh_81 ⟨wr_10_200, wr_1_18, wr_9_160, by decide, rfl, (Nat.le_of_ble_eq_true rfl), (Nat.le_of_ble_eq_true rfl)⟩ wr_9_158 wr_9_159 hm580281 he580282 rfl (show 0 + 0 ≤ 0 by first | omega | decide) (show 0 + 0 ≤ 0 by first | omega | decide) (Nat.le_of_ble_eq_true rfl) (fun r580296 w580297 dc580293 ds580294 hp580295 => ?_) (fun _ _ _ _ _ z => z.elim)
                        obtain ⟨rfl, rfl, hdc, hds⟩ := hp580295
                        change G _ _ _ _ _ _ _ (.int p580284 :: _) _ _ _
                        refine G_widen (cs' := 0) (sl' := 0) (by omega) (by omega) ?_
                        refine G_icmp_gt 195 dr_cX17_weigh_84 (by decide +kernel) (fun hc580298 => ?_) (fun hc580298 => ?_)
                        · have r580299 : p580284.toInt < g580265.toInt := gC_lt hc580298
                          have bg580265' : gB g580265 1 1000001 := ⟨by omega, by omega⟩
                          have hx580300 : tl_RModel_weigh_74 D I γ el P410223 F410224 q410225 q579701 g579670 F578496 (0 : Int32) 195 F580266 := kt74_580271 195 F580266 (fun R c1 c2 c3 c4 c5 c6 c7 c8 c9 c10 c11 c12 c13 c14 c15 c16 c17 => c1 F580266 g580265 q579711 p580284 bg580265 hT580267 hs580268 x580269 x580270 fq580280 fq580291 fq580292 r580299)
                          obtain ⟨z580301, hz580301⟩ : ∃ z : Int32, z = g578495 + Int32.ofInt 1 := ⟨_, rfl⟩
                          have ez580301 : z580301.toInt = g578495.toInt + 1 := gI_inc hz580301 (by decide) bg578495' (by decide) (by decide)
                          have bz580301 : gB z580301 1 1000000 := ⟨by omega, by omega⟩
                          refine G_iinc (L' := [(2, .int z580301), (5, .int g580265), (4, .ref q579701), (3, .int g579670), (0, .ref q410225), (1, .ref q410226)]) z580301 3 dr_cX17_weigh_195 rfl hz580301.symm (Nat.le_of_ble_eq_true rfl) rfl ?_
                          refine G_goto 29 dr_cX17_weigh_198 (by decide +kernel) ?_
                          refine G_lv (L' := [(2, .int z580301), (0, .ref q410225), (1, .ref q410226)]) [0, 4, 5] rfl ?_
                          exact ih29_578500 F580266 z580301 (gB_w bz580301 (by decide) (by decide)) hT580267 hs580268 x580269 x580270 (fun k e1 ht => kt29_578501 k e1 (fun R c1 c2 => c2 F578496 g578495 p578511 g579670 q578508 q579701 p579683 F580266 z580301 k e1 bg578495 hT578497 hs578498 x578499 x578500 fq578528 r578537 hx579679 fq579706 hx579702 fq579724 ht579730 hx580300 ez580301 (ht R c1 c2))) (mz_up ez580301 (Int.le_trans bg578495'.2 (by decide)) hm29_578500)
                        · have r580302 : g580265.toInt ≤ p580284.toInt := gC_nlt hc580298
                          have bg580265' : gB g580265 0 1000000 := ⟨by omega, by omega⟩
                          refine G_iload 0 dr_cX17_weigh_87 rfl ?_
                          refine G_aload 1 dr_cX17_weigh_89 rfl ?_
                          refine Gp_get 0 hm579709 he580276 dr_cX17_weigh_91 (gk_X12 D I) (Nat.le_of_ble_eq_true rfl) wr_9_220 rfl ?_
                          have fq580303 : p580284.toInt = (γ 2 q579711 : Int) := by omega
                          refine Gw_callV (As := []) (gV_ok D I) (cp_7_ArrayList_size l hl0 D I P410223 F580266 q579711 p580283 q580285 p580284 hm580281 he580282 (gB_w bp580284 (by decide) (by decide))) dr_cX17_weigh_94 ⟨wr_10_200, wr_1_18, wr_9_160, by decide, rfl, (Nat.le_of_ble_eq_true rfl), (Nat.le_of_ble_eq_true rfl)⟩ wr_9_158 wr_9_159 hm580281 he580282 rfl (show 0 + 0 ≤ 0 by first | omega | decide) (show 0 + 0 ≤ 0 by first | omega | decide) (Nat.le_of_ble_eq_true rfl) (fun r580307 w580308 dc580304 ds580305 hp580306 => ?_) (fun _ _ _ _ _ z => z.elim)
                          obtain ⟨rfl, rfl, hdc, hds⟩ := hp580306
                          change G _ _ _ _ _ _ _ (.int p580284 :: _) _ _ _
                          refine G_widen (cs' := 0) (sl' := 0) (by omega) (by omega) ?_
                          refine G_icmp_ge 116 dr_cX17_weigh_97 (by decide +kernel) (fun hc580309 => ?_) (fun hc580309 => ?_)
                          · have r580310 : p580284.toInt ≤ g580265.toInt := gC_le hc580309
                            refine G_aload 1 dr_cX17_weigh_116 rfl ?_
                            have fq580311 : fR (F580266 q579701) 1 = q579712 := by rw [he580276]; rfl
                            refine Gp_get 1 hm579709 he580276 dr_cX17_weigh_118 (gk_X12 D I) (Nat.le_of_ble_eq_true rfl) wr_9_223 rfl ?_
                            refine G_astore (L' := [(6, .ref q579712), (5, .int g580265), (4, .ref q579701), (3, .int g579670), (2, .int g578495), (0, .ref q410225), (1, .ref q410226)]) dr_cX17_weigh_121 (Nat.le_of_ble_eq_true rfl) rfl ?_
                            refine G_aload 0 dr_cX17_weigh_123 rfl ?_
                            have hm580312 : q579712 ∈ P410223 := RS_m hT580267 ht579717 (by decide)
                            obtain ⟨p580314, p580315, p580316, p580317, p580318, p580319, p580320, he580313, bp580314, bp580315, bp580318, bp580319, bp580320, r580321, r580322, r580323, r580324, r580325⟩ := show rk_1 γ q579712 (F580266 q579712) from RS_o hT580267 ht579717
                            have bp580316 := gB_any p580316
                            have bp580317 := gB_any p580317
                            have fq580326 : fI (F580266 q579712) 0 = p580314 := by rw [he580313]; rfl
                            refine Gw_callV (As := []) (gV_ok D I) (cp_1660_Row_sets l hl0 D I P410223 F580266 q579712 p580314 p580315 p580316 p580317 p580318 p580319 p580320 hm580312 he580313 bp580314 bp580315 bp580318 bp580319 bp580320) dr_cX17_weigh_125 ⟨wr_10_181, wr_1_39, wr_10_184, by decide, rfl, (Nat.le_of_ble_eq_true rfl), (Nat.le_of_ble_eq_true rfl)⟩ wr_10_182 wr_10_183 hm580312 he580313 rfl (show 0 + 0 ≤ 0 by first | omega | decide) (show 0 + 0 ≤ 0 by first | omega | decide) (Nat.le_of_ble_eq_true rfl) (fun r580330 w580331 dc580327 ds580328 hp580329 => ?_) (fun _ _ _ _ _ z => z.elim)
                            obtain ⟨o580332, rfl, rfl, hdc, hds, bo580332, ht580333⟩ := hp580329
                            change G _ _ _ _ _ _ _ (.int o580332 :: _) _ _ _
                            refine G_widen (cs' := 0) (sl' := 0) (by omega) (by omega) ?_
                            refine G_if_eq 145 dr_cX17_weigh_128 (by decide +kernel) (fun hc580334 => ?_) (fun hc580334 => ?_)
                            · have r580335 : o580332.toInt = 0 := gj_eq hc580334 (show Int32.toInt 0 = 0 by decide)
                              have bo580332' : gB o580332 0 0 := gB_t0 r580335
                              refine G_aload 0 dr_cX17_weigh_145 rfl ?_
                              have fq580336 : fI (F580266 q579712) 5 = p580319 := by rw [he580313]; rfl
                              refine Gw_callV (As := []) (gV_ok D I) (cp_1675_Row_usesA l hl0 D I P410223 F580266 q579712 p580314 p580315 p580316 p580317 p580318 p580319 p580320 hm580312 he580313 bp580314 bp580315 bp580318 bp580319 bp580320) dr_cX17_weigh_147 ⟨wr_10_192, wr_1_39, wr_10_195, by decide, rfl, (Nat.le_of_ble_eq_true rfl), (Nat.le_of_ble_eq_true rfl)⟩ wr_10_193 wr_10_194 hm580312 he580313 rfl (show 0 + 0 ≤ 0 by first | omega | decide) (show 0 + 0 ≤ 0 by first | omega | decide) (Nat.le_of_ble_eq_true rfl) (fun r580340 w580341 dc580337 ds580338 hp580339 => ?_) (fun _ _ _ _ _ z => z.elim)
                              obtain ⟨o580342, rfl, rfl, hdc, hds, bo580342, x580343, ht580344⟩ := hp580339
                              change G _ _ _ _ _ _ _ (.int o580342 :: _) _ _ _
                              refine G_widen (cs' := 0) (sl' := 0) (by omega) (by omega) ?_
                              refine G_if_eq 167 dr_cX17_weigh_150 (by decide +kernel) (fun hc580345 => ?_) (fun hc580345 => ?_)
                              · have r580346 : o580342.toInt = 0 := gj_eq hc580345 (show Int32.toInt 0 = 0 by decide)
                                have bo580342' : gB o580342 0 0 := gB_t0 r580346
                                refine G_aload 0 dr_cX17_weigh_167 rfl ?_
                                have fq580347 : fI (F580266 q579712) 6 = p580320 := by rw [he580313]; rfl
                                refine Gw_callV (As := []) (gV_ok D I) (cp_1699_Row_usesB l hl0 D I P410223 F580266 q579712 p580314 p580315 p580316 p580317 p580318 p580319 p580320 hm580312 he580313 bp580314 bp580315 bp580318 bp580319 bp580320) dr_cX17_weigh_169 ⟨wr_10_196, wr_1_39, wr_10_199, by decide, rfl, (Nat.le_of_ble_eq_true rfl), (Nat.le_of_ble_eq_true rfl)⟩ wr_10_197 wr_10_198 hm580312 he580313 rfl (show 0 + 0 ≤ 0 by first | omega | decide) (show 0 + 0 ≤ 0 by first | omega | decide) (Nat.le_of_ble_eq_true rfl) (fun r580351 w580352 dc580348 ds580349 hp580350 => ?_) (fun _ _ _ _ _ z => z.elim)
                                obtain ⟨o580353, rfl, rfl, hdc, hds, bo580353, x580354, ht580355⟩ := hp580350
                                change G _ _ _ _ _ _ _ (.int o580353 :: _) _ _ _
                                refine G_widen (cs' := 0) (sl' := 0) (by omega) (by omega) ?_
                                refine G_if_eq 189 dr_cX17_weigh_172 (by decide +kernel) (fun hc580356 => ?_) (fun hc580356 => ?_)
                                · have r580357 : o580353.toInt = 0 := gj_eq hc580356 (show Int32.toInt 0 = 0 by decide)
                                  have bo580353' : gB o580353 0 0 := gB_t0 r580357
                                  obtain ⟨z580358, hz580358⟩ : ∃ z : Int32, z = g580265 + Int32.ofInt 1 := ⟨_, rfl⟩
                                  have ez580358 : z580358.toInt = g580265.toInt + 1 := gI_inc hz580358 (by decide) bg580265' (by decide) (by decide)
                                  have bz580358 : gB z580358 1 1000001 := ⟨by omega, by omega⟩
                                  refine G_iinc (L' := [(5, .int z580358), (6, .ref q579712), (4, .ref q579701), (3, .int g579670), (2, .int g578495), (0, .ref q410225), (1, .ref q410226)]) z580358 1 dr_cX17_weigh_189 rfl hz580358.symm (Nat.le_of_ble_eq_true rfl) rfl ?_
                                  refine G_goto 74 dr_cX17_weigh_192 (by decide +kernel) ?_
                                  refine G_lv (L' := [(5, .int z580358), (4, .ref q579701), (3, .int g579670), (2, .int g578495), (0, .ref q410225), (1, .ref q410226)]) [0, 2, 3, 4, 5, 6] rfl ?_
                                  exact ih74_580270 F580266 z580358 (gB_w bz580358 (by decide) (by decide)) hT580267 hs580268 x580269 x580270 (fun k e1 ht => kt74_580271 k e1 (fun R c1 c2 c3 c4 c5 c6 c7 c8 c9 c10 c11 c12 c13 c14 c15 c16 c17 => c2 F580266 g580265 q579711 p580284 q579712 p580314 o580332 p580319 o580342 p580320 o580353 z580358 k e1 bg580265 hT580267 hs580268 x580269 x580270 fq580280 fq580291 fq580292 r580302 fq580303 r580310 fq580311 fq580326 bo580332 ht580333 r580335 fq580336 bo580342 ht580344 r580346 fq580347 bo580353 ht580355 r580357 ez580358 (ht R c1 c2 c3 c4 c5 c6 c7 c8 c9 c10 c11 c12 c13 c14 c15 c16 c17))) (mz_up ez580358 (Int.le_trans bg580265'.2 (by decide)) hm74_580270)
                                · have r580359 : o580353.toInt ≠ 0 := gj_neq hc580356 (show Int32.toInt 0 = 0 by decide)
                                  have bo580353' : gB o580353 1 1 := gB_t1 bo580353 r580359
                                  refine G_aload_n 5 dr_cX17_weigh_175 rfl ?_
                                  have fq580360 : fR (F580266 q410225) 5 = (γ 9 5) := by rw [he580278]; rfl
                                  refine Gp_get 5 hm580279 he580278 dr_cX17_weigh_176 (gk_X17 D I) (Nat.le_of_ble_eq_true rfl) wr_7_79 rfl ?_
                                  refine G_aload 0 dr_cX17_weigh_179 rfl ?_
                                  have fq580361 : fI (F580266 q579712) 3 = p580317 := by rw [he580313]; rfl
                                  refine Gp_get 3 hm580312 he580313 dr_cX17_weigh_181 (gk_X15 D I) (Nat.le_of_ble_eq_true rfl) wr_9_190 rfl ?_
                                  refine G_dup2_11 dr_cX17_weigh_184 rfl rfl ?_
                                  have hm580362 : (γ 9 5) ∈ P410223 := RS_m hT580267 ht410255 (by decide)
                                  obtain ⟨f580364, he580363⟩ := show rk_17 I (F580266 (γ 9 5)) from RS_o hT580267 ht410255
                                  refine Gp_iald 0 hm580362 he580363 dr_cX17_weigh_185 rfl (gB_inr (by omega) (by omega)) (G_nam fun z580365 hz580365 => ?_)
                                  have bz580365 : gB z580365 (-2147483648) 2147483647 := gB_any z580365
                                  refine G_iload_n 3 dr_cX17_weigh_186 rfl ?_
                                  refine G_iadd dr_cX17_weigh_187 (G_nam fun z580366 hz580366 => ?_)
                                  have bz580366 : gB z580366 (-2147483648) 2147483647 := gB_any z580366
                                  refine Gp_iast 0 hm580362 he580363 dr_cX17_weigh_188 rfl (gB_inr (by omega) (by omega)) (fun F580367 e580368 n580369 => ?_)
                                  obtain ⟨f580370, hf580370⟩ : ∃ z, z = upd f580364 p580317.toNatClampNeg z580366 := ⟨_, rfl⟩
                                  rw [← hf580370] at e580368
                                  have he580371 : F580367 q410226 = .inr (18, [.ref q578508, .ref q578509, .int p578510, .int p578511]) := (n580369 q410226 (rn_oa he580273 he580363)).trans he580273
                                  have he580372 : F580367 q578508 = .inr (4, [.int p579682, .ref q579684, .int p579683]) := (n580369 q578508 (rn_oa he580274 he580363)).trans he580274
                                  have he580373 : F580367 q579684 = .inl (I (.object "java/lang/Object"), n579698, .inr (.inr (.inr (.inr f579699)))) := (n580369 q579684 (rn_ref_num he580275 he580363)).trans he580275
                                  have he580374 : F580367 q579701 = .inr (17, [.ref q579711, .ref q579712, .int p579713, .int p579714]) := (n580369 q579701 (rn_oa he580276 he580363)).trans he580276
                                  have he580375 : F580367 q410225 = .inr (22, [.ref (γ 9 0), .ref (γ 9 1), .ref (γ 9 2), .ref (γ 9 3), .ref (γ 9 4), .ref (γ 9 5), .ref (γ 9 6), .ref (γ 9 7), .ref (γ 9 8), .int p410233, .int p410234, .int p410235, .int p410236, .int p410237, .int p410238, .ref (γ 9 15), .ref (γ 9 16), .ref (γ 9 17), .ref (γ 9 18), .ref (γ 9 19), .ref (γ 9 20), .ref (γ 9 21), .ref (γ 9 22), .int p410239, .int p410240, .int p410241, .int p410242, .int p410243, .ref q410231, .ref (γ 9 29), .int p410244, .ref (γ 9 31), .int p410245, .int p410246, .int p410247, .ref q410232]) := (n580369 q410225 (rn_oa he580278 he580363)).trans he580278
                                  have he580376 : F580367 q579711 = .inr (4, [.int p580283, .ref q580285, .int p580284]) := (n580369 q579711 (rn_oa he580282 he580363)).trans he580282
                                  have he580377 : F580367 q579712 = .inr (20, [.int p580314, .int p580315, .int p580316, .int p580317, .int p580318, .int p580319, .int p580320]) := (n580369 q579712 (rn_oa he580313 he580363)).trans he580313
                                  have he580378 : F580367 (γ 9 5) = .inl (I .int, 2000, .inl f580370) := e580368
                                  have hs580379 : rStr γ [] F410224 F580367 := rStr_put hs580268 n580369 ht410255 (by decide)
                                  have kp580380 : F580367 q410225 = F410224 q410225 := (n580369 q410225 (rn_ty htq410225 ht410255 (by decide))).trans x580269
                                  have kp580381 : F580367 (γ 9 3) = F410224 (γ 9 3) := (n580369 (γ 9 3) (rn_ty ht410253 ht410255 (by decide))).trans x580270
                                  obtain ⟨z580382, hz580382⟩ : ∃ z : Int32, z = g580265 + Int32.ofInt 1 := ⟨_, rfl⟩
                                  have ez580382 : z580382.toInt = g580265.toInt + 1 := gI_inc hz580382 (by decide) bg580265' (by decide) (by decide)
                                  have bz580382 : gB z580382 1 1000001 := ⟨by omega, by omega⟩
                                  refine G_iinc (L' := [(5, .int z580382), (6, .ref q579712), (4, .ref q579701), (3, .int g579670), (2, .int g578495), (0, .ref q410225), (1, .ref q410226)]) z580382 1 dr_cX17_weigh_189 rfl hz580382.symm (Nat.le_of_ble_eq_true rfl) rfl ?_
                                  refine G_goto 74 dr_cX17_weigh_192 (by decide +kernel) ?_
                                  have hT580383 : RS D I P410223 F580367 γ el := RS_set hT580267 n580369 ht410255 (by decide) ⟨f580370, he580378⟩
                                  refine G_lv (L' := [(5, .int z580382), (4, .ref q579701), (3, .int g579670), (2, .int g578495), (0, .ref q410225), (1, .ref q410226)]) [0, 2, 3, 4, 5, 6] rfl ?_
                                  exact ih74_580270 F580367 z580382 (gB_w bz580382 (by decide) (by decide)) hT580383 hs580379 kp580380 kp580381 (fun k e1 ht => kt74_580271 k e1 (fun R c1 c2 c3 c4 c5 c6 c7 c8 c9 c10 c11 c12 c13 c14 c15 c16 c17 => c3 F580266 g580265 q579711 p580284 q579712 p580314 o580332 p580319 o580342 p580320 o580353 p580317 f580364 z580365 z580366 f580370 F580367 z580382 k e1 bg580265 hT580267 hs580268 x580269 x580270 fq580280 fq580291 fq580292 r580302 fq580303 r580310 fq580311 fq580326 bo580332 ht580333 r580335 fq580336 bo580342 ht580344 r580346 fq580347 bo580353 ht580355 r580359 fq580360 fq580361 he580363 hz580365 hz580366 hf580370 n580369 he580378 ez580382 (ht R c1 c2 c3 c4 c5 c6 c7 c8 c9 c10 c11 c12 c13 c14 c15 c16 c17))) (mz_up ez580382 (Int.le_trans bg580265'.2 (by decide)) hm74_580270)
                              · have r580384 : o580342.toInt ≠ 0 := gj_neq hc580345 (show Int32.toInt 0 = 0 by decide)
                                have bo580342' : gB o580342 1 1 := gB_t1 bo580342 r580384
                                refine G_aload_n 5 dr_cX17_weigh_153 rfl ?_
                                have fq580385 : fR (F580266 q410225) 5 = (γ 9 5) := by rw [he580278]; rfl
                                refine Gp_get 5 hm580279 he580278 dr_cX17_weigh_154 (gk_X17 D I) (Nat.le_of_ble_eq_true rfl) wr_7_79 rfl ?_
                                refine G_aload 0 dr_cX17_weigh_157 rfl ?_
                                have fq580386 : fI (F580266 q579712) 2 = p580316 := by rw [he580313]; rfl
                                refine Gp_get 2 hm580312 he580313 dr_cX17_weigh_159 (gk_X15 D I) (Nat.le_of_ble_eq_true rfl) wr_9_186 rfl ?_
                                refine G_dup2_11 dr_cX17_weigh_162 rfl rfl ?_
                                have hm580387 : (γ 9 5) ∈ P410223 := RS_m hT580267 ht410255 (by decide)
                                obtain ⟨f580389, he580388⟩ := show rk_17 I (F580266 (γ 9 5)) from RS_o hT580267 ht410255
                                refine Gp_iald 0 hm580387 he580388 dr_cX17_weigh_163 rfl (gB_inr (by omega) (by omega)) (G_nam fun z580390 hz580390 => ?_)
                                have bz580390 : gB z580390 (-2147483648) 2147483647 := gB_any z580390
                                refine G_iload_n 3 dr_cX17_weigh_164 rfl ?_
                                refine G_iadd dr_cX17_weigh_165 (G_nam fun z580391 hz580391 => ?_)
                                have bz580391 : gB z580391 (-2147483648) 2147483647 := gB_any z580391
                                refine Gp_iast 0 hm580387 he580388 dr_cX17_weigh_166 rfl (gB_inr (by omega) (by omega)) (fun F580392 e580393 n580394 => ?_)
                                obtain ⟨f580395, hf580395⟩ : ∃ z, z = upd f580389 p580316.toNatClampNeg z580391 := ⟨_, rfl⟩
                                rw [← hf580395] at e580393
                                have he580396 : F580392 q410226 = .inr (18, [.ref q578508, .ref q578509, .int p578510, .int p578511]) := (n580394 q410226 (rn_oa he580273 he580388)).trans he580273
                                have he580397 : F580392 q578508 = .inr (4, [.int p579682, .ref q579684, .int p579683]) := (n580394 q578508 (rn_oa he580274 he580388)).trans he580274
                                have he580398 : F580392 q579684 = .inl (I (.object "java/lang/Object"), n579698, .inr (.inr (.inr (.inr f579699)))) := (n580394 q579684 (rn_ref_num he580275 he580388)).trans he580275
                                have he580399 : F580392 q579701 = .inr (17, [.ref q579711, .ref q579712, .int p579713, .int p579714]) := (n580394 q579701 (rn_oa he580276 he580388)).trans he580276
                                have he580400 : F580392 q410225 = .inr (22, [.ref (γ 9 0), .ref (γ 9 1), .ref (γ 9 2), .ref (γ 9 3), .ref (γ 9 4), .ref (γ 9 5), .ref (γ 9 6), .ref (γ 9 7), .ref (γ 9 8), .int p410233, .int p410234, .int p410235, .int p410236, .int p410237, .int p410238, .ref (γ 9 15), .ref (γ 9 16), .ref (γ 9 17), .ref (γ 9 18), .ref (γ 9 19), .ref (γ 9 20), .ref (γ 9 21), .ref (γ 9 22), .int p410239, .int p410240, .int p410241, .int p410242, .int p410243, .ref q410231, .ref (γ 9 29), .int p410244, .ref (γ 9 31), .int p410245, .int p410246, .int p410247, .ref q410232]) := (n580394 q410225 (rn_oa he580278 he580388)).trans he580278
                                have he580401 : F580392 q579711 = .inr (4, [.int p580283, .ref q580285, .int p580284]) := (n580394 q579711 (rn_oa he580282 he580388)).trans he580282
                                have he580402 : F580392 q579712 = .inr (20, [.int p580314, .int p580315, .int p580316, .int p580317, .int p580318, .int p580319, .int p580320]) := (n580394 q579712 (rn_oa he580313 he580388)).trans he580313
                                have he580403 : F580392 (γ 9 5) = .inl (I .int, 2000, .inl f580395) := e580393
                                have hs580404 : rStr γ [] F410224 F580392 := rStr_put hs580268 n580394 ht410255 (by decide)
                                have kp580405 : F580392 q410225 = F410224 q410225 := (n580394 q410225 (rn_ty htq410225 ht410255 (by decide))).trans x580269
                                have kp580406 : F580392 (γ 9 3) = F410224 (γ 9 3) := (n580394 (γ 9 3) (rn_ty ht410253 ht410255 (by decide))).trans x580270
                                refine G_aload 0 dr_cX17_weigh_167 rfl ?_
                                have hT580407 : RS D I P410223 F580392 γ el := RS_set hT580267 n580394 ht410255 (by decide) ⟨f580395, he580403⟩
                                have fq580408 : fI (F580392 q579712) 0 = p580314 := by rw [he580402]; rfl
                                have fq580409 : fI (F580392 q579712) 6 = p580320 := by rw [he580402]; rfl
                                refine Gw_callV (As := []) (gV_ok D I) (cp_1699_Row_usesB l hl0 D I P410223 F580392 q579712 p580314 p580315 p580316 p580317 p580318 p580319 p580320 hm580312 he580402 bp580314 bp580315 bp580318 bp580319 bp580320) dr_cX17_weigh_169 ⟨wr_10_196, wr_1_39, wr_10_199, by decide, rfl, (Nat.le_of_ble_eq_true rfl), (Nat.le_of_ble_eq_true rfl)⟩ wr_10_197 wr_10_198 hm580312 he580402 rfl (show 0 + 0 ≤ 0 by first | omega | decide) (show 0 + 0 ≤ 0 by first | omega | decide) (Nat.le_of_ble_eq_true rfl) (fun r580413 w580414 dc580410 ds580411 hp580412 => ?_) (fun _ _ _ _ _ z => z.elim)
                                obtain ⟨o580415, rfl, rfl, hdc, hds, bo580415, x580416, ht580417⟩ := hp580412
                                change G _ _ _ _ _ _ _ (.int o580415 :: _) _ _ _
                                refine G_widen (cs' := 0) (sl' := 0) (by omega) (by omega) ?_
                                refine G_if_eq 189 dr_cX17_weigh_172 (by decide +kernel) (fun hc580418 => ?_) (fun hc580418 => ?_)
                                · have r580419 : o580415.toInt = 0 := gj_eq hc580418 (show Int32.toInt 0 = 0 by decide)
                                  have bo580415' : gB o580415 0 0 := gB_t0 r580419
                                  obtain ⟨z580420, hz580420⟩ : ∃ z : Int32, z = g580265 + Int32.ofInt 1 := ⟨_, rfl⟩
                                  have ez580420 : z580420.toInt = g580265.toInt + 1 := gI_inc hz580420 (by decide) bg580265' (by decide) (by decide)
                                  have bz580420 : gB z580420 1 1000001 := ⟨by omega, by omega⟩
                                  refine G_iinc (L' := [(5, .int z580420), (6, .ref q579712), (4, .ref q579701), (3, .int g579670), (2, .int g578495), (0, .ref q410225), (1, .ref q410226)]) z580420 1 dr_cX17_weigh_189 rfl hz580420.symm (Nat.le_of_ble_eq_true rfl) rfl ?_
                                  refine G_goto 74 dr_cX17_weigh_192 (by decide +kernel) ?_
                                  refine G_lv (L' := [(5, .int z580420), (4, .ref q579701), (3, .int g579670), (2, .int g578495), (0, .ref q410225), (1, .ref q410226)]) [0, 2, 3, 4, 5, 6] rfl ?_
                                  exact ih74_580270 F580392 z580420 (gB_w bz580420 (by decide) (by decide)) hT580407 hs580404 kp580405 kp580406 (fun k e1 ht => kt74_580271 k e1 (fun R c1 c2 c3 c4 c5 c6 c7 c8 c9 c10 c11 c12 c13 c14 c15 c16 c17 => c4 F580266 g580265 q579711 p580284 q579712 p580314 o580332 p580319 o580342 p580316 f580389 z580390 z580391 f580395 F580392 p580320 o580415 z580420 k e1 bg580265 hT580267 hs580268 x580269 x580270 fq580280 fq580291 fq580292 r580302 fq580303 r580310 fq580311 fq580326 bo580332 ht580333 r580335 fq580336 bo580342 ht580344 r580384 fq580385 fq580386 he580388 hz580390 hz580391 hf580395 n580394 he580403 fq580408 fq580409 bo580415 ht580417 r580419 ez580420 (ht R c1 c2 c3 c4 c5 c6 c7 c8 c9 c10 c11 c12 c13 c14 c15 c16 c17))) (mz_up ez580420 (Int.le_trans bg580265'.2 (by decide)) hm74_580270)
                                · have r580421 : o580415.toInt ≠ 0 := gj_neq hc580418 (show Int32.toInt 0 = 0 by decide)
                                  have bo580415' : gB o580415 1 1 := gB_t1 bo580415 r580421
                                  refine G_aload_n 5 dr_cX17_weigh_175 rfl ?_
                                  have fq580422 : fR (F580392 q410225) 5 = (γ 9 5) := by rw [he580400]; rfl
                                  refine Gp_get 5 hm580279 he580400 dr_cX17_weigh_176 (gk_X17 D I) (Nat.le_of_ble_eq_true rfl) wr_7_79 rfl ?_
                                  refine G_aload 0 dr_cX17_weigh_179 rfl ?_
                                  have fq580423 : fI (F580392 q579712) 3 = p580317 := by rw [he580402]; rfl
                                  refine Gp_get 3 hm580312 he580402 dr_cX17_weigh_181 (gk_X15 D I) (Nat.le_of_ble_eq_true rfl) wr_9_190 rfl ?_
                                  refine G_dup2_11 dr_cX17_weigh_184 rfl rfl ?_
                                  refine Gp_iald 0 hm580387 he580403 dr_cX17_weigh_185 rfl (gB_inr (by omega) (by omega)) (G_nam fun z580424 hz580424 => ?_)
                                  have bz580424 : gB z580424 (-2147483648) 2147483647 := gB_any z580424
                                  refine G_iload_n 3 dr_cX17_weigh_186 rfl ?_
                                  refine G_iadd dr_cX17_weigh_187 (G_nam fun z580425 hz580425 => ?_)
                                  have bz580425 : gB z580425 (-2147483648) 2147483647 := gB_any z580425
                                  refine Gp_iast 0 hm580387 he580403 dr_cX17_weigh_188 rfl (gB_inr (by omega) (by omega)) (fun F580426 e580427 n580428 => ?_)
                                  obtain ⟨f580429, hf580429⟩ : ∃ z, z = upd f580395 p580317.toNatClampNeg z580425 := ⟨_, rfl⟩
                                  rw [← hf580429] at e580427
                                  have he580430 : F580426 q410226 = .inr (18, [.ref q578508, .ref q578509, .int p578510, .int p578511]) := (n580428 q410226 (rn_oa he580396 he580403)).trans he580396
                                  have he580431 : F580426 q578508 = .inr (4, [.int p579682, .ref q579684, .int p579683]) := (n580428 q578508 (rn_oa he580397 he580403)).trans he580397
                                  have he580432 : F580426 q579684 = .inl (I (.object "java/lang/Object"), n579698, .inr (.inr (.inr (.inr f579699)))) := (n580428 q579684 (rn_ref_num he580398 he580403)).trans he580398
                                  have he580433 : F580426 q579701 = .inr (17, [.ref q579711, .ref q579712, .int p579713, .int p579714]) := (n580428 q579701 (rn_oa he580399 he580403)).trans he580399
                                  have he580434 : F580426 q410225 = .inr (22, [.ref (γ 9 0), .ref (γ 9 1), .ref (γ 9 2), .ref (γ 9 3), .ref (γ 9 4), .ref (γ 9 5), .ref (γ 9 6), .ref (γ 9 7), .ref (γ 9 8), .int p410233, .int p410234, .int p410235, .int p410236, .int p410237, .int p410238, .ref (γ 9 15), .ref (γ 9 16), .ref (γ 9 17), .ref (γ 9 18), .ref (γ 9 19), .ref (γ 9 20), .ref (γ 9 21), .ref (γ 9 22), .int p410239, .int p410240, .int p410241, .int p410242, .int p410243, .ref q410231, .ref (γ 9 29), .int p410244, .ref (γ 9 31), .int p410245, .int p410246, .int p410247, .ref q410232]) := (n580428 q410225 (rn_oa he580400 he580403)).trans he580400
                                  have he580435 : F580426 q579711 = .inr (4, [.int p580283, .ref q580285, .int p580284]) := (n580428 q579711 (rn_oa he580401 he580403)).trans he580401
                                  have he580436 : F580426 q579712 = .inr (20, [.int p580314, .int p580315, .int p580316, .int p580317, .int p580318, .int p580319, .int p580320]) := (n580428 q579712 (rn_oa he580402 he580403)).trans he580402
                                  have he580437 : F580426 (γ 9 5) = .inl (I .int, 2000, .inl f580429) := e580427
                                  have hs580438 : rStr γ [] F410224 F580426 := rStr_put hs580404 n580428 ht410255 (by decide)
                                  have kp580439 : F580426 q410225 = F410224 q410225 := (n580428 q410225 (rn_ty htq410225 ht410255 (by decide))).trans kp580405
                                  have kp580440 : F580426 (γ 9 3) = F410224 (γ 9 3) := (n580428 (γ 9 3) (rn_ty ht410253 ht410255 (by decide))).trans kp580406
                                  obtain ⟨z580441, hz580441⟩ : ∃ z : Int32, z = g580265 + Int32.ofInt 1 := ⟨_, rfl⟩
                                  have ez580441 : z580441.toInt = g580265.toInt + 1 := gI_inc hz580441 (by decide) bg580265' (by decide) (by decide)
                                  have bz580441 : gB z580441 1 1000001 := ⟨by omega, by omega⟩
                                  refine G_iinc (L' := [(5, .int z580441), (6, .ref q579712), (4, .ref q579701), (3, .int g579670), (2, .int g578495), (0, .ref q410225), (1, .ref q410226)]) z580441 1 dr_cX17_weigh_189 rfl hz580441.symm (Nat.le_of_ble_eq_true rfl) rfl ?_
                                  refine G_goto 74 dr_cX17_weigh_192 (by decide +kernel) ?_
                                  have hT580442 : RS D I P410223 F580426 γ el := RS_set hT580407 n580428 ht410255 (by decide) ⟨f580429, he580437⟩
                                  refine G_lv (L' := [(5, .int z580441), (4, .ref q579701), (3, .int g579670), (2, .int g578495), (0, .ref q410225), (1, .ref q410226)]) [0, 2, 3, 4, 5, 6] rfl ?_
                                  exact ih74_580270 F580426 z580441 (gB_w bz580441 (by decide) (by decide)) hT580442 hs580438 kp580439 kp580440 (fun k e1 ht => kt74_580271 k e1 (fun R c1 c2 c3 c4 c5 c6 c7 c8 c9 c10 c11 c12 c13 c14 c15 c16 c17 => c5 F580266 g580265 q579711 p580284 q579712 p580314 o580332 p580319 o580342 p580316 f580389 z580390 z580391 f580395 F580392 p580320 o580415 p580317 z580424 z580425 f580429 F580426 z580441 k e1 bg580265 hT580267 hs580268 x580269 x580270 fq580280 fq580291 fq580292 r580302 fq580303 r580310 fq580311 fq580326 bo580332 ht580333 r580335 fq580336 bo580342 ht580344 r580384 fq580385 fq580386 he580388 hz580390 hz580391 hf580395 n580394 he580403 fq580408 fq580409 bo580415 ht580417 r580421 fq580422 fq580423 he580403 hz580424 hz580425 hf580429 n580428 he580437 ez580441 (ht R c1 c2 c3 c4 c5 c6 c7 c8 c9 c10 c11 c12 c13 c14 c15 c16 c17))) (mz_up ez580441 (Int.le_trans bg580265'.2 (by decide)) hm74_580270)
                            · have r580443 : o580332.toInt ≠ 0 := gj_neq hc580334 (show Int32.toInt 0 = 0 by decide)
                              have bo580332' : gB o580332 1 1 := gB_t1 bo580332 r580443
                              refine G_aload_n 5 dr_cX17_weigh_131 rfl ?_
                              have fq580444 : fR (F580266 q410225) 5 = (γ 9 5) := by rw [he580278]; rfl
                              refine Gp_get 5 hm580279 he580278 dr_cX17_weigh_132 (gk_X17 D I) (Nat.le_of_ble_eq_true rfl) wr_7_79 rfl ?_
                              refine G_aload 0 dr_cX17_weigh_135 rfl ?_
                              have fq580445 : fI (F580266 q579712) 1 = p580315 := by rw [he580313]; rfl
                              refine Gp_get 1 hm580312 he580313 dr_cX17_weigh_137 (gk_X15 D I) (Nat.le_of_ble_eq_true rfl) wr_9_182 rfl ?_
                              refine G_dup2_11 dr_cX17_weigh_140 rfl rfl ?_
                              have hm580446 : (γ 9 5) ∈ P410223 := RS_m hT580267 ht410255 (by decide)
                              obtain ⟨f580448, he580447⟩ := show rk_17 I (F580266 (γ 9 5)) from RS_o hT580267 ht410255
                              refine Gp_iald 0 hm580446 he580447 dr_cX17_weigh_141 rfl (gB_in bp580315 (by decide) (by decide)) (G_nam fun z580449 hz580449 => ?_)
                              have bz580449 : gB z580449 (-2147483648) 2147483647 := gB_any z580449
                              refine G_iload_n 3 dr_cX17_weigh_142 rfl ?_
                              refine G_iadd dr_cX17_weigh_143 (G_nam fun z580450 hz580450 => ?_)
                              have bz580450 : gB z580450 (-2147483648) 2147483647 := gB_any z580450
                              refine Gp_iast 0 hm580446 he580447 dr_cX17_weigh_144 rfl (gB_in bp580315 (by decide) (by decide)) (fun F580451 e580452 n580453 => ?_)
                              obtain ⟨f580454, hf580454⟩ : ∃ z, z = upd f580448 p580315.toNatClampNeg z580450 := ⟨_, rfl⟩
                              rw [← hf580454] at e580452
                              have he580455 : F580451 q410226 = .inr (18, [.ref q578508, .ref q578509, .int p578510, .int p578511]) := (n580453 q410226 (rn_oa he580273 he580447)).trans he580273
                              have he580456 : F580451 q578508 = .inr (4, [.int p579682, .ref q579684, .int p579683]) := (n580453 q578508 (rn_oa he580274 he580447)).trans he580274
                              have he580457 : F580451 q579684 = .inl (I (.object "java/lang/Object"), n579698, .inr (.inr (.inr (.inr f579699)))) := (n580453 q579684 (rn_ref_num he580275 he580447)).trans he580275
                              have he580458 : F580451 q579701 = .inr (17, [.ref q579711, .ref q579712, .int p579713, .int p579714]) := (n580453 q579701 (rn_oa he580276 he580447)).trans he580276
                              have he580459 : F580451 q410225 = .inr (22, [.ref (γ 9 0), .ref (γ 9 1), .ref (γ 9 2), .ref (γ 9 3), .ref (γ 9 4), .ref (γ 9 5), .ref (γ 9 6), .ref (γ 9 7), .ref (γ 9 8), .int p410233, .int p410234, .int p410235, .int p410236, .int p410237, .int p410238, .ref (γ 9 15), .ref (γ 9 16), .ref (γ 9 17), .ref (γ 9 18), .ref (γ 9 19), .ref (γ 9 20), .ref (γ 9 21), .ref (γ 9 22), .int p410239, .int p410240, .int p410241, .int p410242, .int p410243, .ref q410231, .ref (γ 9 29), .int p410244, .ref (γ 9 31), .int p410245, .int p410246, .int p410247, .ref q410232]) := (n580453 q410225 (rn_oa he580278 he580447)).trans he580278
                              have he580460 : F580451 q579711 = .inr (4, [.int p580283, .ref q580285, .int p580284]) := (n580453 q579711 (rn_oa he580282 he580447)).trans he580282
                              have he580461 : F580451 q579712 = .inr (20, [.int p580314, .int p580315, .int p580316, .int p580317, .int p580318, .int p580319, .int p580320]) := (n580453 q579712 (rn_oa he580313 he580447)).trans he580313
                              have he580462 : F580451 (γ 9 5) = .inl (I .int, 2000, .inl f580454) := e580452
                              have hs580463 : rStr γ [] F410224 F580451 := rStr_put hs580268 n580453 ht410255 (by decide)
                              have kp580464 : F580451 q410225 = F410224 q410225 := (n580453 q410225 (rn_ty htq410225 ht410255 (by decide))).trans x580269
                              have kp580465 : F580451 (γ 9 3) = F410224 (γ 9 3) := (n580453 (γ 9 3) (rn_ty ht410253 ht410255 (by decide))).trans x580270
                              refine G_aload 0 dr_cX17_weigh_145 rfl ?_
                              have hT580466 : RS D I P410223 F580451 γ el := RS_set hT580267 n580453 ht410255 (by decide) ⟨f580454, he580462⟩
                              have fq580467 : fI (F580451 q579712) 0 = p580314 := by rw [he580461]; rfl
                              have fq580468 : fI (F580451 q579712) 5 = p580319 := by rw [he580461]; rfl
                              refine Gw_callV (As := []) (gV_ok D I) (cp_1675_Row_usesA l hl0 D I P410223 F580451 q579712 p580314 p580315 p580316 p580317 p580318 p580319 p580320 hm580312 he580461 bp580314 bp580315 bp580318 bp580319 bp580320) dr_cX17_weigh_147 ⟨wr_10_192, wr_1_39, wr_10_195, by decide, rfl, (Nat.le_of_ble_eq_true rfl), (Nat.le_of_ble_eq_true rfl)⟩ wr_10_193 wr_10_194 hm580312 he580461 rfl (show 0 + 0 ≤ 0 by first | omega | decide) (show 0 + 0 ≤ 0 by first | omega | decide) (Nat.le_of_ble_eq_true rfl) (fun r580472 w580473 dc580469 ds580470 hp580471 => ?_) (fun _ _ _ _ _ z => z.elim)
                              obtain ⟨o580474, rfl, rfl, hdc, hds, bo580474, x580475, ht580476⟩ := hp580471
                              change G _ _ _ _ _ _ _ (.int o580474 :: _) _ _ _
                              refine G_widen (cs' := 0) (sl' := 0) (by omega) (by omega) ?_
                              refine G_if_eq 167 dr_cX17_weigh_150 (by decide +kernel) (fun hc580477 => ?_) (fun hc580477 => ?_)
                              · have r580478 : o580474.toInt = 0 := gj_eq hc580477 (show Int32.toInt 0 = 0 by decide)
                                have bo580474' : gB o580474 0 0 := gB_t0 r580478
                                refine G_aload 0 dr_cX17_weigh_167 rfl ?_
                                have fq580479 : fI (F580451 q579712) 6 = p580320 := by rw [he580461]; rfl
                                refine Gw_callV (As := []) (gV_ok D I) (cp_1699_Row_usesB l hl0 D I P410223 F580451 q579712 p580314 p580315 p580316 p580317 p580318 p580319 p580320 hm580312 he580461 bp580314 bp580315 bp580318 bp580319 bp580320) dr_cX17_weigh_169 ⟨wr_10_196, wr_1_39, wr_10_199, by decide, rfl, (Nat.le_of_ble_eq_true rfl), (Nat.le_of_ble_eq_true rfl)⟩ wr_10_197 wr_10_198 hm580312 he580461 rfl (show 0 + 0 ≤ 0 by first | omega | decide) (show 0 + 0 ≤ 0 by first | omega | decide) (Nat.le_of_ble_eq_true rfl) (fun r580483 w580484 dc580480 ds580481 hp580482 => ?_) (fun _ _ _ _ _ z => z.elim)
                                obtain ⟨o580485, rfl, rfl, hdc, hds, bo580485, x580486, ht580487⟩ := hp580482
                                change G _ _ _ _ _ _ _ (.int o580485 :: _) _ _ _
                                refine G_widen (cs' := 0) (sl' := 0) (by omega) (by omega) ?_
                                refine G_if_eq 189 dr_cX17_weigh_172 (by decide +kernel) (fun hc580488 => ?_) (fun hc580488 => ?_)
                                · have r580489 : o580485.toInt = 0 := gj_eq hc580488 (show Int32.toInt 0 = 0 by decide)
                                  have bo580485' : gB o580485 0 0 := gB_t0 r580489
                                  obtain ⟨z580490, hz580490⟩ : ∃ z : Int32, z = g580265 + Int32.ofInt 1 := ⟨_, rfl⟩
                                  have ez580490 : z580490.toInt = g580265.toInt + 1 := gI_inc hz580490 (by decide) bg580265' (by decide) (by decide)
                                  have bz580490 : gB z580490 1 1000001 := ⟨by omega, by omega⟩
                                  refine G_iinc (L' := [(5, .int z580490), (6, .ref q579712), (4, .ref q579701), (3, .int g579670), (2, .int g578495), (0, .ref q410225), (1, .ref q410226)]) z580490 1 dr_cX17_weigh_189 rfl hz580490.symm (Nat.le_of_ble_eq_true rfl) rfl ?_
                                  refine G_goto 74 dr_cX17_weigh_192 (by decide +kernel) ?_
                                  refine G_lv (L' := [(5, .int z580490), (4, .ref q579701), (3, .int g579670), (2, .int g578495), (0, .ref q410225), (1, .ref q410226)]) [0, 2, 3, 4, 5, 6] rfl ?_
                                  exact ih74_580270 F580451 z580490 (gB_w bz580490 (by decide) (by decide)) hT580466 hs580463 kp580464 kp580465 (fun k e1 ht => kt74_580271 k e1 (fun R c1 c2 c3 c4 c5 c6 c7 c8 c9 c10 c11 c12 c13 c14 c15 c16 c17 => c6 F580266 g580265 q579711 p580284 q579712 p580314 o580332 p580315 f580448 z580449 z580450 f580454 F580451 p580319 o580474 p580320 o580485 z580490 k e1 bg580265 hT580267 hs580268 x580269 x580270 fq580280 fq580291 fq580292 r580302 fq580303 r580310 fq580311 fq580326 bo580332 ht580333 r580443 fq580444 fq580445 he580447 hz580449 hz580450 hf580454 n580453 he580462 fq580467 fq580468 bo580474 ht580476 r580478 fq580479 bo580485 ht580487 r580489 ez580490 (ht R c1 c2 c3 c4 c5 c6 c7 c8 c9 c10 c11 c12 c13 c14 c15 c16 c17))) (mz_up ez580490 (Int.le_trans bg580265'.2 (by decide)) hm74_580270)
                                · have r580491 : o580485.toInt ≠ 0 := gj_neq hc580488 (show Int32.toInt 0 = 0 by decide)
                                  have bo580485' : gB o580485 1 1 := gB_t1 bo580485 r580491
                                  refine G_aload_n 5 dr_cX17_weigh_175 rfl ?_
                                  have fq580492 : fR (F580451 q410225) 5 = (γ 9 5) := by rw [he580459]; rfl
                                  refine Gp_get 5 hm580279 he580459 dr_cX17_weigh_176 (gk_X17 D I) (Nat.le_of_ble_eq_true rfl) wr_7_79 rfl ?_
                                  refine G_aload 0 dr_cX17_weigh_179 rfl ?_
                                  have fq580493 : fI (F580451 q579712) 3 = p580317 := by rw [he580461]; rfl
                                  refine Gp_get 3 hm580312 he580461 dr_cX17_weigh_181 (gk_X15 D I) (Nat.le_of_ble_eq_true rfl) wr_9_190 rfl ?_
                                  refine G_dup2_11 dr_cX17_weigh_184 rfl rfl ?_
                                  refine Gp_iald 0 hm580446 he580462 dr_cX17_weigh_185 rfl (gB_inr (by omega) (by omega)) (G_nam fun z580494 hz580494 => ?_)
                                  have bz580494 : gB z580494 (-2147483648) 2147483647 := gB_any z580494
                                  refine G_iload_n 3 dr_cX17_weigh_186 rfl ?_
                                  refine G_iadd dr_cX17_weigh_187 (G_nam fun z580495 hz580495 => ?_)
                                  have bz580495 : gB z580495 (-2147483648) 2147483647 := gB_any z580495
                                  refine Gp_iast 0 hm580446 he580462 dr_cX17_weigh_188 rfl (gB_inr (by omega) (by omega)) (fun F580496 e580497 n580498 => ?_)
                                  obtain ⟨f580499, hf580499⟩ : ∃ z, z = upd f580454 p580317.toNatClampNeg z580495 := ⟨_, rfl⟩
                                  rw [← hf580499] at e580497
                                  have he580500 : F580496 q410226 = .inr (18, [.ref q578508, .ref q578509, .int p578510, .int p578511]) := (n580498 q410226 (rn_oa he580455 he580462)).trans he580455
                                  have he580501 : F580496 q578508 = .inr (4, [.int p579682, .ref q579684, .int p579683]) := (n580498 q578508 (rn_oa he580456 he580462)).trans he580456
                                  have he580502 : F580496 q579684 = .inl (I (.object "java/lang/Object"), n579698, .inr (.inr (.inr (.inr f579699)))) := (n580498 q579684 (rn_ref_num he580457 he580462)).trans he580457
                                  have he580503 : F580496 q579701 = .inr (17, [.ref q579711, .ref q579712, .int p579713, .int p579714]) := (n580498 q579701 (rn_oa he580458 he580462)).trans he580458
                                  have he580504 : F580496 q410225 = .inr (22, [.ref (γ 9 0), .ref (γ 9 1), .ref (γ 9 2), .ref (γ 9 3), .ref (γ 9 4), .ref (γ 9 5), .ref (γ 9 6), .ref (γ 9 7), .ref (γ 9 8), .int p410233, .int p410234, .int p410235, .int p410236, .int p410237, .int p410238, .ref (γ 9 15), .ref (γ 9 16), .ref (γ 9 17), .ref (γ 9 18), .ref (γ 9 19), .ref (γ 9 20), .ref (γ 9 21), .ref (γ 9 22), .int p410239, .int p410240, .int p410241, .int p410242, .int p410243, .ref q410231, .ref (γ 9 29), .int p410244, .ref (γ 9 31), .int p410245, .int p410246, .int p410247, .ref q410232]) := (n580498 q410225 (rn_oa he580459 he580462)).trans he580459
                                  have he580505 : F580496 q579711 = .inr (4, [.int p580283, .ref q580285, .int p580284]) := (n580498 q579711 (rn_oa he580460 he580462)).trans he580460
                                  have he580506 : F580496 q579712 = .inr (20, [.int p580314, .int p580315, .int p580316, .int p580317, .int p580318, .int p580319, .int p580320]) := (n580498 q579712 (rn_oa he580461 he580462)).trans he580461
                                  have he580507 : F580496 (γ 9 5) = .inl (I .int, 2000, .inl f580499) := e580497
                                  have hs580508 : rStr γ [] F410224 F580496 := rStr_put hs580463 n580498 ht410255 (by decide)
                                  have kp580509 : F580496 q410225 = F410224 q410225 := (n580498 q410225 (rn_ty htq410225 ht410255 (by decide))).trans kp580464
                                  have kp580510 : F580496 (γ 9 3) = F410224 (γ 9 3) := (n580498 (γ 9 3) (rn_ty ht410253 ht410255 (by decide))).trans kp580465
                                  obtain ⟨z580511, hz580511⟩ : ∃ z : Int32, z = g580265 + Int32.ofInt 1 := ⟨_, rfl⟩
                                  have ez580511 : z580511.toInt = g580265.toInt + 1 := gI_inc hz580511 (by decide) bg580265' (by decide) (by decide)
                                  have bz580511 : gB z580511 1 1000001 := ⟨by omega, by omega⟩
                                  refine G_iinc (L' := [(5, .int z580511), (6, .ref q579712), (4, .ref q579701), (3, .int g579670), (2, .int g578495), (0, .ref q410225), (1, .ref q410226)]) z580511 1 dr_cX17_weigh_189 rfl hz580511.symm (Nat.le_of_ble_eq_true rfl) rfl ?_
                                  refine G_goto 74 dr_cX17_weigh_192 (by decide +kernel) ?_
                                  have hT580512 : RS D I P410223 F580496 γ el := RS_set hT580466 n580498 ht410255 (by decide) ⟨f580499, he580507⟩
                                  refine G_lv (L' := [(5, .int z580511), (4, .ref q579701), (3, .int g579670), (2, .int g578495), (0, .ref q410225), (1, .ref q410226)]) [0, 2, 3, 4, 5, 6] rfl ?_
                                  exact ih74_580270 F580496 z580511 (gB_w bz580511 (by decide) (by decide)) hT580512 hs580508 kp580509 kp580510 (fun k e1 ht => kt74_580271 k e1 (fun R c1 c2 c3 c4 c5 c6 c7 c8 c9 c10 c11 c12 c13 c14 c15 c16 c17 => c7 F580266 g580265 q579711 p580284 q579712 p580314 o580332 p580315 f580448 z580449 z580450 f580454 F580451 p580319 o580474 p580320 o580485 p580317 z580494 z580495 f580499 F580496 z580511 k e1 bg580265 hT580267 hs580268 x580269 x580270 fq580280 fq580291 fq580292 r580302 fq580303 r580310 fq580311 fq580326 bo580332 ht580333 r580443 fq580444 fq580445 he580447 hz580449 hz580450 hf580454 n580453 he580462 fq580467 fq580468 bo580474 ht580476 r580478 fq580479 bo580485 ht580487 r580491 fq580492 fq580493 he580462 hz580494 hz580495 hf580499 n580498 he580507 ez580511 (ht R c1 c2 c3 c4 c5 c6 c7 c8 c9 c10 c11 c12 c13 c14 c15 c16 c17))) (mz_up ez580511 (Int.le_trans bg580265'.2 (by decide)) hm74_580270)
                              · have r580513 : o580474.toInt ≠ 0 := gj_neq hc580477 (show Int32.toInt 0 = 0 by decide)
                                have bo580474' : gB o580474 1 1 := gB_t1 bo580474 r580513
                                refine G_aload_n 5 dr_cX17_weigh_153 rfl ?_
                                have fq580514 : fR (F580451 q410225) 5 = (γ 9 5) := by rw [he580459]; rfl
                                refine Gp_get 5 hm580279 he580459 dr_cX17_weigh_154 (gk_X17 D I) (Nat.le_of_ble_eq_true rfl) wr_7_79 rfl ?_
                                refine G_aload 0 dr_cX17_weigh_157 rfl ?_
                                have fq580515 : fI (F580451 q579712) 2 = p580316 := by rw [he580461]; rfl
                                refine Gp_get 2 hm580312 he580461 dr_cX17_weigh_159 (gk_X15 D I) (Nat.le_of_ble_eq_true rfl) wr_9_186 rfl ?_
                                refine G_dup2_11 dr_cX17_weigh_162 rfl rfl ?_
                                refine Gp_iald 0 hm580446 he580462 dr_cX17_weigh_163 rfl (gB_inr (by omega) (by omega)) (G_nam fun z580516 hz580516 => ?_)
                                have bz580516 : gB z580516 (-2147483648) 2147483647 := gB_any z580516
                                refine G_iload_n 3 dr_cX17_weigh_164 rfl ?_
                                refine G_iadd dr_cX17_weigh_165 (G_nam fun z580517 hz580517 => ?_)
                                have bz580517 : gB z580517 (-2147483648) 2147483647 := gB_any z580517
                                refine Gp_iast 0 hm580446 he580462 dr_cX17_weigh_166 rfl (gB_inr (by omega) (by omega)) (fun F580518 e580519 n580520 => ?_)
                                obtain ⟨f580521, hf580521⟩ : ∃ z, z = upd f580454 p580316.toNatClampNeg z580517 := ⟨_, rfl⟩
                                rw [← hf580521] at e580519
                                have he580522 : F580518 q410226 = .inr (18, [.ref q578508, .ref q578509, .int p578510, .int p578511]) := (n580520 q410226 (rn_oa he580455 he580462)).trans he580455
                                have he580523 : F580518 q578508 = .inr (4, [.int p579682, .ref q579684, .int p579683]) := (n580520 q578508 (rn_oa he580456 he580462)).trans he580456
                                have he580524 : F580518 q579684 = .inl (I (.object "java/lang/Object"), n579698, .inr (.inr (.inr (.inr f579699)))) := (n580520 q579684 (rn_ref_num he580457 he580462)).trans he580457
                                have he580525 : F580518 q579701 = .inr (17, [.ref q579711, .ref q579712, .int p579713, .int p579714]) := (n580520 q579701 (rn_oa he580458 he580462)).trans he580458
                                have he580526 : F580518 q410225 = .inr (22, [.ref (γ 9 0), .ref (γ 9 1), .ref (γ 9 2), .ref (γ 9 3), .ref (γ 9 4), .ref (γ 9 5), .ref (γ 9 6), .ref (γ 9 7), .ref (γ 9 8), .int p410233, .int p410234, .int p410235, .int p410236, .int p410237, .int p410238, .ref (γ 9 15), .ref (γ 9 16), .ref (γ 9 17), .ref (γ 9 18), .ref (γ 9 19), .ref (γ 9 20), .ref (γ 9 21), .ref (γ 9 22), .int p410239, .int p410240, .int p410241, .int p410242, .int p410243, .ref q410231, .ref (γ 9 29), .int p410244, .ref (γ 9 31), .int p410245, .int p410246, .int p410247, .ref q410232]) := (n580520 q410225 (rn_oa he580459 he580462)).trans he580459
                                have he580527 : F580518 q579711 = .inr (4, [.int p580283, .ref q580285, .int p580284]) := (n580520 q579711 (rn_oa he580460 he580462)).trans he580460
                                have he580528 : F580518 q579712 = .inr (20, [.int p580314, .int p580315, .int p580316, .int p580317, .int p580318, .int p580319, .int p580320]) := (n580520 q579712 (rn_oa he580461 he580462)).trans he580461
                                have he580529 : F580518 (γ 9 5) = .inl (I .int, 2000, .inl f580521) := e580519
                                have hs580530 : rStr γ [] F410224 F580518 := rStr_put hs580463 n580520 ht410255 (by decide)
                                have kp580531 : F580518 q410225 = F410224 q410225 := (n580520 q410225 (rn_ty htq410225 ht410255 (by decide))).trans kp580464
                                have kp580532 : F580518 (γ 9 3) = F410224 (γ 9 3) := (n580520 (γ 9 3) (rn_ty ht410253 ht410255 (by decide))).trans kp580465
                                refine G_aload 0 dr_cX17_weigh_167 rfl ?_
                                have hT580533 : RS D I P410223 F580518 γ el := RS_set hT580466 n580520 ht410255 (by decide) ⟨f580521, he580529⟩
                                have fq580534 : fI (F580518 q579712) 0 = p580314 := by rw [he580528]; rfl
                                have fq580535 : fI (F580518 q579712) 6 = p580320 := by rw [he580528]; rfl
                                refine Gw_callV (As := []) (gV_ok D I) (cp_1699_Row_usesB l hl0 D I P410223 F580518 q579712 p580314 p580315 p580316 p580317 p580318 p580319 p580320 hm580312 he580528 bp580314 bp580315 bp580318 bp580319 bp580320) dr_cX17_weigh_169 ⟨wr_10_196, wr_1_39, wr_10_199, by decide, rfl, (Nat.le_of_ble_eq_true rfl), (Nat.le_of_ble_eq_true rfl)⟩ wr_10_197 wr_10_198 hm580312 he580528 rfl (show 0 + 0 ≤ 0 by first | omega | decide) (show 0 + 0 ≤ 0 by first | omega | decide) (Nat.le_of_ble_eq_true rfl) (fun r580539 w580540 dc580536 ds580537 hp580538 => ?_) (fun _ _ _ _ _ z => z.elim)
                                obtain ⟨o580541, rfl, rfl, hdc, hds, bo580541, x580542, ht580543⟩ := hp580538
                                change G _ _ _ _ _ _ _ (.int o580541 :: _) _ _ _
                                refine G_widen (cs' := 0) (sl' := 0) (by omega) (by omega) ?_
                                refine G_if_eq 189 dr_cX17_weigh_172 (by decide +kernel) (fun hc580544 => ?_) (fun hc580544 => ?_)
                                · have r580545 : o580541.toInt = 0 := gj_eq hc580544 (show Int32.toInt 0 = 0 by decide)
                                  have bo580541' : gB o580541 0 0 := gB_t0 r580545
                                  obtain ⟨z580546, hz580546⟩ : ∃ z : Int32, z = g580265 + Int32.ofInt 1 := ⟨_, rfl⟩
                                  have ez580546 : z580546.toInt = g580265.toInt + 1 := gI_inc hz580546 (by decide) bg580265' (by decide) (by decide)
                                  have bz580546 : gB z580546 1 1000001 := ⟨by omega, by omega⟩
                                  refine G_iinc (L' := [(5, .int z580546), (6, .ref q579712), (4, .ref q579701), (3, .int g579670), (2, .int g578495), (0, .ref q410225), (1, .ref q410226)]) z580546 1 dr_cX17_weigh_189 rfl hz580546.symm (Nat.le_of_ble_eq_true rfl) rfl ?_
                                  refine G_goto 74 dr_cX17_weigh_192 (by decide +kernel) ?_
                                  refine G_lv (L' := [(5, .int z580546), (4, .ref q579701), (3, .int g579670), (2, .int g578495), (0, .ref q410225), (1, .ref q410226)]) [0, 2, 3, 4, 5, 6] rfl ?_
                                  exact ih74_580270 F580518 z580546 (gB_w bz580546 (by decide) (by decide)) hT580533 hs580530 kp580531 kp580532 (fun k e1 ht => kt74_580271 k e1 (fun R c1 c2 c3 c4 c5 c6 c7 c8 c9 c10 c11 c12 c13 c14 c15 c16 c17 => c8 F580266 g580265 q579711 p580284 q579712 p580314 o580332 p580315 f580448 z580449 z580450 f580454 F580451 p580319 o580474 p580316 z580516 z580517 f580521 F580518 p580320 o580541 z580546 k e1 bg580265 hT580267 hs580268 x580269 x580270 fq580280 fq580291 fq580292 r580302 fq580303 r580310 fq580311 fq580326 bo580332 ht580333 r580443 fq580444 fq580445 he580447 hz580449 hz580450 hf580454 n580453 he580462 fq580467 fq580468 bo580474 ht580476 r580513 fq580514 fq580515 he580462 hz580516 hz580517 hf580521 n580520 he580529 fq580534 fq580535 bo580541 ht580543 r580545 ez580546 (ht R c1 c2 c3 c4 c5 c6 c7 c8 c9 c10 c11 c12 c13 c14 c15 c16 c17))) (mz_up ez580546 (Int.le_trans bg580265'.2 (by decide)) hm74_580270)
                                · have r580547 : o580541.toInt ≠ 0 := gj_neq hc580544 (show Int32.toInt 0 = 0 by decide)
                                  have bo580541' : gB o580541 1 1 := gB_t1 bo580541 r580547
                                  refine G_aload_n 5 dr_cX17_weigh_175 rfl ?_
                                  have fq580548 : fR (F580518 q410225) 5 = (γ 9 5) := by rw [he580526]; rfl
                                  refine Gp_get 5 hm580279 he580526 dr_cX17_weigh_176 (gk_X17 D I) (Nat.le_of_ble_eq_true rfl) wr_7_79 rfl ?_
                                  refine G_aload 0 dr_cX17_weigh_179 rfl ?_
                                  have fq580549 : fI (F580518 q579712) 3 = p580317 := by rw [he580528]; rfl
                                  refine Gp_get 3 hm580312 he580528 dr_cX17_weigh_181 (gk_X15 D I) (Nat.le_of_ble_eq_true rfl) wr_9_190 rfl ?_
                                  refine G_dup2_11 dr_cX17_weigh_184 rfl rfl ?_
                                  refine Gp_iald 0 hm580446 he580529 dr_cX17_weigh_185 rfl (gB_inr (by omega) (by omega)) (G_nam fun z580550 hz580550 => ?_)
                                  have bz580550 : gB z580550 (-2147483648) 2147483647 := gB_any z580550
                                  refine G_iload_n 3 dr_cX17_weigh_186 rfl ?_
                                  refine G_iadd dr_cX17_weigh_187 (G_nam fun z580551 hz580551 => ?_)
                                  have bz580551 : gB z580551 (-2147483648) 2147483647 := gB_any z580551
                                  refine Gp_iast 0 hm580446 he580529 dr_cX17_weigh_188 rfl (gB_inr (by omega) (by omega)) (fun F580552 e580553 n580554 => ?_)
                                  obtain ⟨f580555, hf580555⟩ : ∃ z, z = upd f580521 p580317.toNatClampNeg z580551 := ⟨_, rfl⟩
                                  rw [← hf580555] at e580553
                                  have he580556 : F580552 q410226 = .inr (18, [.ref q578508, .ref q578509, .int p578510, .int p578511]) := (n580554 q410226 (rn_oa he580522 he580529)).trans he580522
                                  have he580557 : F580552 q578508 = .inr (4, [.int p579682, .ref q579684, .int p579683]) := (n580554 q578508 (rn_oa he580523 he580529)).trans he580523
                                  have he580558 : F580552 q579684 = .inl (I (.object "java/lang/Object"), n579698, .inr (.inr (.inr (.inr f579699)))) := (n580554 q579684 (rn_ref_num he580524 he580529)).trans he580524
                                  have he580559 : F580552 q579701 = .inr (17, [.ref q579711, .ref q579712, .int p579713, .int p579714]) := (n580554 q579701 (rn_oa he580525 he580529)).trans he580525
                                  have he580560 : F580552 q410225 = .inr (22, [.ref (γ 9 0), .ref (γ 9 1), .ref (γ 9 2), .ref (γ 9 3), .ref (γ 9 4), .ref (γ 9 5), .ref (γ 9 6), .ref (γ 9 7), .ref (γ 9 8), .int p410233, .int p410234, .int p410235, .int p410236, .int p410237, .int p410238, .ref (γ 9 15), .ref (γ 9 16), .ref (γ 9 17), .ref (γ 9 18), .ref (γ 9 19), .ref (γ 9 20), .ref (γ 9 21), .ref (γ 9 22), .int p410239, .int p410240, .int p410241, .int p410242, .int p410243, .ref q410231, .ref (γ 9 29), .int p410244, .ref (γ 9 31), .int p410245, .int p410246, .int p410247, .ref q410232]) := (n580554 q410225 (rn_oa he580526 he580529)).trans he580526
                                  have he580561 : F580552 q579711 = .inr (4, [.int p580283, .ref q580285, .int p580284]) := (n580554 q579711 (rn_oa he580527 he580529)).trans he580527
                                  have he580562 : F580552 q579712 = .inr (20, [.int p580314, .int p580315, .int p580316, .int p580317, .int p580318, .int p580319, .int p580320]) := (n580554 q579712 (rn_oa he580528 he580529)).trans he580528
                                  have he580563 : F580552 (γ 9 5) = .inl (I .int, 2000, .inl f580555) := e580553
                                  have hs580564 : rStr γ [] F410224 F580552 := rStr_put hs580530 n580554 ht410255 (by decide)
                                  have kp580565 : F580552 q410225 = F410224 q410225 := (n580554 q410225 (rn_ty htq410225 ht410255 (by decide))).trans kp580531
                                  have kp580566 : F580552 (γ 9 3) = F410224 (γ 9 3) := (n580554 (γ 9 3) (rn_ty ht410253 ht410255 (by decide))).trans kp580532
                                  obtain ⟨z580567, hz580567⟩ : ∃ z : Int32, z = g580265 + Int32.ofInt 1 := ⟨_, rfl⟩
                                  have ez580567 : z580567.toInt = g580265.toInt + 1 := gI_inc hz580567 (by decide) bg580265' (by decide) (by decide)
                                  have bz580567 : gB z580567 1 1000001 := ⟨by omega, by omega⟩
                                  refine G_iinc (L' := [(5, .int z580567), (6, .ref q579712), (4, .ref q579701), (3, .int g579670), (2, .int g578495), (0, .ref q410225), (1, .ref q410226)]) z580567 1 dr_cX17_weigh_189 rfl hz580567.symm (Nat.le_of_ble_eq_true rfl) rfl ?_
                                  refine G_goto 74 dr_cX17_weigh_192 (by decide +kernel) ?_
                                  have hT580568 : RS D I P410223 F580552 γ el := RS_set hT580533 n580554 ht410255 (by decide) ⟨f580555, he580563⟩
                                  refine G_lv (L' := [(5, .int z580567), (4, .ref q579701), (3, .int g579670), (2, .int g578495), (0, .ref q410225), (1, .ref q410226)]) [0, 2, 3, 4, 5, 6] rfl ?_
                                  exact ih74_580270 F580552 z580567 (gB_w bz580567 (by decide) (by decide)) hT580568 hs580564 kp580565 kp580566 (fun k e1 ht => kt74_580271 k e1 (fun R c1 c2 c3 c4 c5 c6 c7 c8 c9 c10 c11 c12 c13 c14 c15 c16 c17 => c9 F580266 g580265 q579711 p580284 q579712 p580314 o580332 p580315 f580448 z580449 z580450 f580454 F580451 p580319 o580474 p580316 z580516 z580517 f580521 F580518 p580320 o580541 p580317 z580550 z580551 f580555 F580552 z580567 k e1 bg580265 hT580267 hs580268 x580269 x580270 fq580280 fq580291 fq580292 r580302 fq580303 r580310 fq580311 fq580326 bo580332 ht580333 r580443 fq580444 fq580445 he580447 hz580449 hz580450 hf580454 n580453 he580462 fq580467 fq580468 bo580474 ht580476 r580513 fq580514 fq580515 he580462 hz580516 hz580517 hf580521 n580520 he580529 fq580534 fq580535 bo580541 ht580543 r580547 fq580548 fq580549 he580529 hz580550 hz580551 hf580555 n580554 he580563 ez580567 (ht R c1 c2 c3 c4 c5 c6 c7 c8 c9 c10 c11 c12 c13 c14 c15 c16 c17))) (mz_up ez580567 (Int.le_trans bg580265'.2 (by decide)) hm74_580270)
                          · have r580569 : g580265.toInt < p580284.toInt := gC_nle hc580309
                            have bg580265'' : gB g580265 0 999999 := ⟨by omega, by omega⟩
                            have bp580284' : gB p580284 1 1000000 := ⟨by omega, by omega⟩
                            refine G_aload 1 dr_cX17_weigh_100 rfl ?_
                            refine Gp_get 0 hm579709 he580276 dr_cX17_weigh_102 (gk_X12 D I) (Nat.le_of_ble_eq_true rfl) wr_9_220 rfl ?_
                            refine G_iload 0 dr_cX17_weigh_105 rfl ?_
                            obtain ⟨r580570, r580571, n580578, f580579, r580572, r580573, r580574, r580575, r580576, r580577⟩ := rLC_n r580288 (by omega)
                            have hm580580 : q580285 ∈ P410223 := RS_m hT580267 r580570 (by decide)
                            obtain ⟨q580581, hx580582⟩ : ∃ x, x = el q579711 g580265.toInt.toNat := ⟨_, rfl⟩
                            have hx580583 : f580579 g580265.toNatClampNeg = some q580581 := (r580576 _ (show g580265.toInt.toNat < γ 2 q579711 by omega)).trans (by rw [hx580582])
                            have ht580584 : rKd γ q580581 1 := by rw [hx580582]; exact (r580289 _ (show g580265.toInt.toNat < γ 2 q579711 by omega)).1
                            have ht580585 : rFm γ q580581 q579711 := by rw [hx580582]; exact (r580289 _ (show g580265.toInt.toNat < γ 2 q579711 by omega)).2.1
                            refine Gw_callV (As := [.int g580265]) (gV_ok D I) (cp_22_ArrayList_get l hl0 D I P410223 F580266 q579711 q580285 g580265 p580283 p580284 f580579 n580578 q580581 hm580281 hm580580 he580282 r580572 (gB_w bg580265'' (by decide) (by decide)) (gB_w bp580284' (by decide) (by decide)) (by omega) (by omega) (by assumption) (by omega)) dr_cX17_weigh_107 ⟨wr_10_201, wr_1_18, wr_10_65, by decide, rfl, (Nat.le_of_ble_eq_true rfl), (Nat.le_of_ble_eq_true rfl)⟩ wr_10_63 wr_10_64 hm580281 he580282 rfl (show 0 + 0 ≤ 0 by first | omega | decide) (show 0 + 0 ≤ 0 by first | omega | decide) (Nat.le_of_ble_eq_true rfl) (fun r580589 w580590 dc580586 ds580587 hp580588 => ?_) (fun _ _ _ _ _ z => z.elim)
                            obtain ⟨rfl, rfl, hdc, hds, ht580591⟩ := hp580588
                            change G _ _ _ _ _ _ _ (.ref q580581 :: _) _ _ _
                            refine G_widen (cs' := 0) (sl' := 0) (by omega) (by omega) ?_
                            have hm580592 : q580581 ∈ P410223 := RS_m hT580267 ht580584 (by decide)
                            obtain ⟨p580594, p580595, p580596, p580597, p580598, p580599, p580600, he580593, bp580594, bp580595, bp580598, bp580599, bp580600, r580601, r580602, r580603, r580604, r580605⟩ := show rk_1 γ q580581 (F580266 q580581) from RS_o hT580267 ht580584
                            have bp580596 := gB_any p580596
                            have bp580597 := gB_any p580597
                            refine Gp_cast hm580592 he580593 rfl dr_cX17_weigh_110 wr_10_202 (gr_cast 1 rfl) ?_
                            refine G_goto 121 dr_cX17_weigh_113 (by decide +kernel) ?_
                            refine G_astore (L' := [(6, .ref q580581), (5, .int g580265), (4, .ref q579701), (3, .int g579670), (2, .int g578495), (0, .ref q410225), (1, .ref q410226)]) dr_cX17_weigh_121 (Nat.le_of_ble_eq_true rfl) rfl ?_
                            refine G_aload 0 dr_cX17_weigh_123 rfl ?_
                            have fq580606 : fI (F580266 q580581) 0 = p580594 := by rw [he580593]; rfl
                            refine Gw_callV (As := []) (gV_ok D I) (cp_1660_Row_sets l hl0 D I P410223 F580266 q580581 p580594 p580595 p580596 p580597 p580598 p580599 p580600 hm580592 he580593 bp580594 bp580595 bp580598 bp580599 bp580600) dr_cX17_weigh_125 ⟨wr_10_181, wr_1_39, wr_10_184, by decide, rfl, (Nat.le_of_ble_eq_true rfl), (Nat.le_of_ble_eq_true rfl)⟩ wr_10_182 wr_10_183 hm580592 he580593 rfl (show 0 + 0 ≤ 0 by first | omega | decide) (show 0 + 0 ≤ 0 by first | omega | decide) (Nat.le_of_ble_eq_true rfl) (fun r580610 w580611 dc580607 ds580608 hp580609 => ?_) (fun _ _ _ _ _ z => z.elim)
                            obtain ⟨o580612, rfl, rfl, hdc, hds, bo580612, ht580613⟩ := hp580609
                            change G _ _ _ _ _ _ _ (.int o580612 :: _) _ _ _
                            refine G_widen (cs' := 0) (sl' := 0) (by omega) (by omega) ?_
                            refine G_if_eq 145 dr_cX17_weigh_128 (by decide +kernel) (fun hc580614 => ?_) (fun hc580614 => ?_)
                            · have r580615 : o580612.toInt = 0 := gj_eq hc580614 (show Int32.toInt 0 = 0 by decide)
                              have bo580612' : gB o580612 0 0 := gB_t0 r580615
                              refine G_aload 0 dr_cX17_weigh_145 rfl ?_
                              have fq580616 : fI (F580266 q580581) 5 = p580599 := by rw [he580593]; rfl
                              refine Gw_callV (As := []) (gV_ok D I) (cp_1675_Row_usesA l hl0 D I P410223 F580266 q580581 p580594 p580595 p580596 p580597 p580598 p580599 p580600 hm580592 he580593 bp580594 bp580595 bp580598 bp580599 bp580600) dr_cX17_weigh_147 ⟨wr_10_192, wr_1_39, wr_10_195, by decide, rfl, (Nat.le_of_ble_eq_true rfl), (Nat.le_of_ble_eq_true rfl)⟩ wr_10_193 wr_10_194 hm580592 he580593 rfl (show 0 + 0 ≤ 0 by first | omega | decide) (show 0 + 0 ≤ 0 by first | omega | decide) (Nat.le_of_ble_eq_true rfl) (fun r580620 w580621 dc580617 ds580618 hp580619 => ?_) (fun _ _ _ _ _ z => z.elim)
                              obtain ⟨o580622, rfl, rfl, hdc, hds, bo580622, x580623, ht580624⟩ := hp580619
                              change G _ _ _ _ _ _ _ (.int o580622 :: _) _ _ _
                              refine G_widen (cs' := 0) (sl' := 0) (by omega) (by omega) ?_
                              refine G_if_eq 167 dr_cX17_weigh_150 (by decide +kernel) (fun hc580625 => ?_) (fun hc580625 => ?_)
                              · have r580626 : o580622.toInt = 0 := gj_eq hc580625 (show Int32.toInt 0 = 0 by decide)
                                have bo580622' : gB o580622 0 0 := gB_t0 r580626
                                refine G_aload 0 dr_cX17_weigh_167 rfl ?_
                                have fq580627 : fI (F580266 q580581) 6 = p580600 := by rw [he580593]; rfl
                                refine Gw_callV (As := []) (gV_ok D I) (cp_1699_Row_usesB l hl0 D I P410223 F580266 q580581 p580594 p580595 p580596 p580597 p580598 p580599 p580600 hm580592 he580593 bp580594 bp580595 bp580598 bp580599 bp580600) dr_cX17_weigh_169 ⟨wr_10_196, wr_1_39, wr_10_199, by decide, rfl, (Nat.le_of_ble_eq_true rfl), (Nat.le_of_ble_eq_true rfl)⟩ wr_10_197 wr_10_198 hm580592 he580593 rfl (show 0 + 0 ≤ 0 by first | omega | decide) (show 0 + 0 ≤ 0 by first | omega | decide) (Nat.le_of_ble_eq_true rfl) (fun r580631 w580632 dc580628 ds580629 hp580630 => ?_) (fun _ _ _ _ _ z => z.elim)
                                obtain ⟨o580633, rfl, rfl, hdc, hds, bo580633, x580634, ht580635⟩ := hp580630
                                change G _ _ _ _ _ _ _ (.int o580633 :: _) _ _ _
                                refine G_widen (cs' := 0) (sl' := 0) (by omega) (by omega) ?_
                                refine G_if_eq 189 dr_cX17_weigh_172 (by decide +kernel) (fun hc580636 => ?_) (fun hc580636 => ?_)
                                · have r580637 : o580633.toInt = 0 := gj_eq hc580636 (show Int32.toInt 0 = 0 by decide)
                                  have bo580633' : gB o580633 0 0 := gB_t0 r580637
                                  obtain ⟨z580638, hz580638⟩ : ∃ z : Int32, z = g580265 + Int32.ofInt 1 := ⟨_, rfl⟩
                                  have ez580638 : z580638.toInt = g580265.toInt + 1 := gI_inc hz580638 (by decide) bg580265'' (by decide) (by decide)
                                  have bz580638 : gB z580638 1 1000000 := ⟨by omega, by omega⟩
                                  refine G_iinc (L' := [(5, .int z580638), (6, .ref q580581), (4, .ref q579701), (3, .int g579670), (2, .int g578495), (0, .ref q410225), (1, .ref q410226)]) z580638 1 dr_cX17_weigh_189 rfl hz580638.symm (Nat.le_of_ble_eq_true rfl) rfl ?_
                                  refine G_goto 74 dr_cX17_weigh_192 (by decide +kernel) ?_
                                  refine G_lv (L' := [(5, .int z580638), (4, .ref q579701), (3, .int g579670), (2, .int g578495), (0, .ref q410225), (1, .ref q410226)]) [0, 2, 3, 4, 5, 6] rfl ?_
                                  exact ih74_580270 F580266 z580638 (gB_w bz580638 (by decide) (by decide)) hT580267 hs580268 x580269 x580270 (fun k e1 ht => kt74_580271 k e1 (fun R c1 c2 c3 c4 c5 c6 c7 c8 c9 c10 c11 c12 c13 c14 c15 c16 c17 => c10 F580266 g580265 q579711 p580284 q580581 p580594 o580612 p580599 o580622 p580600 o580633 z580638 k e1 bg580265 hT580267 hs580268 x580269 x580270 fq580280 fq580291 fq580292 r580302 fq580303 r580569 hx580582 ht580591 fq580606 bo580612 ht580613 r580615 fq580616 bo580622 ht580624 r580626 fq580627 bo580633 ht580635 r580637 ez580638 (ht R c1 c2 c3 c4 c5 c6 c7 c8 c9 c10 c11 c12 c13 c14 c15 c16 c17))) (mz_up ez580638 (Int.le_trans bg580265''.2 (by decide)) hm74_580270)
                                · have r580639 : o580633.toInt ≠ 0 := gj_neq hc580636 (show Int32.toInt 0 = 0 by decide)
                                  have bo580633' : gB o580633 1 1 := gB_t1 bo580633 r580639
                                  refine G_aload_n 5 dr_cX17_weigh_175 rfl ?_
                                  have fq580640 : fR (F580266 q410225) 5 = (γ 9 5) := by rw [he580278]; rfl
                                  refine Gp_get 5 hm580279 he580278 dr_cX17_weigh_176 (gk_X17 D I) (Nat.le_of_ble_eq_true rfl) wr_7_79 rfl ?_
                                  refine G_aload 0 dr_cX17_weigh_179 rfl ?_
                                  have fq580641 : fI (F580266 q580581) 3 = p580597 := by rw [he580593]; rfl
                                  refine Gp_get 3 hm580592 he580593 dr_cX17_weigh_181 (gk_X15 D I) (Nat.le_of_ble_eq_true rfl) wr_9_190 rfl ?_
                                  refine G_dup2_11 dr_cX17_weigh_184 rfl rfl ?_
                                  have hm580642 : (γ 9 5) ∈ P410223 := RS_m hT580267 ht410255 (by decide)
                                  obtain ⟨f580644, he580643⟩ := show rk_17 I (F580266 (γ 9 5)) from RS_o hT580267 ht410255
                                  refine Gp_iald 0 hm580642 he580643 dr_cX17_weigh_185 rfl (gB_inr (by omega) (by omega)) (G_nam fun z580645 hz580645 => ?_)
                                  have bz580645 : gB z580645 (-2147483648) 2147483647 := gB_any z580645
                                  refine G_iload_n 3 dr_cX17_weigh_186 rfl ?_
                                  refine G_iadd dr_cX17_weigh_187 (G_nam fun z580646 hz580646 => ?_)
                                  have bz580646 : gB z580646 (-2147483648) 2147483647 := gB_any z580646
                                  refine Gp_iast 0 hm580642 he580643 dr_cX17_weigh_188 rfl (gB_inr (by omega) (by omega)) (fun F580647 e580648 n580649 => ?_)
                                  obtain ⟨f580650, hf580650⟩ : ∃ z, z = upd f580644 p580597.toNatClampNeg z580646 := ⟨_, rfl⟩
                                  rw [← hf580650] at e580648
                                  have he580651 : F580647 q410226 = .inr (18, [.ref q578508, .ref q578509, .int p578510, .int p578511]) := (n580649 q410226 (rn_oa he580273 he580643)).trans he580273
                                  have he580652 : F580647 q578508 = .inr (4, [.int p579682, .ref q579684, .int p579683]) := (n580649 q578508 (rn_oa he580274 he580643)).trans he580274
                                  have he580653 : F580647 q579684 = .inl (I (.object "java/lang/Object"), n579698, .inr (.inr (.inr (.inr f579699)))) := (n580649 q579684 (rn_ref_num he580275 he580643)).trans he580275
                                  have he580654 : F580647 q579701 = .inr (17, [.ref q579711, .ref q579712, .int p579713, .int p579714]) := (n580649 q579701 (rn_oa he580276 he580643)).trans he580276
                                  have he580655 : F580647 q410225 = .inr (22, [.ref (γ 9 0), .ref (γ 9 1), .ref (γ 9 2), .ref (γ 9 3), .ref (γ 9 4), .ref (γ 9 5), .ref (γ 9 6), .ref (γ 9 7), .ref (γ 9 8), .int p410233, .int p410234, .int p410235, .int p410236, .int p410237, .int p410238, .ref (γ 9 15), .ref (γ 9 16), .ref (γ 9 17), .ref (γ 9 18), .ref (γ 9 19), .ref (γ 9 20), .ref (γ 9 21), .ref (γ 9 22), .int p410239, .int p410240, .int p410241, .int p410242, .int p410243, .ref q410231, .ref (γ 9 29), .int p410244, .ref (γ 9 31), .int p410245, .int p410246, .int p410247, .ref q410232]) := (n580649 q410225 (rn_oa he580278 he580643)).trans he580278
                                  have he580656 : F580647 q579711 = .inr (4, [.int p580283, .ref q580285, .int p580284]) := (n580649 q579711 (rn_oa he580282 he580643)).trans he580282
                                  have he580657 : F580647 q580285 = .inl (I (.object "java/lang/Object"), n580578, .inr (.inr (.inr (.inr f580579)))) := (n580649 q580285 (rn_ref_num r580572 he580643)).trans r580572
                                  have he580658 : F580647 q580581 = .inr (20, [.int p580594, .int p580595, .int p580596, .int p580597, .int p580598, .int p580599, .int p580600]) := (n580649 q580581 (rn_oa he580593 he580643)).trans he580593
                                  have he580659 : F580647 (γ 9 5) = .inl (I .int, 2000, .inl f580650) := e580648
                                  have hs580660 : rStr γ [] F410224 F580647 := rStr_put hs580268 n580649 ht410255 (by decide)
                                  have kp580661 : F580647 q410225 = F410224 q410225 := (n580649 q410225 (rn_ty htq410225 ht410255 (by decide))).trans x580269
                                  have kp580662 : F580647 (γ 9 3) = F410224 (γ 9 3) := (n580649 (γ 9 3) (rn_ty ht410253 ht410255 (by decide))).trans x580270
                                  obtain ⟨z580663, hz580663⟩ : ∃ z : Int32, z = g580265 + Int32.ofInt 1 := ⟨_, rfl⟩
                                  have ez580663 : z580663.toInt = g580265.toInt + 1 := gI_inc hz580663 (by decide) bg580265'' (by decide) (by decide)
                                  have bz580663 : gB z580663 1 1000000 := ⟨by omega, by omega⟩
                                  refine G_iinc (L' := [(5, .int z580663), (6, .ref q580581), (4, .ref q579701), (3, .int g579670), (2, .int g578495), (0, .ref q410225), (1, .ref q410226)]) z580663 1 dr_cX17_weigh_189 rfl hz580663.symm (Nat.le_of_ble_eq_true rfl) rfl ?_
                                  refine G_goto 74 dr_cX17_weigh_192 (by decide +kernel) ?_
                                  have hT580664 : RS D I P410223 F580647 γ el := RS_set hT580267 n580649 ht410255 (by decide) ⟨f580650, he580659⟩
                                  refine G_lv (L' := [(5, .int z580663), (4, .ref q579701), (3, .int g579670), (2, .int g578495), (0, .ref q410225), (1, .ref q410226)]) [0, 2, 3, 4, 5, 6] rfl ?_
                                  exact ih74_580270 F580647 z580663 (gB_w bz580663 (by decide) (by decide)) hT580664 hs580660 kp580661 kp580662 (fun k e1 ht => kt74_580271 k e1 (fun R c1 c2 c3 c4 c5 c6 c7 c8 c9 c10 c11 c12 c13 c14 c15 c16 c17 => c11 F580266 g580265 q579711 p580284 q580581 p580594 o580612 p580599 o580622 p580600 o580633 p580597 f580644 z580645 z580646 f580650 F580647 z580663 k e1 bg580265 hT580267 hs580268 x580269 x580270 fq580280 fq580291 fq580292 r580302 fq580303 r580569 hx580582 ht580591 fq580606 bo580612 ht580613 r580615 fq580616 bo580622 ht580624 r580626 fq580627 bo580633 ht580635 r580639 fq580640 fq580641 he580643 hz580645 hz580646 hf580650 n580649 he580659 ez580663 (ht R c1 c2 c3 c4 c5 c6 c7 c8 c9 c10 c11 c12 c13 c14 c15 c16 c17))) (mz_up ez580663 (Int.le_trans bg580265''.2 (by decide)) hm74_580270)
                              · have r580665 : o580622.toInt ≠ 0 := gj_neq hc580625 (show Int32.toInt 0 = 0 by decide)
                                have bo580622' : gB o580622 1 1 := gB_t1 bo580622 r580665
                                refine G_aload_n 5 dr_cX17_weigh_153 rfl ?_
                                have fq580666 : fR (F580266 q410225) 5 = (γ 9 5) := by rw [he580278]; rfl
                                refine Gp_get 5 hm580279 he580278 dr_cX17_weigh_154 (gk_X17 D I) (Nat.le_of_ble_eq_true rfl) wr_7_79 rfl ?_
                                refine G_aload 0 dr_cX17_weigh_157 rfl ?_
                                have fq580667 : fI (F580266 q580581) 2 = p580596 := by rw [he580593]; rfl
                                refine Gp_get 2 hm580592 he580593 dr_cX17_weigh_159 (gk_X15 D I) (Nat.le_of_ble_eq_true rfl) wr_9_186 rfl ?_
                                refine G_dup2_11 dr_cX17_weigh_162 rfl rfl ?_
                                have hm580668 : (γ 9 5) ∈ P410223 := RS_m hT580267 ht410255 (by decide)
                                obtain ⟨f580670, he580669⟩ := show rk_17 I (F580266 (γ 9 5)) from RS_o hT580267 ht410255
                                refine Gp_iald 0 hm580668 he580669 dr_cX17_weigh_163 rfl (gB_inr (by omega) (by omega)) (G_nam fun z580671 hz580671 => ?_)
                                have bz580671 : gB z580671 (-2147483648) 2147483647 := gB_any z580671
                                refine G_iload_n 3 dr_cX17_weigh_164 rfl ?_
                                refine G_iadd dr_cX17_weigh_165 (G_nam fun z580672 hz580672 => ?_)
                                have bz580672 : gB z580672 (-2147483648) 2147483647 := gB_any z580672
                                refine Gp_iast 0 hm580668 he580669 dr_cX17_weigh_166 rfl (gB_inr (by omega) (by omega)) (fun F580673 e580674 n580675 => ?_)
                                obtain ⟨f580676, hf580676⟩ : ∃ z, z = upd f580670 p580596.toNatClampNeg z580672 := ⟨_, rfl⟩
                                rw [← hf580676] at e580674
                                have he580677 : F580673 q410226 = .inr (18, [.ref q578508, .ref q578509, .int p578510, .int p578511]) := (n580675 q410226 (rn_oa he580273 he580669)).trans he580273
                                have he580678 : F580673 q578508 = .inr (4, [.int p579682, .ref q579684, .int p579683]) := (n580675 q578508 (rn_oa he580274 he580669)).trans he580274
                                have he580679 : F580673 q579684 = .inl (I (.object "java/lang/Object"), n579698, .inr (.inr (.inr (.inr f579699)))) := (n580675 q579684 (rn_ref_num he580275 he580669)).trans he580275
                                have he580680 : F580673 q579701 = .inr (17, [.ref q579711, .ref q579712, .int p579713, .int p579714]) := (n580675 q579701 (rn_oa he580276 he580669)).trans he580276
                                have he580681 : F580673 q410225 = .inr (22, [.ref (γ 9 0), .ref (γ 9 1), .ref (γ 9 2), .ref (γ 9 3), .ref (γ 9 4), .ref (γ 9 5), .ref (γ 9 6), .ref (γ 9 7), .ref (γ 9 8), .int p410233, .int p410234, .int p410235, .int p410236, .int p410237, .int p410238, .ref (γ 9 15), .ref (γ 9 16), .ref (γ 9 17), .ref (γ 9 18), .ref (γ 9 19), .ref (γ 9 20), .ref (γ 9 21), .ref (γ 9 22), .int p410239, .int p410240, .int p410241, .int p410242, .int p410243, .ref q410231, .ref (γ 9 29), .int p410244, .ref (γ 9 31), .int p410245, .int p410246, .int p410247, .ref q410232]) := (n580675 q410225 (rn_oa he580278 he580669)).trans he580278
                                have he580682 : F580673 q579711 = .inr (4, [.int p580283, .ref q580285, .int p580284]) := (n580675 q579711 (rn_oa he580282 he580669)).trans he580282
                                have he580683 : F580673 q580285 = .inl (I (.object "java/lang/Object"), n580578, .inr (.inr (.inr (.inr f580579)))) := (n580675 q580285 (rn_ref_num r580572 he580669)).trans r580572
                                have he580684 : F580673 q580581 = .inr (20, [.int p580594, .int p580595, .int p580596, .int p580597, .int p580598, .int p580599, .int p580600]) := (n580675 q580581 (rn_oa he580593 he580669)).trans he580593
                                have he580685 : F580673 (γ 9 5) = .inl (I .int, 2000, .inl f580676) := e580674
                                have hs580686 : rStr γ [] F410224 F580673 := rStr_put hs580268 n580675 ht410255 (by decide)
                                have kp580687 : F580673 q410225 = F410224 q410225 := (n580675 q410225 (rn_ty htq410225 ht410255 (by decide))).trans x580269
                                have kp580688 : F580673 (γ 9 3) = F410224 (γ 9 3) := (n580675 (γ 9 3) (rn_ty ht410253 ht410255 (by decide))).trans x580270
                                refine G_aload 0 dr_cX17_weigh_167 rfl ?_
                                have hT580689 : RS D I P410223 F580673 γ el := RS_set hT580267 n580675 ht410255 (by decide) ⟨f580676, he580685⟩
                                have fq580690 : fI (F580673 q580581) 0 = p580594 := by rw [he580684]; rfl
                                have fq580691 : fI (F580673 q580581) 6 = p580600 := by rw [he580684]; rfl
                                refine Gw_callV (As := []) (gV_ok D I) (cp_1699_Row_usesB l hl0 D I P410223 F580673 q580581 p580594 p580595 p580596 p580597 p580598 p580599 p580600 hm580592 he580684 bp580594 bp580595 bp580598 bp580599 bp580600) dr_cX17_weigh_169 ⟨wr_10_196, wr_1_39, wr_10_199, by decide, rfl, (Nat.le_of_ble_eq_true rfl), (Nat.le_of_ble_eq_true rfl)⟩ wr_10_197 wr_10_198 hm580592 he580684 rfl (show 0 + 0 ≤ 0 by first | omega | decide) (show 0 + 0 ≤ 0 by first | omega | decide) (Nat.le_of_ble_eq_true rfl) (fun r580695 w580696 dc580692 ds580693 hp580694 => ?_) (fun _ _ _ _ _ z => z.elim)
                                obtain ⟨o580697, rfl, rfl, hdc, hds, bo580697, x580698, ht580699⟩ := hp580694
                                change G _ _ _ _ _ _ _ (.int o580697 :: _) _ _ _
                                refine G_widen (cs' := 0) (sl' := 0) (by omega) (by omega) ?_
                                refine G_if_eq 189 dr_cX17_weigh_172 (by decide +kernel) (fun hc580700 => ?_) (fun hc580700 => ?_)
                                · have r580701 : o580697.toInt = 0 := gj_eq hc580700 (show Int32.toInt 0 = 0 by decide)
                                  have bo580697' : gB o580697 0 0 := gB_t0 r580701
                                  obtain ⟨z580702, hz580702⟩ : ∃ z : Int32, z = g580265 + Int32.ofInt 1 := ⟨_, rfl⟩
                                  have ez580702 : z580702.toInt = g580265.toInt + 1 := gI_inc hz580702 (by decide) bg580265'' (by decide) (by decide)
                                  have bz580702 : gB z580702 1 1000000 := ⟨by omega, by omega⟩
                                  refine G_iinc (L' := [(5, .int z580702), (6, .ref q580581), (4, .ref q579701), (3, .int g579670), (2, .int g578495), (0, .ref q410225), (1, .ref q410226)]) z580702 1 dr_cX17_weigh_189 rfl hz580702.symm (Nat.le_of_ble_eq_true rfl) rfl ?_
                                  refine G_goto 74 dr_cX17_weigh_192 (by decide +kernel) ?_
                                  refine G_lv (L' := [(5, .int z580702), (4, .ref q579701), (3, .int g579670), (2, .int g578495), (0, .ref q410225), (1, .ref q410226)]) [0, 2, 3, 4, 5, 6] rfl ?_
                                  exact ih74_580270 F580673 z580702 (gB_w bz580702 (by decide) (by decide)) hT580689 hs580686 kp580687 kp580688 (fun k e1 ht => kt74_580271 k e1 (fun R c1 c2 c3 c4 c5 c6 c7 c8 c9 c10 c11 c12 c13 c14 c15 c16 c17 => c12 F580266 g580265 q579711 p580284 q580581 p580594 o580612 p580599 o580622 p580596 f580670 z580671 z580672 f580676 F580673 p580600 o580697 z580702 k e1 bg580265 hT580267 hs580268 x580269 x580270 fq580280 fq580291 fq580292 r580302 fq580303 r580569 hx580582 ht580591 fq580606 bo580612 ht580613 r580615 fq580616 bo580622 ht580624 r580665 fq580666 fq580667 he580669 hz580671 hz580672 hf580676 n580675 he580685 fq580690 fq580691 bo580697 ht580699 r580701 ez580702 (ht R c1 c2 c3 c4 c5 c6 c7 c8 c9 c10 c11 c12 c13 c14 c15 c16 c17))) (mz_up ez580702 (Int.le_trans bg580265''.2 (by decide)) hm74_580270)
                                · have r580703 : o580697.toInt ≠ 0 := gj_neq hc580700 (show Int32.toInt 0 = 0 by decide)
                                  have bo580697' : gB o580697 1 1 := gB_t1 bo580697 r580703
                                  refine G_aload_n 5 dr_cX17_weigh_175 rfl ?_
                                  have fq580704 : fR (F580673 q410225) 5 = (γ 9 5) := by rw [he580681]; rfl
                                  refine Gp_get 5 hm580279 he580681 dr_cX17_weigh_176 (gk_X17 D I) (Nat.le_of_ble_eq_true rfl) wr_7_79 rfl ?_
                                  refine G_aload 0 dr_cX17_weigh_179 rfl ?_
                                  have fq580705 : fI (F580673 q580581) 3 = p580597 := by rw [he580684]; rfl
                                  refine Gp_get 3 hm580592 he580684 dr_cX17_weigh_181 (gk_X15 D I) (Nat.le_of_ble_eq_true rfl) wr_9_190 rfl ?_
                                  refine G_dup2_11 dr_cX17_weigh_184 rfl rfl ?_
                                  refine Gp_iald 0 hm580668 he580685 dr_cX17_weigh_185 rfl (gB_inr (by omega) (by omega)) (G_nam fun z580706 hz580706 => ?_)
                                  have bz580706 : gB z580706 (-2147483648) 2147483647 := gB_any z580706
                                  refine G_iload_n 3 dr_cX17_weigh_186 rfl ?_
                                  refine G_iadd dr_cX17_weigh_187 (G_nam fun z580707 hz580707 => ?_)
                                  have bz580707 : gB z580707 (-2147483648) 2147483647 := gB_any z580707
                                  refine Gp_iast 0 hm580668 he580685 dr_cX17_weigh_188 rfl (gB_inr (by omega) (by omega)) (fun F580708 e580709 n580710 => ?_)
                                  obtain ⟨f580711, hf580711⟩ : ∃ z, z = upd f580676 p580597.toNatClampNeg z580707 := ⟨_, rfl⟩
                                  rw [← hf580711] at e580709
                                  have he580712 : F580708 q410226 = .inr (18, [.ref q578508, .ref q578509, .int p578510, .int p578511]) := (n580710 q410226 (rn_oa he580677 he580685)).trans he580677
                                  have he580713 : F580708 q578508 = .inr (4, [.int p579682, .ref q579684, .int p579683]) := (n580710 q578508 (rn_oa he580678 he580685)).trans he580678
                                  have he580714 : F580708 q579684 = .inl (I (.object "java/lang/Object"), n579698, .inr (.inr (.inr (.inr f579699)))) := (n580710 q579684 (rn_ref_num he580679 he580685)).trans he580679
                                  have he580715 : F580708 q579701 = .inr (17, [.ref q579711, .ref q579712, .int p579713, .int p579714]) := (n580710 q579701 (rn_oa he580680 he580685)).trans he580680
                                  have he580716 : F580708 q410225 = .inr (22, [.ref (γ 9 0), .ref (γ 9 1), .ref (γ 9 2), .ref (γ 9 3), .ref (γ 9 4), .ref (γ 9 5), .ref (γ 9 6), .ref (γ 9 7), .ref (γ 9 8), .int p410233, .int p410234, .int p410235, .int p410236, .int p410237, .int p410238, .ref (γ 9 15), .ref (γ 9 16), .ref (γ 9 17), .ref (γ 9 18), .ref (γ 9 19), .ref (γ 9 20), .ref (γ 9 21), .ref (γ 9 22), .int p410239, .int p410240, .int p410241, .int p410242, .int p410243, .ref q410231, .ref (γ 9 29), .int p410244, .ref (γ 9 31), .int p410245, .int p410246, .int p410247, .ref q410232]) := (n580710 q410225 (rn_oa he580681 he580685)).trans he580681
                                  have he580717 : F580708 q579711 = .inr (4, [.int p580283, .ref q580285, .int p580284]) := (n580710 q579711 (rn_oa he580682 he580685)).trans he580682
                                  have he580718 : F580708 q580285 = .inl (I (.object "java/lang/Object"), n580578, .inr (.inr (.inr (.inr f580579)))) := (n580710 q580285 (rn_ref_num he580683 he580685)).trans he580683
                                  have he580719 : F580708 q580581 = .inr (20, [.int p580594, .int p580595, .int p580596, .int p580597, .int p580598, .int p580599, .int p580600]) := (n580710 q580581 (rn_oa he580684 he580685)).trans he580684
                                  have he580720 : F580708 (γ 9 5) = .inl (I .int, 2000, .inl f580711) := e580709
                                  have hs580721 : rStr γ [] F410224 F580708 := rStr_put hs580686 n580710 ht410255 (by decide)
                                  have kp580722 : F580708 q410225 = F410224 q410225 := (n580710 q410225 (rn_ty htq410225 ht410255 (by decide))).trans kp580687
                                  have kp580723 : F580708 (γ 9 3) = F410224 (γ 9 3) := (n580710 (γ 9 3) (rn_ty ht410253 ht410255 (by decide))).trans kp580688
                                  obtain ⟨z580724, hz580724⟩ : ∃ z : Int32, z = g580265 + Int32.ofInt 1 := ⟨_, rfl⟩
                                  have ez580724 : z580724.toInt = g580265.toInt + 1 := gI_inc hz580724 (by decide) bg580265'' (by decide) (by decide)
                                  have bz580724 : gB z580724 1 1000000 := ⟨by omega, by omega⟩
                                  refine G_iinc (L' := [(5, .int z580724), (6, .ref q580581), (4, .ref q579701), (3, .int g579670), (2, .int g578495), (0, .ref q410225), (1, .ref q410226)]) z580724 1 dr_cX17_weigh_189 rfl hz580724.symm (Nat.le_of_ble_eq_true rfl) rfl ?_
                                  refine G_goto 74 dr_cX17_weigh_192 (by decide +kernel) ?_
                                  have hT580725 : RS D I P410223 F580708 γ el := RS_set hT580689 n580710 ht410255 (by decide) ⟨f580711, he580720⟩
                                  refine G_lv (L' := [(5, .int z580724), (4, .ref q579701), (3, .int g579670), (2, .int g578495), (0, .ref q410225), (1, .ref q410226)]) [0, 2, 3, 4, 5, 6] rfl ?_
                                  exact ih74_580270 F580708 z580724 (gB_w bz580724 (by decide) (by decide)) hT580725 hs580721 kp580722 kp580723 (fun k e1 ht => kt74_580271 k e1 (fun R c1 c2 c3 c4 c5 c6 c7 c8 c9 c10 c11 c12 c13 c14 c15 c16 c17 => c13 F580266 g580265 q579711 p580284 q580581 p580594 o580612 p580599 o580622 p580596 f580670 z580671 z580672 f580676 F580673 p580600 o580697 p580597 z580706 z580707 f580711 F580708 z580724 k e1 bg580265 hT580267 hs580268 x580269 x580270 fq580280 fq580291 fq580292 r580302 fq580303 r580569 hx580582 ht580591 fq580606 bo580612 ht580613 r580615 fq580616 bo580622 ht580624 r580665 fq580666 fq580667 he580669 hz580671 hz580672 hf580676 n580675 he580685 fq580690 fq580691 bo580697 ht580699 r580703 fq580704 fq580705 he580685 hz580706 hz580707 hf580711 n580710 he580720 ez580724 (ht R c1 c2 c3 c4 c5 c6 c7 c8 c9 c10 c11 c12 c13 c14 c15 c16 c17))) (mz_up ez580724 (Int.le_trans bg580265''.2 (by decide)) hm74_580270)
                            · have r580726 : o580612.toInt ≠ 0 := gj_neq hc580614 (show Int32.toInt 0 = 0 by decide)
                              have bo580612' : gB o580612 1 1 := gB_t1 bo580612 r580726
                              refine G_aload_n 5 dr_cX17_weigh_131 rfl ?_
                              have fq580727 : fR (F580266 q410225) 5 = (γ 9 5) := by rw [he580278]; rfl
                              refine Gp_get 5 hm580279 he580278 dr_cX17_weigh_132 (gk_X17 D I) (Nat.le_of_ble_eq_true rfl) wr_7_79 rfl ?_
                              refine G_aload 0 dr_cX17_weigh_135 rfl ?_
                              have fq580728 : fI (F580266 q580581) 1 = p580595 := by rw [he580593]; rfl
                              refine Gp_get 1 hm580592 he580593 dr_cX17_weigh_137 (gk_X15 D I) (Nat.le_of_ble_eq_true rfl) wr_9_182 rfl ?_
                              refine G_dup2_11 dr_cX17_weigh_140 rfl rfl ?_
                              have hm580729 : (γ 9 5) ∈ P410223 := RS_m hT580267 ht410255 (by decide)
                              obtain ⟨f580731, he580730⟩ := show rk_17 I (F580266 (γ 9 5)) from RS_o hT580267 ht410255
                              refine Gp_iald 0 hm580729 he580730 dr_cX17_weigh_141 rfl (gB_in bp580595 (by decide) (by decide)) (G_nam fun z580732 hz580732 => ?_)
                              have bz580732 : gB z580732 (-2147483648) 2147483647 := gB_any z580732
                              refine G_iload_n 3 dr_cX17_weigh_142 rfl ?_
                              refine G_iadd dr_cX17_weigh_143 (G_nam fun z580733 hz580733 => ?_)
                              have bz580733 : gB z580733 (-2147483648) 2147483647 := gB_any z580733
                              refine Gp_iast 0 hm580729 he580730 dr_cX17_weigh_144 rfl (gB_in bp580595 (by decide) (by decide)) (fun F580734 e580735 n580736 => ?_)
                              obtain ⟨f580737, hf580737⟩ : ∃ z, z = upd f580731 p580595.toNatClampNeg z580733 := ⟨_, rfl⟩
                              rw [← hf580737] at e580735
                              have he580738 : F580734 q410226 = .inr (18, [.ref q578508, .ref q578509, .int p578510, .int p578511]) := (n580736 q410226 (rn_oa he580273 he580730)).trans he580273
                              have he580739 : F580734 q578508 = .inr (4, [.int p579682, .ref q579684, .int p579683]) := (n580736 q578508 (rn_oa he580274 he580730)).trans he580274
                              have he580740 : F580734 q579684 = .inl (I (.object "java/lang/Object"), n579698, .inr (.inr (.inr (.inr f579699)))) := (n580736 q579684 (rn_ref_num he580275 he580730)).trans he580275
                              have he580741 : F580734 q579701 = .inr (17, [.ref q579711, .ref q579712, .int p579713, .int p579714]) := (n580736 q579701 (rn_oa he580276 he580730)).trans he580276
                              have he580742 : F580734 q410225 = .inr (22, [.ref (γ 9 0), .ref (γ 9 1), .ref (γ 9 2), .ref (γ 9 3), .ref (γ 9 4), .ref (γ 9 5), .ref (γ 9 6), .ref (γ 9 7), .ref (γ 9 8), .int p410233, .int p410234, .int p410235, .int p410236, .int p410237, .int p410238, .ref (γ 9 15), .ref (γ 9 16), .ref (γ 9 17), .ref (γ 9 18), .ref (γ 9 19), .ref (γ 9 20), .ref (γ 9 21), .ref (γ 9 22), .int p410239, .int p410240, .int p410241, .int p410242, .int p410243, .ref q410231, .ref (γ 9 29), .int p410244, .ref (γ 9 31), .int p410245, .int p410246, .int p410247, .ref q410232]) := (n580736 q410225 (rn_oa he580278 he580730)).trans he580278
                              have he580743 : F580734 q579711 = .inr (4, [.int p580283, .ref q580285, .int p580284]) := (n580736 q579711 (rn_oa he580282 he580730)).trans he580282
                              have he580744 : F580734 q580285 = .inl (I (.object "java/lang/Object"), n580578, .inr (.inr (.inr (.inr f580579)))) := (n580736 q580285 (rn_ref_num r580572 he580730)).trans r580572
                              have he580745 : F580734 q580581 = .inr (20, [.int p580594, .int p580595, .int p580596, .int p580597, .int p580598, .int p580599, .int p580600]) := (n580736 q580581 (rn_oa he580593 he580730)).trans he580593
                              have he580746 : F580734 (γ 9 5) = .inl (I .int, 2000, .inl f580737) := e580735
                              have hs580747 : rStr γ [] F410224 F580734 := rStr_put hs580268 n580736 ht410255 (by decide)
                              have kp580748 : F580734 q410225 = F410224 q410225 := (n580736 q410225 (rn_ty htq410225 ht410255 (by decide))).trans x580269
                              have kp580749 : F580734 (γ 9 3) = F410224 (γ 9 3) := (n580736 (γ 9 3) (rn_ty ht410253 ht410255 (by decide))).trans x580270
                              refine G_aload 0 dr_cX17_weigh_145 rfl ?_
                              have hT580750 : RS D I P410223 F580734 γ el := RS_set hT580267 n580736 ht410255 (by decide) ⟨f580737, he580746⟩
                              have fq580751 : fI (F580734 q580581) 0 = p580594 := by rw [he580745]; rfl
                              have fq580752 : fI (F580734 q580581) 5 = p580599 := by rw [he580745]; rfl
                              refine Gw_callV (As := []) (gV_ok D I) (cp_1675_Row_usesA l hl0 D I P410223 F580734 q580581 p580594 p580595 p580596 p580597 p580598 p580599 p580600 hm580592 he580745 bp580594 bp580595 bp580598 bp580599 bp580600) dr_cX17_weigh_147 ⟨wr_10_192, wr_1_39, wr_10_195, by decide, rfl, (Nat.le_of_ble_eq_true rfl), (Nat.le_of_ble_eq_true rfl)⟩ wr_10_193 wr_10_194 hm580592 he580745 rfl (show 0 + 0 ≤ 0 by first | omega | decide) (show 0 + 0 ≤ 0 by first | omega | decide) (Nat.le_of_ble_eq_true rfl) (fun r580756 w580757 dc580753 ds580754 hp580755 => ?_) (fun _ _ _ _ _ z => z.elim)
                              obtain ⟨o580758, rfl, rfl, hdc, hds, bo580758, x580759, ht580760⟩ := hp580755
                              change G _ _ _ _ _ _ _ (.int o580758 :: _) _ _ _
                              refine G_widen (cs' := 0) (sl' := 0) (by omega) (by omega) ?_
                              refine G_if_eq 167 dr_cX17_weigh_150 (by decide +kernel) (fun hc580761 => ?_) (fun hc580761 => ?_)
                              · have r580762 : o580758.toInt = 0 := gj_eq hc580761 (show Int32.toInt 0 = 0 by decide)
                                have bo580758' : gB o580758 0 0 := gB_t0 r580762
                                refine G_aload 0 dr_cX17_weigh_167 rfl ?_
                                have fq580763 : fI (F580734 q580581) 6 = p580600 := by rw [he580745]; rfl
                                refine Gw_callV (As := []) (gV_ok D I) (cp_1699_Row_usesB l hl0 D I P410223 F580734 q580581 p580594 p580595 p580596 p580597 p580598 p580599 p580600 hm580592 he580745 bp580594 bp580595 bp580598 bp580599 bp580600) dr_cX17_weigh_169 ⟨wr_10_196, wr_1_39, wr_10_199, by decide, rfl, (Nat.le_of_ble_eq_true rfl), (Nat.le_of_ble_eq_true rfl)⟩ wr_10_197 wr_10_198 hm580592 he580745 rfl (show 0 + 0 ≤ 0 by first | omega | decide) (show 0 + 0 ≤ 0 by first | omega | decide) (Nat.le_of_ble_eq_true rfl) (fun r580767 w580768 dc580764 ds580765 hp580766 => ?_) (fun _ _ _ _ _ z => z.elim)
                                obtain ⟨o580769, rfl, rfl, hdc, hds, bo580769, x580770, ht580771⟩ := hp580766
                                change G _ _ _ _ _ _ _ (.int o580769 :: _) _ _ _
                                refine G_widen (cs' := 0) (sl' := 0) (by omega) (by omega) ?_
                                refine G_if_eq 189 dr_cX17_weigh_172 (by decide +kernel) (fun hc580772 => ?_) (fun hc580772 => ?_)
                                · have r580773 : o580769.toInt = 0 := gj_eq hc580772 (show Int32.toInt 0 = 0 by decide)
                                  have bo580769' : gB o580769 0 0 := gB_t0 r580773
                                  obtain ⟨z580774, hz580774⟩ : ∃ z : Int32, z = g580265 + Int32.ofInt 1 := ⟨_, rfl⟩
                                  have ez580774 : z580774.toInt = g580265.toInt + 1 := gI_inc hz580774 (by decide) bg580265'' (by decide) (by decide)
                                  have bz580774 : gB z580774 1 1000000 := ⟨by omega, by omega⟩
                                  refine G_iinc (L' := [(5, .int z580774), (6, .ref q580581), (4, .ref q579701), (3, .int g579670), (2, .int g578495), (0, .ref q410225), (1, .ref q410226)]) z580774 1 dr_cX17_weigh_189 rfl hz580774.symm (Nat.le_of_ble_eq_true rfl) rfl ?_
                                  refine G_goto 74 dr_cX17_weigh_192 (by decide +kernel) ?_
                                  refine G_lv (L' := [(5, .int z580774), (4, .ref q579701), (3, .int g579670), (2, .int g578495), (0, .ref q410225), (1, .ref q410226)]) [0, 2, 3, 4, 5, 6] rfl ?_
                                  exact ih74_580270 F580734 z580774 (gB_w bz580774 (by decide) (by decide)) hT580750 hs580747 kp580748 kp580749 (fun k e1 ht => kt74_580271 k e1 (fun R c1 c2 c3 c4 c5 c6 c7 c8 c9 c10 c11 c12 c13 c14 c15 c16 c17 => c14 F580266 g580265 q579711 p580284 q580581 p580594 o580612 p580595 f580731 z580732 z580733 f580737 F580734 p580599 o580758 p580600 o580769 z580774 k e1 bg580265 hT580267 hs580268 x580269 x580270 fq580280 fq580291 fq580292 r580302 fq580303 r580569 hx580582 ht580591 fq580606 bo580612 ht580613 r580726 fq580727 fq580728 he580730 hz580732 hz580733 hf580737 n580736 he580746 fq580751 fq580752 bo580758 ht580760 r580762 fq580763 bo580769 ht580771 r580773 ez580774 (ht R c1 c2 c3 c4 c5 c6 c7 c8 c9 c10 c11 c12 c13 c14 c15 c16 c17))) (mz_up ez580774 (Int.le_trans bg580265''.2 (by decide)) hm74_580270)
                                · have r580775 : o580769.toInt ≠ 0 := gj_neq hc580772 (show Int32.toInt 0 = 0 by decide)
                                  have bo580769' : gB o580769 1 1 := gB_t1 bo580769 r580775
                                  refine G_aload_n 5 dr_cX17_weigh_175 rfl ?_
                                  have fq580776 : fR (F580734 q410225) 5 = (γ 9 5) := by rw [he580742]; rfl
                                  refine Gp_get 5 hm580279 he580742 dr_cX17_weigh_176 (gk_X17 D I) (Nat.le_of_ble_eq_true rfl) wr_7_79 rfl ?_
                                  refine G_aload 0 dr_cX17_weigh_179 rfl ?_
                                  have fq580777 : fI (F580734 q580581) 3 = p580597 := by rw [he580745]; rfl
                                  refine Gp_get 3 hm580592 he580745 dr_cX17_weigh_181 (gk_X15 D I) (Nat.le_of_ble_eq_true rfl) wr_9_190 rfl ?_
                                  refine G_dup2_11 dr_cX17_weigh_184 rfl rfl ?_
                                  refine Gp_iald 0 hm580729 he580746 dr_cX17_weigh_185 rfl (gB_inr (by omega) (by omega)) (G_nam fun z580778 hz580778 => ?_)
                                  have bz580778 : gB z580778 (-2147483648) 2147483647 := gB_any z580778
                                  refine G_iload_n 3 dr_cX17_weigh_186 rfl ?_
                                  refine G_iadd dr_cX17_weigh_187 (G_nam fun z580779 hz580779 => ?_)
                                  have bz580779 : gB z580779 (-2147483648) 2147483647 := gB_any z580779
                                  refine Gp_iast 0 hm580729 he580746 dr_cX17_weigh_188 rfl (gB_inr (by omega) (by omega)) (fun F580780 e580781 n580782 => ?_)
                                  obtain ⟨f580783, hf580783⟩ : ∃ z, z = upd f580737 p580597.toNatClampNeg z580779 := ⟨_, rfl⟩
                                  rw [← hf580783] at e580781
                                  have he580784 : F580780 q410226 = .inr (18, [.ref q578508, .ref q578509, .int p578510, .int p578511]) := (n580782 q410226 (rn_oa he580738 he580746)).trans he580738
                                  have he580785 : F580780 q578508 = .inr (4, [.int p579682, .ref q579684, .int p579683]) := (n580782 q578508 (rn_oa he580739 he580746)).trans he580739
                                  have he580786 : F580780 q579684 = .inl (I (.object "java/lang/Object"), n579698, .inr (.inr (.inr (.inr f579699)))) := (n580782 q579684 (rn_ref_num he580740 he580746)).trans he580740
                                  have he580787 : F580780 q579701 = .inr (17, [.ref q579711, .ref q579712, .int p579713, .int p579714]) := (n580782 q579701 (rn_oa he580741 he580746)).trans he580741
                                  have he580788 : F580780 q410225 = .inr (22, [.ref (γ 9 0), .ref (γ 9 1), .ref (γ 9 2), .ref (γ 9 3), .ref (γ 9 4), .ref (γ 9 5), .ref (γ 9 6), .ref (γ 9 7), .ref (γ 9 8), .int p410233, .int p410234, .int p410235, .int p410236, .int p410237, .int p410238, .ref (γ 9 15), .ref (γ 9 16), .ref (γ 9 17), .ref (γ 9 18), .ref (γ 9 19), .ref (γ 9 20), .ref (γ 9 21), .ref (γ 9 22), .int p410239, .int p410240, .int p410241, .int p410242, .int p410243, .ref q410231, .ref (γ 9 29), .int p410244, .ref (γ 9 31), .int p410245, .int p410246, .int p410247, .ref q410232]) := (n580782 q410225 (rn_oa he580742 he580746)).trans he580742
                                  have he580789 : F580780 q579711 = .inr (4, [.int p580283, .ref q580285, .int p580284]) := (n580782 q579711 (rn_oa he580743 he580746)).trans he580743
                                  have he580790 : F580780 q580285 = .inl (I (.object "java/lang/Object"), n580578, .inr (.inr (.inr (.inr f580579)))) := (n580782 q580285 (rn_ref_num he580744 he580746)).trans he580744
                                  have he580791 : F580780 q580581 = .inr (20, [.int p580594, .int p580595, .int p580596, .int p580597, .int p580598, .int p580599, .int p580600]) := (n580782 q580581 (rn_oa he580745 he580746)).trans he580745
                                  have he580792 : F580780 (γ 9 5) = .inl (I .int, 2000, .inl f580783) := e580781
                                  have hs580793 : rStr γ [] F410224 F580780 := rStr_put hs580747 n580782 ht410255 (by decide)
                                  have kp580794 : F580780 q410225 = F410224 q410225 := (n580782 q410225 (rn_ty htq410225 ht410255 (by decide))).trans kp580748
                                  have kp580795 : F580780 (γ 9 3) = F410224 (γ 9 3) := (n580782 (γ 9 3) (rn_ty ht410253 ht410255 (by decide))).trans kp580749
                                  obtain ⟨z580796, hz580796⟩ : ∃ z : Int32, z = g580265 + Int32.ofInt 1 := ⟨_, rfl⟩
                                  have ez580796 : z580796.toInt = g580265.toInt + 1 := gI_inc hz580796 (by decide) bg580265'' (by decide) (by decide)
                                  have bz580796 : gB z580796 1 1000000 := ⟨by omega, by omega⟩
                                  refine G_iinc (L' := [(5, .int z580796), (6, .ref q580581), (4, .ref q579701), (3, .int g579670), (2, .int g578495), (0, .ref q410225), (1, .ref q410226)]) z580796 1 dr_cX17_weigh_189 rfl hz580796.symm (Nat.le_of_ble_eq_true rfl) rfl ?_
                                  refine G_goto 74 dr_cX17_weigh_192 (by decide +kernel) ?_
                                  have hT580797 : RS D I P410223 F580780 γ el := RS_set hT580750 n580782 ht410255 (by decide) ⟨f580783, he580792⟩
                                  refine G_lv (L' := [(5, .int z580796), (4, .ref q579701), (3, .int g579670), (2, .int g578495), (0, .ref q410225), (1, .ref q410226)]) [0, 2, 3, 4, 5, 6] rfl ?_
                                  exact ih74_580270 F580780 z580796 (gB_w bz580796 (by decide) (by decide)) hT580797 hs580793 kp580794 kp580795 (fun k e1 ht => kt74_580271 k e1 (fun R c1 c2 c3 c4 c5 c6 c7 c8 c9 c10 c11 c12 c13 c14 c15 c16 c17 => c15 F580266 g580265 q579711 p580284 q580581 p580594 o580612 p580595 f580731 z580732 z580733 f580737 F580734 p580599 o580758 p580600 o580769 p580597 z580778 z580779 f580783 F580780 z580796 k e1 bg580265 hT580267 hs580268 x580269 x580270 fq580280 fq580291 fq580292 r580302 fq580303 r580569 hx580582 ht580591 fq580606 bo580612 ht580613 r580726 fq580727 fq580728 he580730 hz580732 hz580733 hf580737 n580736 he580746 fq580751 fq580752 bo580758 ht580760 r580762 fq580763 bo580769 ht580771 r580775 fq580776 fq580777 he580746 hz580778 hz580779 hf580783 n580782 he580792 ez580796 (ht R c1 c2 c3 c4 c5 c6 c7 c8 c9 c10 c11 c12 c13 c14 c15 c16 c17))) (mz_up ez580796 (Int.le_trans bg580265''.2 (by decide)) hm74_580270)
                              · have r580798 : o580758.toInt ≠ 0 := gj_neq hc580761 (show Int32.toInt 0 = 0 by decide)
                                have bo580758' : gB o580758 1 1 := gB_t1 bo580758 r580798
                                refine G_aload_n 5 dr_cX17_weigh_153 rfl ?_
                                have fq580799 : fR (F580734 q410225) 5 = (γ 9 5) := by rw [he580742]; rfl
                                refine Gp_get 5 hm580279 he580742 dr_cX17_weigh_154 (gk_X17 D I) (Nat.le_of_ble_eq_true rfl) wr_7_79 rfl ?_
                                refine G_aload 0 dr_cX17_weigh_157 rfl ?_
                                have fq580800 : fI (F580734 q580581) 2 = p580596 := by rw [he580745]; rfl
                                refine Gp_get 2 hm580592 he580745 dr_cX17_weigh_159 (gk_X15 D I) (Nat.le_of_ble_eq_true rfl) wr_9_186 rfl ?_
                                refine G_dup2_11 dr_cX17_weigh_162 rfl rfl ?_
                                refine Gp_iald 0 hm580729 he580746 dr_cX17_weigh_163 rfl (gB_inr (by omega) (by omega)) (G_nam fun z580801 hz580801 => ?_)
                                have bz580801 : gB z580801 (-2147483648) 2147483647 := gB_any z580801
                                refine G_iload_n 3 dr_cX17_weigh_164 rfl ?_
                                refine G_iadd dr_cX17_weigh_165 (G_nam fun z580802 hz580802 => ?_)
                                have bz580802 : gB z580802 (-2147483648) 2147483647 := gB_any z580802
                                refine Gp_iast 0 hm580729 he580746 dr_cX17_weigh_166 rfl (gB_inr (by omega) (by omega)) (fun F580803 e580804 n580805 => ?_)
                                obtain ⟨f580806, hf580806⟩ : ∃ z, z = upd f580737 p580596.toNatClampNeg z580802 := ⟨_, rfl⟩
                                rw [← hf580806] at e580804
                                have he580807 : F580803 q410226 = .inr (18, [.ref q578508, .ref q578509, .int p578510, .int p578511]) := (n580805 q410226 (rn_oa he580738 he580746)).trans he580738
                                have he580808 : F580803 q578508 = .inr (4, [.int p579682, .ref q579684, .int p579683]) := (n580805 q578508 (rn_oa he580739 he580746)).trans he580739
                                have he580809 : F580803 q579684 = .inl (I (.object "java/lang/Object"), n579698, .inr (.inr (.inr (.inr f579699)))) := (n580805 q579684 (rn_ref_num he580740 he580746)).trans he580740
                                have he580810 : F580803 q579701 = .inr (17, [.ref q579711, .ref q579712, .int p579713, .int p579714]) := (n580805 q579701 (rn_oa he580741 he580746)).trans he580741
                                have he580811 : F580803 q410225 = .inr (22, [.ref (γ 9 0), .ref (γ 9 1), .ref (γ 9 2), .ref (γ 9 3), .ref (γ 9 4), .ref (γ 9 5), .ref (γ 9 6), .ref (γ 9 7), .ref (γ 9 8), .int p410233, .int p410234, .int p410235, .int p410236, .int p410237, .int p410238, .ref (γ 9 15), .ref (γ 9 16), .ref (γ 9 17), .ref (γ 9 18), .ref (γ 9 19), .ref (γ 9 20), .ref (γ 9 21), .ref (γ 9 22), .int p410239, .int p410240, .int p410241, .int p410242, .int p410243, .ref q410231, .ref (γ 9 29), .int p410244, .ref (γ 9 31), .int p410245, .int p410246, .int p410247, .ref q410232]) := (n580805 q410225 (rn_oa he580742 he580746)).trans he580742
                                have he580812 : F580803 q579711 = .inr (4, [.int p580283, .ref q580285, .int p580284]) := (n580805 q579711 (rn_oa he580743 he580746)).trans he580743
                                have he580813 : F580803 q580285 = .inl (I (.object "java/lang/Object"), n580578, .inr (.inr (.inr (.inr f580579)))) := (n580805 q580285 (rn_ref_num he580744 he580746)).trans he580744
                                have he580814 : F580803 q580581 = .inr (20, [.int p580594, .int p580595, .int p580596, .int p580597, .int p580598, .int p580599, .int p580600]) := (n580805 q580581 (rn_oa he580745 he580746)).trans he580745
                                have he580815 : F580803 (γ 9 5) = .inl (I .int, 2000, .inl f580806) := e580804
                                have hs580816 : rStr γ [] F410224 F580803 := rStr_put hs580747 n580805 ht410255 (by decide)
                                have kp580817 : F580803 q410225 = F410224 q410225 := (n580805 q410225 (rn_ty htq410225 ht410255 (by decide))).trans kp580748
                                have kp580818 : F580803 (γ 9 3) = F410224 (γ 9 3) := (n580805 (γ 9 3) (rn_ty ht410253 ht410255 (by decide))).trans kp580749
                                refine G_aload 0 dr_cX17_weigh_167 rfl ?_
                                have hT580819 : RS D I P410223 F580803 γ el := RS_set hT580750 n580805 ht410255 (by decide) ⟨f580806, he580815⟩
                                have fq580820 : fI (F580803 q580581) 0 = p580594 := by rw [he580814]; rfl
                                have fq580821 : fI (F580803 q580581) 6 = p580600 := by rw [he580814]; rfl
                                refine Gw_callV (As := []) (gV_ok D I) (cp_1699_Row_usesB l hl0 D I P410223 F580803 q580581 p580594 p580595 p580596 p580597 p580598 p580599 p580600 hm580592 he580814 bp580594 bp580595 bp580598 bp580599 bp580600) dr_cX17_weigh_169 ⟨wr_10_196, wr_1_39, wr_10_199, by decide, rfl, (Nat.le_of_ble_eq_true rfl), (Nat.le_of_ble_eq_true rfl)⟩ wr_10_197 wr_10_198 hm580592 he580814 rfl (show 0 + 0 ≤ 0 by first | omega | decide) (show 0 + 0 ≤ 0 by first | omega | decide) (Nat.le_of_ble_eq_true rfl) (fun r580825 w580826 dc580822 ds580823 hp580824 => ?_) (fun _ _ _ _ _ z => z.elim)
                                obtain ⟨o580827, rfl, rfl, hdc, hds, bo580827, x580828, ht580829⟩ := hp580824
                                change G _ _ _ _ _ _ _ (.int o580827 :: _) _ _ _
                                refine G_widen (cs' := 0) (sl' := 0) (by omega) (by omega) ?_
                                refine G_if_eq 189 dr_cX17_weigh_172 (by decide +kernel) (fun hc580830 => ?_) (fun hc580830 => ?_)
                                · have r580831 : o580827.toInt = 0 := gj_eq hc580830 (show Int32.toInt 0 = 0 by decide)
                                  have bo580827' : gB o580827 0 0 := gB_t0 r580831
                                  obtain ⟨z580832, hz580832⟩ : ∃ z : Int32, z = g580265 + Int32.ofInt 1 := ⟨_, rfl⟩
                                  have ez580832 : z580832.toInt = g580265.toInt + 1 := gI_inc hz580832 (by decide) bg580265'' (by decide) (by decide)
                                  have bz580832 : gB z580832 1 1000000 := ⟨by omega, by omega⟩
                                  refine G_iinc (L' := [(5, .int z580832), (6, .ref q580581), (4, .ref q579701), (3, .int g579670), (2, .int g578495), (0, .ref q410225), (1, .ref q410226)]) z580832 1 dr_cX17_weigh_189 rfl hz580832.symm (Nat.le_of_ble_eq_true rfl) rfl ?_
                                  refine G_goto 74 dr_cX17_weigh_192 (by decide +kernel) ?_
                                  refine G_lv (L' := [(5, .int z580832), (4, .ref q579701), (3, .int g579670), (2, .int g578495), (0, .ref q410225), (1, .ref q410226)]) [0, 2, 3, 4, 5, 6] rfl ?_
                                  exact ih74_580270 F580803 z580832 (gB_w bz580832 (by decide) (by decide)) hT580819 hs580816 kp580817 kp580818 (fun k e1 ht => kt74_580271 k e1 (fun R c1 c2 c3 c4 c5 c6 c7 c8 c9 c10 c11 c12 c13 c14 c15 c16 c17 => c16 F580266 g580265 q579711 p580284 q580581 p580594 o580612 p580595 f580731 z580732 z580733 f580737 F580734 p580599 o580758 p580596 z580801 z580802 f580806 F580803 p580600 o580827 z580832 k e1 bg580265 hT580267 hs580268 x580269 x580270 fq580280 fq580291 fq580292 r580302 fq580303 r580569 hx580582 ht580591 fq580606 bo580612 ht580613 r580726 fq580727 fq580728 he580730 hz580732 hz580733 hf580737 n580736 he580746 fq580751 fq580752 bo580758 ht580760 r580798 fq580799 fq580800 he580746 hz580801 hz580802 hf580806 n580805 he580815 fq580820 fq580821 bo580827 ht580829 r580831 ez580832 (ht R c1 c2 c3 c4 c5 c6 c7 c8 c9 c10 c11 c12 c13 c14 c15 c16 c17))) (mz_up ez580832 (Int.le_trans bg580265''.2 (by decide)) hm74_580270)
                                · have r580833 : o580827.toInt ≠ 0 := gj_neq hc580830 (show Int32.toInt 0 = 0 by decide)
                                  have bo580827' : gB o580827 1 1 := gB_t1 bo580827 r580833
                                  refine G_aload_n 5 dr_cX17_weigh_175 rfl ?_
                                  have fq580834 : fR (F580803 q410225) 5 = (γ 9 5) := by rw [he580811]; rfl
                                  refine Gp_get 5 hm580279 he580811 dr_cX17_weigh_176 (gk_X17 D I) (Nat.le_of_ble_eq_true rfl) wr_7_79 rfl ?_
                                  refine G_aload 0 dr_cX17_weigh_179 rfl ?_
                                  have fq580835 : fI (F580803 q580581) 3 = p580597 := by rw [he580814]; rfl
                                  refine Gp_get 3 hm580592 he580814 dr_cX17_weigh_181 (gk_X15 D I) (Nat.le_of_ble_eq_true rfl) wr_9_190 rfl ?_
                                  refine G_dup2_11 dr_cX17_weigh_184 rfl rfl ?_
                                  refine Gp_iald 0 hm580729 he580815 dr_cX17_weigh_185 rfl (gB_inr (by omega) (by omega)) (G_nam fun z580836 hz580836 => ?_)
                                  have bz580836 : gB z580836 (-2147483648) 2147483647 := gB_any z580836
                                  refine G_iload_n 3 dr_cX17_weigh_186 rfl ?_
                                  refine G_iadd dr_cX17_weigh_187 (G_nam fun z580837 hz580837 => ?_)
                                  have bz580837 : gB z580837 (-2147483648) 2147483647 := gB_any z580837
                                  refine Gp_iast 0 hm580729 he580815 dr_cX17_weigh_188 rfl (gB_inr (by omega) (by omega)) (fun F580838 e580839 n580840 => ?_)
                                  obtain ⟨f580841, hf580841⟩ : ∃ z, z = upd f580806 p580597.toNatClampNeg z580837 := ⟨_, rfl⟩
                                  rw [← hf580841] at e580839
                                  have he580842 : F580838 q410226 = .inr (18, [.ref q578508, .ref q578509, .int p578510, .int p578511]) := (n580840 q410226 (rn_oa he580807 he580815)).trans he580807
                                  have he580843 : F580838 q578508 = .inr (4, [.int p579682, .ref q579684, .int p579683]) := (n580840 q578508 (rn_oa he580808 he580815)).trans he580808
                                  have he580844 : F580838 q579684 = .inl (I (.object "java/lang/Object"), n579698, .inr (.inr (.inr (.inr f579699)))) := (n580840 q579684 (rn_ref_num he580809 he580815)).trans he580809
                                  have he580845 : F580838 q579701 = .inr (17, [.ref q579711, .ref q579712, .int p579713, .int p579714]) := (n580840 q579701 (rn_oa he580810 he580815)).trans he580810
                                  have he580846 : F580838 q410225 = .inr (22, [.ref (γ 9 0), .ref (γ 9 1), .ref (γ 9 2), .ref (γ 9 3), .ref (γ 9 4), .ref (γ 9 5), .ref (γ 9 6), .ref (γ 9 7), .ref (γ 9 8), .int p410233, .int p410234, .int p410235, .int p410236, .int p410237, .int p410238, .ref (γ 9 15), .ref (γ 9 16), .ref (γ 9 17), .ref (γ 9 18), .ref (γ 9 19), .ref (γ 9 20), .ref (γ 9 21), .ref (γ 9 22), .int p410239, .int p410240, .int p410241, .int p410242, .int p410243, .ref q410231, .ref (γ 9 29), .int p410244, .ref (γ 9 31), .int p410245, .int p410246, .int p410247, .ref q410232]) := (n580840 q410225 (rn_oa he580811 he580815)).trans he580811
                                  have he580847 : F580838 q579711 = .inr (4, [.int p580283, .ref q580285, .int p580284]) := (n580840 q579711 (rn_oa he580812 he580815)).trans he580812
                                  have he580848 : F580838 q580285 = .inl (I (.object "java/lang/Object"), n580578, .inr (.inr (.inr (.inr f580579)))) := (n580840 q580285 (rn_ref_num he580813 he580815)).trans he580813
                                  have he580849 : F580838 q580581 = .inr (20, [.int p580594, .int p580595, .int p580596, .int p580597, .int p580598, .int p580599, .int p580600]) := (n580840 q580581 (rn_oa he580814 he580815)).trans he580814
                                  have he580850 : F580838 (γ 9 5) = .inl (I .int, 2000, .inl f580841) := e580839
                                  have hs580851 : rStr γ [] F410224 F580838 := rStr_put hs580816 n580840 ht410255 (by decide)
                                  have kp580852 : F580838 q410225 = F410224 q410225 := (n580840 q410225 (rn_ty htq410225 ht410255 (by decide))).trans kp580817
                                  have kp580853 : F580838 (γ 9 3) = F410224 (γ 9 3) := (n580840 (γ 9 3) (rn_ty ht410253 ht410255 (by decide))).trans kp580818
                                  obtain ⟨z580854, hz580854⟩ : ∃ z : Int32, z = g580265 + Int32.ofInt 1 := ⟨_, rfl⟩
                                  have ez580854 : z580854.toInt = g580265.toInt + 1 := gI_inc hz580854 (by decide) bg580265'' (by decide) (by decide)
                                  have bz580854 : gB z580854 1 1000000 := ⟨by omega, by omega⟩
                                  refine G_iinc (L' := [(5, .int z580854), (6, .ref q580581), (4, .ref q579701), (3, .int g579670), (2, .int g578495), (0, .ref q410225), (1, .ref q410226)]) z580854 1 dr_cX17_weigh_189 rfl hz580854.symm (Nat.le_of_ble_eq_true rfl) rfl ?_
                                  refine G_goto 74 dr_cX17_weigh_192 (by decide +kernel) ?_
                                  have hT580855 : RS D I P410223 F580838 γ el := RS_set hT580819 n580840 ht410255 (by decide) ⟨f580841, he580850⟩
                                  refine G_lv (L' := [(5, .int z580854), (4, .ref q579701), (3, .int g579670), (2, .int g578495), (0, .ref q410225), (1, .ref q410226)]) [0, 2, 3, 4, 5, 6] rfl ?_
                                  exact ih74_580270 F580838 z580854 (gB_w bz580854 (by decide) (by decide)) hT580855 hs580851 kp580852 kp580853 (fun k e1 ht => kt74_580271 k e1 (fun R c1 c2 c3 c4 c5 c6 c7 c8 c9 c10 c11 c12 c13 c14 c15 c16 c17 => c17 F580266 g580265 q579711 p580284 q580581 p580594 o580612 p580595 f580731 z580732 z580733 f580737 F580734 p580599 o580758 p580596 z580801 z580802 f580806 F580803 p580600 o580827 p580597 z580836 z580837 f580841 F580838 z580854 k e1 bg580265 hT580267 hs580268 x580269 x580270 fq580280 fq580291 fq580292 r580302 fq580303 r580569 hx580582 ht580591 fq580606 bo580612 ht580613 r580726 fq580727 fq580728 he580730 hz580732 hz580733 hf580737 n580736 he580746 fq580751 fq580752 bo580758 ht580760 r580798 fq580799 fq580800 he580746 hz580801 hz580802 hf580806 n580805 he580815 fq580820 fq580821 bo580827 ht580829 r580833 fq580834 fq580835 he580815 hz580836 hz580837 hf580841 n580840 he580850 ez580854 (ht R c1 c2 c3 c4 c5 c6 c7 c8 c9 c10 c11 c12 c13 c14 c15 c16 c17))) (mz_up ez580854 (Int.le_trans bg580265''.2 (by decide)) hm74_580270)
                    exact hlp74_580270 (((1000002 : Int) - 0).toNat + 1) F578496 0 (gB_w (gBl (show Int32.toInt 0 = 0 by decide)) (by decide) (by decide)) hT578497 hs578498 x578499 x578500 (fun k e1 ht => ht) (Nat.lt_succ_self _)
                  · have r580856 : g579669.toInt < z579676.toInt := gC_nle hc579677
                    have bg579669' : gB g579669 0 2147483646 := ⟨by omega, by omega⟩
                    have bz579676' : gB z579676 1 2147483647 := ⟨by omega, by omega⟩
                    refine G_iload_n 1 dr_cX17_weigh_53 rfl ?_
                    refine G_bipush 10 dr_cX17_weigh_54 (by decide +kernel) ?_
                    refine G_imul dr_cX17_weigh_56 (G_nam fun z580857 hz580857 => ?_)
                    have bz580857 : gB z580857 (-2147483648) 2147483647 := gB_any z580857
                    refine G_istore_n (L' := [(3, .int z580857), (4, .int g579669), (2, .int g578495), (0, .ref q410225), (1, .ref q410226)]) dr_cX17_weigh_57 (Nat.le_of_ble_eq_true rfl) rfl ?_
                    obtain ⟨z580858, hz580858⟩ : ∃ z : Int32, z = g579669 + Int32.ofInt 1 := ⟨_, rfl⟩
                    have ez580858 : z580858.toInt = g579669.toInt + 1 := gI_inc hz580858 (by decide) bg579669' (by decide) (by decide)
                    have bz580858 : gB z580858 1 2147483647 := ⟨by omega, by omega⟩
                    refine G_iinc (L' := [(4, .int z580858), (3, .int z580857), (2, .int g578495), (0, .ref q410225), (1, .ref q410226)]) z580858 1 dr_cX17_weigh_58 rfl hz580858.symm (Nat.le_of_ble_eq_true rfl) rfl ?_
                    refine G_goto 42 dr_cX17_weigh_61 (by decide +kernel) ?_
                    exact ih42_579670 z580858 z580857 (gB_w bz580858 (by decide) (by decide)) (fun k e1 ht => kt42_579671 k e1 (fun R c1 c2 => c2 g579669 g579670 f579675 z579676 z580857 z580858 k e1 bg579669 fq579672 he579674 hz579676 r580856 hz580857 ez580858 (ht R c1 c2))) (mz_up ez580858 (Int.le_trans bg579669'.2 (by decide)) hm42_579670)
              exact hlp42_579670 (((2147483648 : Int) - 0).toNat + 1) 0 1 (gB_w (gBl (show Int32.toInt 0 = 0 by decide)) (by decide) (by decide)) (fun k e1 ht => ht) (Nat.lt_succ_self _)
        exact hlp29_578500 (((1000001 : Int) - 0).toNat + 1) F576181 0 (gB_w (gBl (show Int32.toInt 0 = 0 by decide)) (by decide) (by decide)) hT576182 hs576183 x576184 x576185 (fun k e1 ht => ht) (Nat.lt_succ_self _)
      · have r580859 : g576180.toInt < 2000 := gj_nleL hc576191 (show Int32.toInt 2000 = 2000 by decide)
        have bg576180' : gB g576180 0 1999 := ⟨by omega, by omega⟩
        refine G_aload_n 1 dr_cX17_weigh_14 rfl ?_
        have fq580860 : fR (F576181 q410225) 5 = (γ 9 5) := by rw [he576189]; rfl
        refine Gp_get 5 hm576190 he576189 dr_cX17_weigh_15 (gk_X17 D I) (Nat.le_of_ble_eq_true rfl) wr_7_79 rfl ?_
        refine G_iload_n 0 dr_cX17_weigh_18 rfl ?_
        refine G_iconst 0 dr_cX17_weigh_19 (by decide +kernel) ?_
        have hm580861 : (γ 9 5) ∈ P410223 := RS_m hT576182 ht410255 (by decide)
        obtain ⟨f580863, he580862⟩ := show rk_17 I (F576181 (γ 9 5)) from RS_o hT576182 ht410255
        refine Gp_iast 0 hm580861 he580862 dr_cX17_weigh_20 rfl (gB_in bg576180' (by decide) (by decide)) (fun F580864 e580865 n580866 => ?_)
        obtain ⟨f580867, hf580867⟩ : ∃ z, z = upd f580863 g576180.toNatClampNeg 0 := ⟨_, rfl⟩
        rw [← hf580867] at e580865
        have he580868 : F580864 q410225 = .inr (22, [.ref (γ 9 0), .ref (γ 9 1), .ref (γ 9 2), .ref (γ 9 3), .ref (γ 9 4), .ref (γ 9 5), .ref (γ 9 6), .ref (γ 9 7), .ref (γ 9 8), .int p410233, .int p410234, .int p410235, .int p410236, .int p410237, .int p410238, .ref (γ 9 15), .ref (γ 9 16), .ref (γ 9 17), .ref (γ 9 18), .ref (γ 9 19), .ref (γ 9 20), .ref (γ 9 21), .ref (γ 9 22), .int p410239, .int p410240, .int p410241, .int p410242, .int p410243, .ref q410231, .ref (γ 9 29), .int p410244, .ref (γ 9 31), .int p410245, .int p410246, .int p410247, .ref q410232]) := (n580866 q410225 (rn_oa he576189 he580862)).trans he576189
        have he580869 : F580864 (γ 9 5) = .inl (I .int, 2000, .inl f580867) := e580865
        have hs580870 : rStr γ [] F410224 F580864 := rStr_put hs576183 n580866 ht410255 (by decide)
        have kp580871 : F580864 q410225 = F410224 q410225 := (n580866 q410225 (rn_ty htq410225 ht410255 (by decide))).trans x576184
        have kp580872 : F580864 (γ 9 3) = F410224 (γ 9 3) := (n580866 (γ 9 3) (rn_ty ht410253 ht410255 (by decide))).trans x576185
        obtain ⟨z580873, hz580873⟩ : ∃ z : Int32, z = g576180 + Int32.ofInt 1 := ⟨_, rfl⟩
        have ez580873 : z580873.toInt = g576180.toInt + 1 := gI_inc hz580873 (by decide) bg576180' (by decide) (by decide)
        have bz580873 : gB z580873 1 2000 := ⟨by omega, by omega⟩
        refine G_iinc (L' := [(2, .int z580873), (0, .ref q410225), (1, .ref q410226)]) z580873 0 dr_cX17_weigh_21 rfl hz580873.symm (Nat.le_of_ble_eq_true rfl) rfl ?_
        refine G_goto 7 dr_cX17_weigh_24 (by decide +kernel) ?_
        have hT580874 : RS D I P410223 F580864 γ el := RS_set hT576182 n580866 ht410255 (by decide) ⟨f580867, he580869⟩
        exact ih7_576185 F580864 z580873 (gB_w bz580873 (by decide) (by decide)) hT580874 hs580870 kp580871 kp580872 (fun k e1 ht => kt7_576186 k e1 (fun R c1 c2 => c2 F576181 g576180 f580863 f580867 F580864 z580873 k e1 bg576180 hT576182 hs576183 x576184 x576185 r580859 fq580860 he580862 hf580867 n580866 he580869 ez580873 (ht R c1 c2))) (mz_up ez580873 (Int.le_trans bg576180'.2 (by decide)) hm7_576185)
  exact hlp7_576185 (((2001 : Int) - 0).toNat + 1) F536425 0 (gB_w (gBl (show Int32.toInt 0 = 0 by decide)) (by decide) (by decide)) hT536426 hs536428 kp536429 kp536430 (fun k e1 ht => ht) (Nat.lt_succ_self _)
/- tr_RModel_no: F -/
def tr_RModel_no (D : va_G) (I : FieldType → ClassId) (γ el : Nat → Nat → Nat) (F : Nat → va_E) (q0 : Nat) (a1 : Int32) (o1 : Nat → va_E) : Prop := ∀ R : (Nat → va_E) → Prop,
  (∀ (x1 : Nat → va_E), (∀ b, b ≠ q0 → x1 b = F b) → x1 q0 = cF (F q0) 30 (.int a1) → R x1) →
  R o1
