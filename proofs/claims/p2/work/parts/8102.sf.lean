theorem d_cX0_clear_0 : decode cX0_clear 0 = .ok (.aload_n 0, 1) := by decide +kernel
theorem d_cX0_clear_1 : decode cX0_clear 1 = .ok (.iconst 0, 1) := by decide +kernel
theorem d_cX0_clear_2 : decode cX0_clear 2 = .ok (.putfield 45, 3) := by decide +kernel
theorem w_1_187 : (Jvm.Cond.fieldLink "SpillForge$Code" (45 : Nat) "SpillForge$Code" "blocks" "I") ∈ gw := gw_1 187 rfl rfl
theorem d_cX0_clear_5 : decode cX0_clear 5 = .ok (.aload_n 0, 1) := by decide +kernel
theorem d_cX0_clear_6 : decode cX0_clear 6 = .ok (.iconst 0, 1) := by decide +kernel
theorem d_cX0_clear_7 : decode cX0_clear 7 = .ok (.putfield 49, 3) := by decide +kernel
theorem w_1_197 : (Jvm.Cond.fieldLink "SpillForge$Code" (49 : Nat) "SpillForge$Code" "lines" "I") ∈ gw := gw_1 197 rfl rfl
theorem d_cX0_clear_10 : decode cX0_clear 10 = .ok (.aload_n 0, 1) := by decide +kernel
theorem d_cX0_clear_11 : decode cX0_clear 11 = .ok (.iconst 0, 1) := by decide +kernel
theorem d_cX0_clear_12 : decode cX0_clear 12 = .ok (.putfield 52, 3) := by decide +kernel
theorem w_1_200 : (Jvm.Cond.fieldLink "SpillForge$Code" (52 : Nat) "SpillForge$Code" "isFull" "Z") ∈ gw := gw_1 200 rfl rfl
theorem d_cX0_clear_15 : decode cX0_clear 15 = .ok (.return_, 1) := by decide +kernel
theorem d_cX0_rows_0 : decode cX0_rows 0 = .ok (.aload_n 0, 1) := by decide +kernel
theorem d_cX0_rows_1 : decode cX0_rows 1 = .ok (.getfield 49, 3) := by decide +kernel
theorem d_cX0_rows_4 : decode cX0_rows 4 = .ok (.aload_n 0, 1) := by decide +kernel
theorem d_cX0_rows_5 : decode cX0_rows 5 = .ok (.getfield 45, 3) := by decide +kernel
theorem d_cX0_rows_8 : decode cX0_rows 8 = .ok (.isub, 1) := by decide +kernel
theorem d_cX0_rows_9 : decode cX0_rows 9 = .ok (.ireturn, 1) := by decide +kernel
theorem d_cX0_blockEnd_0 : decode cX0_blockEnd 0 = .ok (.iload_n 1, 1) := by decide +kernel
theorem d_cX0_blockEnd_1 : decode cX0_blockEnd 1 = .ok (.iconst 1, 1) := by decide +kernel
theorem d_cX0_blockEnd_2 : decode cX0_blockEnd 2 = .ok (.iadd, 1) := by decide +kernel
theorem d_cX0_blockEnd_3 : decode cX0_blockEnd 3 = .ok (.aload_n 0, 1) := by decide +kernel
theorem d_cX0_blockEnd_4 : decode cX0_blockEnd 4 = .ok (.getfield 45, 3) := by decide +kernel
theorem d_cX0_blockEnd_7 : decode cX0_blockEnd 7 = .ok (.if_icmp .ge 14, 3) := by decide +kernel
theorem d_cX0_blockEnd_21 : decode cX0_blockEnd 21 = .ok (.aload_n 0, 1) := by decide +kernel
theorem d_cX0_blockEnd_22 : decode cX0_blockEnd 22 = .ok (.getfield 49, 3) := by decide +kernel
theorem d_cX0_blockEnd_25 : decode cX0_blockEnd 25 = .ok (.ireturn, 1) := by decide +kernel
theorem d_cX0_blockEnd_10 : decode cX0_blockEnd 10 = .ok (.aload_n 0, 1) := by decide +kernel
theorem d_cX0_blockEnd_11 : decode cX0_blockEnd 11 = .ok (.getfield 9, 3) := by decide +kernel
theorem w_1_142 : (Jvm.Cond.fieldLink "SpillForge$Code" (9 : Nat) "SpillForge$Code" "first" "[I") ∈ gw := gw_1 142 rfl rfl
theorem d_cX0_blockEnd_14 : decode cX0_blockEnd 14 = .ok (.iload_n 1, 1) := by decide +kernel
theorem d_cX0_blockEnd_15 : decode cX0_blockEnd 15 = .ok (.iconst 1, 1) := by decide +kernel
theorem d_cX0_blockEnd_16 : decode cX0_blockEnd 16 = .ok (.iadd, 1) := by decide +kernel
theorem d_cX0_blockEnd_17 : decode cX0_blockEnd 17 = .ok (.iaload, 1) := by decide +kernel
theorem d_cX0_blockEnd_18 : decode cX0_blockEnd 18 = .ok (.goto 7, 3) := by decide +kernel
theorem d_cX0_goal_0 : decode cX0_goal 0 = .ok (.iload_n 2, 1) := by decide +kernel
theorem d_cX0_goal_1 : decode cX0_goal 1 = .ok (.ifCond .ne 12, 3) := by decide +kernel
theorem d_cX0_goal_13 : decode cX0_goal 13 = .ok (.aload_n 0, 1) := by decide +kernel
theorem d_cX0_goal_14 : decode cX0_goal 14 = .ok (.getfield 18, 3) := by decide +kernel
theorem w_1_154 : (Jvm.Cond.fieldLink "SpillForge$Code" (18 : Nat) "SpillForge$Code" "secondGoal" "[I") ∈ gw := gw_1 154 rfl rfl
theorem d_cX0_goal_17 : decode cX0_goal 17 = .ok (.iload_n 1, 1) := by decide +kernel
theorem d_cX0_goal_18 : decode cX0_goal 18 = .ok (.iaload, 1) := by decide +kernel
theorem d_cX0_goal_19 : decode cX0_goal 19 = .ok (.ireturn, 1) := by decide +kernel
theorem d_cX0_goal_4 : decode cX0_goal 4 = .ok (.aload_n 0, 1) := by decide +kernel
theorem d_cX0_goal_5 : decode cX0_goal 5 = .ok (.getfield 15, 3) := by decide +kernel
theorem w_1_149 : (Jvm.Cond.fieldLink "SpillForge$Code" (15 : Nat) "SpillForge$Code" "firstGoal" "[I") ∈ gw := gw_1 149 rfl rfl
theorem d_cX0_goal_8 : decode cX0_goal 8 = .ok (.iload_n 1, 1) := by decide +kernel
theorem d_cX0_goal_9 : decode cX0_goal 9 = .ok (.iaload, 1) := by decide +kernel
theorem d_cX0_goal_10 : decode cX0_goal 10 = .ok (.goto 9, 3) := by decide +kernel
theorem d_cX0_openBlock_0 : decode cX0_openBlock 0 = .ok (.aload_n 0, 1) := by decide +kernel
theorem d_cX0_openBlock_1 : decode cX0_openBlock 1 = .ok (.getfield 45, 3) := by decide +kernel
theorem d_cX0_openBlock_4 : decode cX0_openBlock 4 = .ok (.bipush 40, 2) := by decide +kernel
theorem d_cX0_openBlock_6 : decode cX0_openBlock 6 = .ok (.if_icmp .lt 5, 3) := by decide +kernel
theorem d_cX0_openBlock_11 : decode cX0_openBlock 11 = .ok (.aload_n 0, 1) := by decide +kernel
theorem d_cX0_openBlock_12 : decode cX0_openBlock 12 = .ok (.getfield 9, 3) := by decide +kernel
theorem d_cX0_openBlock_15 : decode cX0_openBlock 15 = .ok (.aload_n 0, 1) := by decide +kernel
theorem d_cX0_openBlock_16 : decode cX0_openBlock 16 = .ok (.getfield 45, 3) := by decide +kernel
theorem d_cX0_openBlock_19 : decode cX0_openBlock 19 = .ok (.aload_n 0, 1) := by decide +kernel
theorem d_cX0_openBlock_20 : decode cX0_openBlock 20 = .ok (.getfield 49, 3) := by decide +kernel
theorem d_cX0_openBlock_23 : decode cX0_openBlock 23 = .ok (.iastore, 1) := by decide +kernel
theorem d_cX0_openBlock_24 : decode cX0_openBlock 24 = .ok (.aload_n 0, 1) := by decide +kernel
theorem d_cX0_openBlock_25 : decode cX0_openBlock 25 = .ok (.getfield 15, 3) := by decide +kernel
theorem d_cX0_openBlock_28 : decode cX0_openBlock 28 = .ok (.aload_n 0, 1) := by decide +kernel
theorem d_cX0_openBlock_29 : decode cX0_openBlock 29 = .ok (.getfield 45, 3) := by decide +kernel
theorem d_cX0_openBlock_32 : decode cX0_openBlock 32 = .ok (.iconst (-1), 1) := by decide +kernel
theorem d_cX0_openBlock_33 : decode cX0_openBlock 33 = .ok (.iastore, 1) := by decide +kernel
theorem d_cX0_openBlock_34 : decode cX0_openBlock 34 = .ok (.aload_n 0, 1) := by decide +kernel
theorem d_cX0_openBlock_35 : decode cX0_openBlock 35 = .ok (.getfield 18, 3) := by decide +kernel
theorem d_cX0_openBlock_38 : decode cX0_openBlock 38 = .ok (.aload_n 0, 1) := by decide +kernel
theorem d_cX0_openBlock_39 : decode cX0_openBlock 39 = .ok (.getfield 45, 3) := by decide +kernel
theorem d_cX0_openBlock_42 : decode cX0_openBlock 42 = .ok (.iconst (-1), 1) := by decide +kernel
theorem d_cX0_openBlock_43 : decode cX0_openBlock 43 = .ok (.iastore, 1) := by decide +kernel
theorem d_cX0_openBlock_44 : decode cX0_openBlock 44 = .ok (.aload_n 0, 1) := by decide +kernel
theorem d_cX0_openBlock_45 : decode cX0_openBlock 45 = .ok (.dup, 1) := by decide +kernel
theorem d_cX0_openBlock_46 : decode cX0_openBlock 46 = .ok (.getfield 45, 3) := by decide +kernel
theorem d_cX0_openBlock_49 : decode cX0_openBlock 49 = .ok (.iconst 1, 1) := by decide +kernel
theorem d_cX0_openBlock_50 : decode cX0_openBlock 50 = .ok (.iadd, 1) := by decide +kernel
theorem d_cX0_openBlock_51 : decode cX0_openBlock 51 = .ok (.putfield 45, 3) := by decide +kernel
theorem d_cX0_openBlock_54 : decode cX0_openBlock 54 = .ok (.iconst 1, 1) := by decide +kernel
theorem d_cX0_openBlock_55 : decode cX0_openBlock 55 = .ok (.ireturn, 1) := by decide +kernel
theorem d_cX0_openBlock_9 : decode cX0_openBlock 9 = .ok (.iconst 0, 1) := by decide +kernel
theorem d_cX0_openBlock_10 : decode cX0_openBlock 10 = .ok (.ireturn, 1) := by decide +kernel
theorem d_cX0_addGoal_0 : decode cX0_addGoal 0 = .ok (.aload_n 0, 1) := by decide +kernel
theorem d_cX0_addGoal_1 : decode cX0_addGoal 1 = .ok (.getfield 45, 3) := by decide +kernel
theorem d_cX0_addGoal_4 : decode cX0_addGoal 4 = .ok (.iconst 1, 1) := by decide +kernel
theorem d_cX0_addGoal_5 : decode cX0_addGoal 5 = .ok (.isub, 1) := by decide +kernel
theorem d_cX0_addGoal_6 : decode cX0_addGoal 6 = .ok (.istore_n 2, 1) := by decide +kernel
theorem d_cX0_addGoal_7 : decode cX0_addGoal 7 = .ok (.iload_n 2, 1) := by decide +kernel
theorem d_cX0_addGoal_8 : decode cX0_addGoal 8 = .ok (.ifCond .ge 5, 3) := by decide +kernel
theorem d_cX0_addGoal_13 : decode cX0_addGoal 13 = .ok (.aload_n 0, 1) := by decide +kernel
theorem d_cX0_addGoal_14 : decode cX0_addGoal 14 = .ok (.getfield 15, 3) := by decide +kernel
theorem d_cX0_addGoal_17 : decode cX0_addGoal 17 = .ok (.iload_n 2, 1) := by decide +kernel
theorem d_cX0_addGoal_18 : decode cX0_addGoal 18 = .ok (.iaload, 1) := by decide +kernel
theorem d_cX0_addGoal_19 : decode cX0_addGoal 19 = .ok (.iconst (-1), 1) := by decide +kernel
theorem d_cX0_addGoal_20 : decode cX0_addGoal 20 = .ok (.if_icmp .eq 7, 3) := by decide +kernel
theorem d_cX0_addGoal_27 : decode cX0_addGoal 27 = .ok (.iconst 0, 1) := by decide +kernel
theorem d_cX0_addGoal_28 : decode cX0_addGoal 28 = .ok (.istore_n 3, 1) := by decide +kernel
theorem d_cX0_addGoal_29 : decode cX0_addGoal 29 = .ok (.iload_n 3, 1) := by decide +kernel
theorem d_cX0_addGoal_30 : decode cX0_addGoal 30 = .ok (.ifCond .eq 10, 3) := by decide +kernel
theorem d_cX0_addGoal_40 : decode cX0_addGoal 40 = .ok (.aload_n 0, 1) := by decide +kernel
theorem d_cX0_addGoal_41 : decode cX0_addGoal 41 = .ok (.getfield 15, 3) := by decide +kernel
theorem d_cX0_addGoal_44 : decode cX0_addGoal 44 = .ok (.astore 4, 2) := by decide +kernel
theorem d_cX0_addGoal_46 : decode cX0_addGoal 46 = .ok (.aload 4, 2) := by decide +kernel
theorem d_cX0_addGoal_48 : decode cX0_addGoal 48 = .ok (.iload_n 2, 1) := by decide +kernel
theorem d_cX0_addGoal_49 : decode cX0_addGoal 49 = .ok (.iload_n 1, 1) := by decide +kernel
theorem d_cX0_addGoal_50 : decode cX0_addGoal 50 = .ok (.iastore, 1) := by decide +kernel
theorem d_cX0_addGoal_51 : decode cX0_addGoal 51 = .ok (.iload_n 3, 1) := by decide +kernel
theorem d_cX0_addGoal_52 : decode cX0_addGoal 52 = .ok (.ifCond .eq 11, 3) := by decide +kernel
theorem d_cX0_addGoal_63 : decode cX0_addGoal 63 = .ok (.iconst 2, 1) := by decide +kernel
theorem d_cX0_addGoal_64 : decode cX0_addGoal 64 = .ok (.iload_n 2, 1) := by decide +kernel
theorem d_cX0_addGoal_65 : decode cX0_addGoal 65 = .ok (.imul, 1) := by decide +kernel
theorem d_cX0_addGoal_66 : decode cX0_addGoal 66 = .ok (.ireturn, 1) := by decide +kernel
theorem d_cX0_addGoal_23 : decode cX0_addGoal 23 = .ok (.iconst 1, 1) := by decide +kernel
theorem d_cX0_addGoal_24 : decode cX0_addGoal 24 = .ok (.goto 4, 3) := by decide +kernel
theorem d_cX0_addGoal_33 : decode cX0_addGoal 33 = .ok (.aload_n 0, 1) := by decide +kernel
theorem d_cX0_addGoal_34 : decode cX0_addGoal 34 = .ok (.getfield 18, 3) := by decide +kernel
theorem d_cX0_addGoal_37 : decode cX0_addGoal 37 = .ok (.goto 7, 3) := by decide +kernel
theorem d_cX0_addGoal_55 : decode cX0_addGoal 55 = .ok (.iconst 2, 1) := by decide +kernel
theorem d_cX0_addGoal_56 : decode cX0_addGoal 56 = .ok (.iload_n 2, 1) := by decide +kernel
theorem d_cX0_addGoal_57 : decode cX0_addGoal 57 = .ok (.imul, 1) := by decide +kernel
theorem d_cX0_addGoal_58 : decode cX0_addGoal 58 = .ok (.iconst 1, 1) := by decide +kernel
theorem d_cX0_addGoal_59 : decode cX0_addGoal 59 = .ok (.iadd, 1) := by decide +kernel
theorem d_cX0_addGoal_60 : decode cX0_addGoal 60 = .ok (.goto 6, 3) := by decide +kernel
theorem d_cX0_addGoal_11 : decode cX0_addGoal 11 = .ok (.iconst (-1), 1) := by decide +kernel
theorem d_cX0_addGoal_12 : decode cX0_addGoal 12 = .ok (.ireturn, 1) := by decide +kernel
theorem d_cX0_add_0 : decode cX0_add 0 = .ok (.aload_n 0, 1) := by decide +kernel
theorem d_cX0_add_1 : decode cX0_add 1 = .ok (.getfield 49, 3) := by decide +kernel
theorem d_cX0_add_4 : decode cX0_add 4 = .ok (.aload_n 0, 1) := by decide +kernel
theorem d_cX0_add_5 : decode cX0_add 5 = .ok (.getfield 27, 3) := by decide +kernel
theorem w_1_159 : (Jvm.Cond.fieldLink "SpillForge$Code" (27 : Nat) "SpillForge$Code" "op" "[I") ∈ gw := gw_1 159 rfl rfl
theorem d_cX0_add_8 : decode cX0_add 8 = .ok (.arraylength, 1) := by decide +kernel
theorem d_cX0_add_9 : decode cX0_add 9 = .ok (.if_icmp .lt 9, 3) := by decide +kernel
theorem d_cX0_add_18 : decode cX0_add 18 = .ok (.aload_n 0, 1) := by decide +kernel
theorem d_cX0_add_19 : decode cX0_add 19 = .ok (.getfield 27, 3) := by decide +kernel
theorem d_cX0_add_22 : decode cX0_add 22 = .ok (.aload_n 0, 1) := by decide +kernel
theorem d_cX0_add_23 : decode cX0_add 23 = .ok (.getfield 49, 3) := by decide +kernel
theorem d_cX0_add_26 : decode cX0_add 26 = .ok (.iload_n 1, 1) := by decide +kernel
theorem d_cX0_add_27 : decode cX0_add 27 = .ok (.iastore, 1) := by decide +kernel
theorem d_cX0_add_28 : decode cX0_add 28 = .ok (.aload_n 0, 1) := by decide +kernel
theorem d_cX0_add_29 : decode cX0_add 29 = .ok (.getfield 30, 3) := by decide +kernel
theorem w_1_163 : (Jvm.Cond.fieldLink "SpillForge$Code" (30 : Nat) "SpillForge$Code" "set" "[I") ∈ gw := gw_1 163 rfl rfl
theorem d_cX0_add_32 : decode cX0_add 32 = .ok (.aload_n 0, 1) := by decide +kernel
theorem d_cX0_add_33 : decode cX0_add 33 = .ok (.getfield 49, 3) := by decide +kernel
theorem d_cX0_add_36 : decode cX0_add 36 = .ok (.iload_n 2, 1) := by decide +kernel
theorem d_cX0_add_37 : decode cX0_add 37 = .ok (.iastore, 1) := by decide +kernel
theorem d_cX0_add_38 : decode cX0_add 38 = .ok (.aload_n 0, 1) := by decide +kernel
theorem d_cX0_add_39 : decode cX0_add 39 = .ok (.getfield 33, 3) := by decide +kernel
theorem w_1_168 : (Jvm.Cond.fieldLink "SpillForge$Code" (33 : Nat) "SpillForge$Code" "left" "[I") ∈ gw := gw_1 168 rfl rfl
theorem d_cX0_add_42 : decode cX0_add 42 = .ok (.aload_n 0, 1) := by decide +kernel
theorem d_cX0_add_43 : decode cX0_add 43 = .ok (.getfield 49, 3) := by decide +kernel
theorem d_cX0_add_46 : decode cX0_add 46 = .ok (.iload_n 3, 1) := by decide +kernel
theorem d_cX0_add_47 : decode cX0_add 47 = .ok (.iastore, 1) := by decide +kernel
theorem d_cX0_add_48 : decode cX0_add 48 = .ok (.aload_n 0, 1) := by decide +kernel
theorem d_cX0_add_49 : decode cX0_add 49 = .ok (.getfield 36, 3) := by decide +kernel
theorem w_1_174 : (Jvm.Cond.fieldLink "SpillForge$Code" (36 : Nat) "SpillForge$Code" "leftNumber" "[I") ∈ gw := gw_1 174 rfl rfl
theorem d_cX0_add_52 : decode cX0_add 52 = .ok (.aload_n 0, 1) := by decide +kernel
theorem d_cX0_add_53 : decode cX0_add 53 = .ok (.getfield 49, 3) := by decide +kernel
theorem d_cX0_add_56 : decode cX0_add 56 = .ok (.iload 4, 2) := by decide +kernel
theorem d_cX0_add_58 : decode cX0_add 58 = .ok (.iastore, 1) := by decide +kernel
theorem d_cX0_add_59 : decode cX0_add 59 = .ok (.aload_n 0, 1) := by decide +kernel
theorem d_cX0_add_60 : decode cX0_add 60 = .ok (.getfield 39, 3) := by decide +kernel
theorem w_1_178 : (Jvm.Cond.fieldLink "SpillForge$Code" (39 : Nat) "SpillForge$Code" "right" "[I") ∈ gw := gw_1 178 rfl rfl
theorem d_cX0_add_63 : decode cX0_add 63 = .ok (.aload_n 0, 1) := by decide +kernel
theorem d_cX0_add_64 : decode cX0_add 64 = .ok (.getfield 49, 3) := by decide +kernel
theorem d_cX0_add_67 : decode cX0_add 67 = .ok (.iload 5, 2) := by decide +kernel
theorem d_cX0_add_69 : decode cX0_add 69 = .ok (.iastore, 1) := by decide +kernel
theorem d_cX0_add_70 : decode cX0_add 70 = .ok (.aload_n 0, 1) := by decide +kernel
theorem d_cX0_add_71 : decode cX0_add 71 = .ok (.getfield 42, 3) := by decide +kernel
theorem w_1_183 : (Jvm.Cond.fieldLink "SpillForge$Code" (42 : Nat) "SpillForge$Code" "rightNumber" "[I") ∈ gw := gw_1 183 rfl rfl
theorem d_cX0_add_74 : decode cX0_add 74 = .ok (.aload_n 0, 1) := by decide +kernel
theorem d_cX0_add_75 : decode cX0_add 75 = .ok (.getfield 49, 3) := by decide +kernel
theorem d_cX0_add_78 : decode cX0_add 78 = .ok (.iload 6, 2) := by decide +kernel
theorem d_cX0_add_80 : decode cX0_add 80 = .ok (.iastore, 1) := by decide +kernel
theorem d_cX0_add_81 : decode cX0_add 81 = .ok (.aload_n 0, 1) := by decide +kernel
theorem d_cX0_add_82 : decode cX0_add 82 = .ok (.dup, 1) := by decide +kernel
theorem d_cX0_add_83 : decode cX0_add 83 = .ok (.getfield 49, 3) := by decide +kernel
theorem d_cX0_add_86 : decode cX0_add 86 = .ok (.iconst 1, 1) := by decide +kernel
theorem d_cX0_add_87 : decode cX0_add 87 = .ok (.iadd, 1) := by decide +kernel
theorem d_cX0_add_88 : decode cX0_add 88 = .ok (.putfield 49, 3) := by decide +kernel
theorem d_cX0_add_91 : decode cX0_add 91 = .ok (.return_, 1) := by decide +kernel
theorem d_cX0_add_12 : decode cX0_add 12 = .ok (.aload_n 0, 1) := by decide +kernel
theorem d_cX0_add_13 : decode cX0_add 13 = .ok (.iconst 1, 1) := by decide +kernel
theorem d_cX0_add_14 : decode cX0_add 14 = .ok (.putfield 52, 3) := by decide +kernel
theorem d_cX0_add_17 : decode cX0_add 17 = .ok (.return_, 1) := by decide +kernel
theorem d_cX0_openLike_0 : decode cX0_openLike 0 = .ok (.aload_n 0, 1) := by decide +kernel
theorem d_cX0_openLike_1 : decode cX0_openLike 1 = .ok (.getfield 45, 3) := by decide +kernel
theorem d_cX0_openLike_4 : decode cX0_openLike 4 = .ok (.istore_n 2, 1) := by decide +kernel
theorem d_cX0_openLike_5 : decode cX0_openLike 5 = .ok (.iload_n 2, 1) := by decide +kernel
theorem d_cX0_openLike_6 : decode cX0_openLike 6 = .ok (.aload_n 1, 1) := by decide +kernel
theorem d_cX0_openLike_7 : decode cX0_openLike 7 = .ok (.getfield 45, 3) := by decide +kernel
theorem d_cX0_openLike_10 : decode cX0_openLike 10 = .ok (.if_icmp .ge 34, 3) := by decide +kernel
theorem d_cX0_openLike_44 : decode cX0_openLike 44 = .ok (.return_, 1) := by decide +kernel
theorem d_cX0_nameIn_0 : decode cX0_nameIn 0 = .ok (.iload_n 1, 1) := by decide +kernel
theorem d_cX0_nameIn_1 : decode cX0_nameIn 1 = .ok (.ifCond .lt 15, 3) := by decide +kernel
theorem d_cX0_nameIn_16 : decode cX0_nameIn 16 = .ok (.iload_n 1, 1) := by decide +kernel
theorem d_cX0_nameIn_17 : decode cX0_nameIn 17 = .ok (.ireturn, 1) := by decide +kernel
theorem d_cX0_nameIn_4 : decode cX0_nameIn 4 = .ok (.iload_n 1, 1) := by decide +kernel
theorem d_cX0_nameIn_5 : decode cX0_nameIn 5 = .ok (.aload_n 0, 1) := by decide +kernel
theorem d_cX0_nameIn_6 : decode cX0_nameIn 6 = .ok (.arraylength, 1) := by decide +kernel
theorem d_cX0_nameIn_7 : decode cX0_nameIn 7 = .ok (.if_icmp .ge 9, 3) := by decide +kernel
theorem d_cX0_nameIn_10 : decode cX0_nameIn 10 = .ok (.aload_n 0, 1) := by decide +kernel
theorem d_cX0_nameIn_11 : decode cX0_nameIn 11 = .ok (.iload_n 1, 1) := by decide +kernel
theorem d_cX0_nameIn_12 : decode cX0_nameIn 12 = .ok (.iaload, 1) := by decide +kernel
theorem d_cX0_nameIn_13 : decode cX0_nameIn 13 = .ok (.goto 4, 3) := by decide +kernel
theorem d_cX0_linesThat_0 : decode cX0_linesThat 0 = .ok (.iconst 0, 1) := by decide +kernel
theorem d_cX0_linesThat_1 : decode cX0_linesThat 1 = .ok (.istore_n 2, 1) := by decide +kernel
theorem d_cX0_linesThat_2 : decode cX0_linesThat 2 = .ok (.iconst 0, 1) := by decide +kernel
theorem d_cX0_linesThat_3 : decode cX0_linesThat 3 = .ok (.istore_n 3, 1) := by decide +kernel
theorem d_cX0_linesThat_4 : decode cX0_linesThat 4 = .ok (.iload_n 3, 1) := by decide +kernel
theorem d_cX0_linesThat_5 : decode cX0_linesThat 5 = .ok (.aload_n 0, 1) := by decide +kernel
theorem d_cX0_linesThat_6 : decode cX0_linesThat 6 = .ok (.getfield 49, 3) := by decide +kernel
theorem d_cX0_linesThat_9 : decode cX0_linesThat 9 = .ok (.if_icmp .ge 27, 3) := by decide +kernel
theorem d_cX0_linesThat_36 : decode cX0_linesThat 36 = .ok (.iload_n 2, 1) := by decide +kernel
theorem d_cX0_linesThat_37 : decode cX0_linesThat 37 = .ok (.ireturn, 1) := by decide +kernel
theorem d_cX0_linesThat_12 : decode cX0_linesThat 12 = .ok (.iload_n 2, 1) := by decide +kernel
theorem d_cX0_linesThat_13 : decode cX0_linesThat 13 = .ok (.aload_n 0, 1) := by decide +kernel
theorem d_cX0_linesThat_14 : decode cX0_linesThat 14 = .ok (.getfield 27, 3) := by decide +kernel
theorem d_cX0_linesThat_17 : decode cX0_linesThat 17 = .ok (.iload_n 3, 1) := by decide +kernel
theorem d_cX0_linesThat_18 : decode cX0_linesThat 18 = .ok (.iaload, 1) := by decide +kernel
theorem d_cX0_linesThat_19 : decode cX0_linesThat 19 = .ok (.iload_n 1, 1) := by decide +kernel
theorem d_cX0_linesThat_20 : decode cX0_linesThat 20 = .ok (.if_icmp .ne 7, 3) := by decide +kernel
theorem d_cX0_linesThat_27 : decode cX0_linesThat 27 = .ok (.iconst 0, 1) := by decide +kernel
theorem d_cX0_linesThat_28 : decode cX0_linesThat 28 = .ok (.iadd, 1) := by decide +kernel
theorem d_cX0_linesThat_29 : decode cX0_linesThat 29 = .ok (.istore_n 2, 1) := by decide +kernel
theorem d_cX0_linesThat_30 : decode cX0_linesThat 30 = .ok (.iinc 3 1, 3) := by decide +kernel
theorem d_cX0_linesThat_33 : decode cX0_linesThat 33 = .ok (.goto (-29), 3) := by decide +kernel
theorem d_cX0_linesThat_23 : decode cX0_linesThat 23 = .ok (.iconst 1, 1) := by decide +kernel
theorem d_cX0_linesThat_24 : decode cX0_linesThat 24 = .ok (.goto 4, 3) := by decide +kernel
theorem d_cX0_copiesRegister_0 : decode cX0_copiesRegister 0 = .ok (.aload_n 0, 1) := by decide +kernel
theorem d_cX0_copiesRegister_1 : decode cX0_copiesRegister 1 = .ok (.getfield 27, 3) := by decide +kernel
theorem d_cX0_copiesRegister_4 : decode cX0_copiesRegister 4 = .ok (.iload_n 1, 1) := by decide +kernel
theorem d_cX0_copiesRegister_5 : decode cX0_copiesRegister 5 = .ok (.iaload, 1) := by decide +kernel
theorem d_cX0_copiesRegister_6 : decode cX0_copiesRegister 6 = .ok (.bipush 14, 2) := by decide +kernel
theorem d_cX0_copiesRegister_8 : decode cX0_copiesRegister 8 = .ok (.if_icmp .ne 25, 3) := by decide +kernel
theorem d_cX0_copiesRegister_33 : decode cX0_copiesRegister 33 = .ok (.iconst 0, 1) := by decide +kernel
theorem d_cX0_copiesRegister_34 : decode cX0_copiesRegister 34 = .ok (.ireturn, 1) := by decide +kernel
theorem d_cX0_copiesRegister_11 : decode cX0_copiesRegister 11 = .ok (.aload_n 0, 1) := by decide +kernel
theorem d_cX0_copiesRegister_12 : decode cX0_copiesRegister 12 = .ok (.getfield 30, 3) := by decide +kernel
theorem d_cX0_copiesRegister_15 : decode cX0_copiesRegister 15 = .ok (.iload_n 1, 1) := by decide +kernel
theorem d_cX0_copiesRegister_16 : decode cX0_copiesRegister 16 = .ok (.iaload, 1) := by decide +kernel
theorem d_cX0_copiesRegister_17 : decode cX0_copiesRegister 17 = .ok (.ifCond .lt 16, 3) := by decide +kernel
theorem d_cX0_copiesRegister_20 : decode cX0_copiesRegister 20 = .ok (.aload_n 0, 1) := by decide +kernel
theorem d_cX0_copiesRegister_21 : decode cX0_copiesRegister 21 = .ok (.getfield 33, 3) := by decide +kernel
theorem d_cX0_copiesRegister_24 : decode cX0_copiesRegister 24 = .ok (.iload_n 1, 1) := by decide +kernel
theorem d_cX0_copiesRegister_25 : decode cX0_copiesRegister 25 = .ok (.iaload, 1) := by decide +kernel
theorem d_cX0_copiesRegister_26 : decode cX0_copiesRegister 26 = .ok (.ifCond .lt 7, 3) := by decide +kernel
theorem d_cX0_copiesRegister_29 : decode cX0_copiesRegister 29 = .ok (.iconst 1, 1) := by decide +kernel
theorem d_cX0_copiesRegister_30 : decode cX0_copiesRegister 30 = .ok (.goto 4, 3) := by decide +kernel
theorem d_cX0_setBy_0 : decode cX0_setBy 0 = .ok (.iload_n 2, 1) := by decide +kernel
theorem d_cX0_setBy_1 : decode cX0_setBy 1 = .ok (.ifCond .eq 25, 3) := by decide +kernel
theorem d_cX0_setBy_26 : decode cX0_setBy 26 = .ok (.aload_n 0, 1) := by decide +kernel
theorem d_cX0_setBy_27 : decode cX0_setBy 27 = .ok (.getfield 30, 3) := by decide +kernel
theorem d_cX0_setBy_30 : decode cX0_setBy 30 = .ok (.iload_n 1, 1) := by decide +kernel
theorem d_cX0_setBy_31 : decode cX0_setBy 31 = .ok (.iaload, 1) := by decide +kernel
theorem d_cX0_setBy_32 : decode cX0_setBy 32 = .ok (.ireturn, 1) := by decide +kernel
theorem d_cX0_setBy_4 : decode cX0_setBy 4 = .ok (.aload_n 0, 1) := by decide +kernel
theorem d_cX0_setBy_5 : decode cX0_setBy 5 = .ok (.getfield 27, 3) := by decide +kernel
theorem d_cX0_setBy_8 : decode cX0_setBy 8 = .ok (.iload_n 1, 1) := by decide +kernel
theorem d_cX0_setBy_9 : decode cX0_setBy 9 = .ok (.iaload, 1) := by decide +kernel
theorem d_cX0_setBy_10 : decode cX0_setBy 10 = .ok (.bipush 18, 2) := by decide +kernel
theorem d_cX0_setBy_12 : decode cX0_setBy 12 = .ok (.if_icmp .ne 12, 3) := by decide +kernel
theorem d_cX0_setBy_24 : decode cX0_setBy 24 = .ok (.iconst (-1), 1) := by decide +kernel
theorem d_cX0_setBy_25 : decode cX0_setBy 25 = .ok (.ireturn, 1) := by decide +kernel
theorem d_cX0_setBy_15 : decode cX0_setBy 15 = .ok (.aload_n 0, 1) := by decide +kernel
theorem d_cX0_setBy_16 : decode cX0_setBy 16 = .ok (.getfield 42, 3) := by decide +kernel
theorem d_cX0_setBy_19 : decode cX0_setBy 19 = .ok (.iload_n 1, 1) := by decide +kernel
theorem d_cX0_setBy_20 : decode cX0_setBy 20 = .ok (.iaload, 1) := by decide +kernel
theorem d_cX0_setBy_21 : decode cX0_setBy 21 = .ok (.goto 4, 3) := by decide +kernel
theorem d_cX0_firstUse_0 : decode cX0_firstUse 0 = .ok (.iload_n 2, 1) := by decide +kernel
theorem d_cX0_firstUse_1 : decode cX0_firstUse 1 = .ok (.ifCond .eq 25, 3) := by decide +kernel
theorem d_cX0_firstUse_26 : decode cX0_firstUse 26 = .ok (.aload_n 0, 1) := by decide +kernel
theorem d_cX0_firstUse_27 : decode cX0_firstUse 27 = .ok (.getfield 33, 3) := by decide +kernel
theorem d_cX0_firstUse_30 : decode cX0_firstUse 30 = .ok (.iload_n 1, 1) := by decide +kernel
theorem d_cX0_firstUse_31 : decode cX0_firstUse 31 = .ok (.iaload, 1) := by decide +kernel
theorem d_cX0_firstUse_32 : decode cX0_firstUse 32 = .ok (.ireturn, 1) := by decide +kernel
theorem d_cX0_firstUse_4 : decode cX0_firstUse 4 = .ok (.aload_n 0, 1) := by decide +kernel
theorem d_cX0_firstUse_5 : decode cX0_firstUse 5 = .ok (.getfield 27, 3) := by decide +kernel
theorem d_cX0_firstUse_8 : decode cX0_firstUse 8 = .ok (.iload_n 1, 1) := by decide +kernel
theorem d_cX0_firstUse_9 : decode cX0_firstUse 9 = .ok (.iaload, 1) := by decide +kernel
theorem d_cX0_firstUse_10 : decode cX0_firstUse 10 = .ok (.bipush 17, 2) := by decide +kernel
theorem d_cX0_firstUse_12 : decode cX0_firstUse 12 = .ok (.if_icmp .ne 12, 3) := by decide +kernel
theorem d_cX0_firstUse_24 : decode cX0_firstUse 24 = .ok (.iconst (-1), 1) := by decide +kernel
theorem d_cX0_firstUse_25 : decode cX0_firstUse 25 = .ok (.ireturn, 1) := by decide +kernel
theorem d_cX0_firstUse_15 : decode cX0_firstUse 15 = .ok (.aload_n 0, 1) := by decide +kernel
theorem d_cX0_firstUse_16 : decode cX0_firstUse 16 = .ok (.getfield 42, 3) := by decide +kernel
theorem d_cX0_firstUse_19 : decode cX0_firstUse 19 = .ok (.iload_n 1, 1) := by decide +kernel
theorem d_cX0_firstUse_20 : decode cX0_firstUse 20 = .ok (.iaload, 1) := by decide +kernel
theorem d_cX0_firstUse_21 : decode cX0_firstUse 21 = .ok (.goto 4, 3) := by decide +kernel
theorem d_cX0_secondUse_0 : decode cX0_secondUse 0 = .ok (.iload_n 2, 1) := by decide +kernel
theorem d_cX0_secondUse_1 : decode cX0_secondUse 1 = .ok (.ifCond .eq 7, 3) := by decide +kernel
theorem d_cX0_secondUse_8 : decode cX0_secondUse 8 = .ok (.aload_n 0, 1) := by decide +kernel
theorem d_cX0_secondUse_9 : decode cX0_secondUse 9 = .ok (.getfield 39, 3) := by decide +kernel
theorem d_cX0_secondUse_12 : decode cX0_secondUse 12 = .ok (.iload_n 1, 1) := by decide +kernel
theorem d_cX0_secondUse_13 : decode cX0_secondUse 13 = .ok (.iaload, 1) := by decide +kernel
theorem d_cX0_secondUse_14 : decode cX0_secondUse 14 = .ok (.ireturn, 1) := by decide +kernel
theorem d_cX0_secondUse_4 : decode cX0_secondUse 4 = .ok (.iconst (-1), 1) := by decide +kernel
theorem d_cX0_secondUse_5 : decode cX0_secondUse 5 = .ok (.goto 9, 3) := by decide +kernel
theorem d_cJ7_fill_d0a16_0 : decode cJ7_fill_d0a16 0 = .ok (.iconst 0, 1) := by decide +kernel
theorem d_cJ7_fill_d0a16_1 : decode cJ7_fill_d0a16 1 = .ok (.istore_n 3, 1) := by decide +kernel
theorem d_cJ7_fill_d0a16_2 : decode cJ7_fill_d0a16 2 = .ok (.aload_n 0, 1) := by decide +kernel
theorem d_cJ7_fill_d0a16_3 : decode cJ7_fill_d0a16 3 = .ok (.arraylength, 1) := by decide +kernel
theorem d_cJ7_fill_d0a16_4 : decode cJ7_fill_d0a16 4 = .ok (.istore 4, 2) := by decide +kernel
theorem d_cJ7_fill_d0a16_6 : decode cJ7_fill_d0a16 6 = .ok (.iload_n 3, 1) := by decide +kernel
theorem d_cJ7_fill_d0a16_7 : decode cJ7_fill_d0a16 7 = .ok (.iload 4, 2) := by decide +kernel
theorem d_cJ7_fill_d0a16_9 : decode cJ7_fill_d0a16 9 = .ok (.if_icmp .ge 13, 3) := by decide +kernel
theorem d_cJ7_fill_d0a16_22 : decode cJ7_fill_d0a16 22 = .ok (.return_, 1) := by decide +kernel
theorem d_cJ7_fill_d0a16_12 : decode cJ7_fill_d0a16 12 = .ok (.aload_n 0, 1) := by decide +kernel
theorem d_cJ7_fill_d0a16_13 : decode cJ7_fill_d0a16 13 = .ok (.iload_n 3, 1) := by decide +kernel
theorem d_cJ7_fill_d0a16_14 : decode cJ7_fill_d0a16 14 = .ok (.lload_n 1, 1) := by decide +kernel
theorem d_cJ7_fill_d0a16_15 : decode cJ7_fill_d0a16 15 = .ok (.lastore, 1) := by decide +kernel
theorem d_cJ7_fill_d0a16_16 : decode cJ7_fill_d0a16 16 = .ok (.iinc 3 1, 3) := by decide +kernel
theorem d_cJ7_fill_d0a16_19 : decode cJ7_fill_d0a16 19 = .ok (.goto (-13), 3) := by decide +kernel
theorem d_cJ7_fill_53178_0 : decode cJ7_fill_53178 0 = .ok (.iconst 0, 1) := by decide +kernel
theorem d_cJ7_fill_53178_1 : decode cJ7_fill_53178 1 = .ok (.istore_n 2, 1) := by decide +kernel
theorem d_cJ7_fill_53178_2 : decode cJ7_fill_53178 2 = .ok (.aload_n 0, 1) := by decide +kernel
theorem d_cJ7_fill_53178_3 : decode cJ7_fill_53178 3 = .ok (.arraylength, 1) := by decide +kernel
theorem d_cJ7_fill_53178_4 : decode cJ7_fill_53178 4 = .ok (.istore_n 3, 1) := by decide +kernel
theorem d_cJ7_fill_53178_5 : decode cJ7_fill_53178 5 = .ok (.iload_n 2, 1) := by decide +kernel
theorem d_cJ7_fill_53178_6 : decode cJ7_fill_53178 6 = .ok (.iload_n 3, 1) := by decide +kernel
theorem d_cJ7_fill_53178_7 : decode cJ7_fill_53178 7 = .ok (.if_icmp .ge 13, 3) := by decide +kernel
theorem d_cJ7_fill_53178_20 : decode cJ7_fill_53178 20 = .ok (.return_, 1) := by decide +kernel
theorem d_cJ7_fill_53178_10 : decode cJ7_fill_53178 10 = .ok (.aload_n 0, 1) := by decide +kernel
theorem d_cJ7_fill_53178_11 : decode cJ7_fill_53178 11 = .ok (.iload_n 2, 1) := by decide +kernel
theorem d_cJ7_fill_53178_12 : decode cJ7_fill_53178 12 = .ok (.iload_n 1, 1) := by decide +kernel
theorem d_cJ7_fill_53178_13 : decode cJ7_fill_53178 13 = .ok (.iastore, 1) := by decide +kernel
theorem d_cJ7_fill_53178_14 : decode cJ7_fill_53178 14 = .ok (.iinc 2 1, 3) := by decide +kernel
theorem d_cJ7_fill_53178_17 : decode cJ7_fill_53178 17 = .ok (.goto (-12), 3) := by decide +kernel
abbrev ky_696_Code_clear : gKey := (cX0_clear, 1, yX0_clear.cls, none, [], yX0_clear.name, fun _ _ => True)
abbrev po_696_Code_clear (I : FieldType → ClassId) (q674 : Nat) (q675 : Nat) (q676 : Nat) (q677 : Nat) (q678 : Nat) (q679 : Nat) (q680 : Nat) (q681 : Nat) (q682 : Nat) (q683 : Nat) (p684 : Int32) (p685 : Int32) (p686 : Int32) (f687 : Nat → Int32) (f688 : Nat → Int32) (f689 : Nat → Int32) (f690 : Nat → Int32) (f691 : Nat → Int32) (f692 : Nat → Int32) (f693 : Nat → Int32) (f694 : Nat → Int32) (f695 : Nat → Int32) : Option Value → va_W → Prop := fun r w => ∃ (o697 : Int32) (o698 : Int32) (o699 : Int32), r = none ∧ w = [(q674, .inr (5, [.ref q675, .ref q676, .ref q677, .ref q678, .ref q679, .ref q680, .ref q681, .ref q682, .ref q683, .int o697, .int o698, .int o699])), (q675, .inl (I .int, 40, .inl f687)), (q676, .inl (I .int, 40, .inl f688)), (q677, .inl (I .int, 40, .inl f689)), (q678, .inl (I .int, 200, .inl f690)), (q679, .inl (I .int, 200, .inl f691)), (q680, .inl (I .int, 200, .inl f692)), (q681, .inl (I .int, 200, .inl f693)), (q682, .inl (I .int, 200, .inl f694)), (q683, .inl (I .int, 200, .inl f695))] ∧ gB o697 0 0 ∧ gB o698 0 0 ∧ gB o699 0 0
set_option maxRecDepth 100000 in
set_option maxHeartbeats 4000000 in
theorem ct_696_Code_clear (l : Launch) (hl0 : l.stackTraces = false) (D : va_G) (I : FieldType → ClassId) (q674 : Nat) (q675 : Nat) (q676 : Nat) (q677 : Nat) (q678 : Nat) (q679 : Nat) (q680 : Nat) (q681 : Nat) (q682 : Nat) (q683 : Nat) (p684 : Int32) (p685 : Int32) (p686 : Int32) (f687 : Nat → Int32) (f688 : Nat → Int32) (f689 : Nat → Int32) (f690 : Nat → Int32) (f691 : Nat → Int32) (f692 : Nat → Int32) (f693 : Nat → Int32) (f694 : Nat → Int32) (f695 : Nat → Int32) (bp684 : gB p684 0 40) (bp685 : gB p685 0 200) (bp686 : gB p686 0 1) (bf687 : gF f687 0 200) (bf690 : gF f690 0 21) : Ct (gV D I) l yX0_clear cX0_clear 1 none 0 0 0 0 [.ref q674] [(q674, .inr (5, [.ref q675, .ref q676, .ref q677, .ref q678, .ref q679, .ref q680, .ref q681, .ref q682, .ref q683, .int p684, .int p685, .int p686])), (q675, .inl (I .int, 40, .inl f687)), (q676, .inl (I .int, 40, .inl f688)), (q677, .inl (I .int, 40, .inl f689)), (q678, .inl (I .int, 200, .inl f690)), (q679, .inl (I .int, 200, .inl f691)), (q680, .inl (I .int, 200, .inl f692)), (q681, .inl (I .int, 200, .inl f693)), (q682, .inl (I .int, 200, .inl f694)), (q683, .inl (I .int, 200, .inl f695))] (po_696_Code_clear I q674 q675 q676 q677 q678 q679 q680 q681 q682 q683 p684 p685 p686 f687 f688 f689 f690 f691 f692 f693 f694 f695) gN := by
  refine Ct_of hl0 (by decide) (Nat.le_of_ble_eq_true rfl) ?_
  refine G_aload_n 0 d_cX0_clear_0 rfl ?_
  refine G_iconst 0 d_cX0_clear_1 (by decide +kernel) ?_
  refine G_putf (ws' := [(q674, .inr (5, [.ref q675, .ref q676, .ref q677, .ref q678, .ref q679, .ref q680, .ref q681, .ref q682, .ref q683, .int 0, .int p685, .int p686])), (q675, .inl (I .int, 40, .inl f687)), (q676, .inl (I .int, 40, .inl f688)), (q677, .inl (I .int, 40, .inl f689)), (q678, .inl (I .int, 200, .inl f690)), (q679, .inl (I .int, 200, .inl f691)), (q680, .inl (I .int, 200, .inl f692)), (q681, .inl (I .int, 200, .inl f693)), (q682, .inl (I .int, 200, .inl f694)), (q683, .inl (I .int, 200, .inl f695))]) 0 9 d_cX0_clear_2 rfl (gk_X0 D I) (Nat.le_of_ble_eq_true rfl) w_1_187 rfl rfl rfl (Nat.le_of_ble_eq_true rfl) rfl ?_
  refine G_aload_n 0 d_cX0_clear_5 rfl ?_
  refine G_iconst 0 d_cX0_clear_6 (by decide +kernel) ?_
  refine G_putf (ws' := [(q674, .inr (5, [.ref q675, .ref q676, .ref q677, .ref q678, .ref q679, .ref q680, .ref q681, .ref q682, .ref q683, .int 0, .int 0, .int p686])), (q675, .inl (I .int, 40, .inl f687)), (q676, .inl (I .int, 40, .inl f688)), (q677, .inl (I .int, 40, .inl f689)), (q678, .inl (I .int, 200, .inl f690)), (q679, .inl (I .int, 200, .inl f691)), (q680, .inl (I .int, 200, .inl f692)), (q681, .inl (I .int, 200, .inl f693)), (q682, .inl (I .int, 200, .inl f694)), (q683, .inl (I .int, 200, .inl f695))]) 0 10 d_cX0_clear_7 rfl (gk_X0 D I) (Nat.le_of_ble_eq_true rfl) w_1_197 rfl rfl rfl (Nat.le_of_ble_eq_true rfl) rfl ?_
  refine G_aload_n 0 d_cX0_clear_10 rfl ?_
  refine G_iconst 0 d_cX0_clear_11 (by decide +kernel) ?_
  refine G_putf (ws' := [(q674, .inr (5, [.ref q675, .ref q676, .ref q677, .ref q678, .ref q679, .ref q680, .ref q681, .ref q682, .ref q683, .int 0, .int 0, .int 0])), (q675, .inl (I .int, 40, .inl f687)), (q676, .inl (I .int, 40, .inl f688)), (q677, .inl (I .int, 40, .inl f689)), (q678, .inl (I .int, 200, .inl f690)), (q679, .inl (I .int, 200, .inl f691)), (q680, .inl (I .int, 200, .inl f692)), (q681, .inl (I .int, 200, .inl f693)), (q682, .inl (I .int, 200, .inl f694)), (q683, .inl (I .int, 200, .inl f695))]) 0 11 d_cX0_clear_12 rfl (gk_X0 D I) (Nat.le_of_ble_eq_true rfl) w_1_200 rfl rfl rfl (Nat.le_of_ble_eq_true rfl) rfl ?_
  exact G_vret d_cX0_clear_15 rfl (Nat.le_of_ble_eq_true rfl) (Nat.le_of_ble_eq_true rfl) ⟨0, 0, 0, rfl, rfl, (gBl (show Int32.toInt 0 = 0 by decide)), (gBl (show Int32.toInt 0 = 0 by decide)), (gBl (show Int32.toInt 0 = 0 by decide))⟩
abbrev ky_722_Code_rows : gKey := (cX0_rows, 1, yX0_rows.cls, (some FieldType.int), [], yX0_rows.name, fun _ _ => True)
abbrev po_722_Code_rows (I : FieldType → ClassId) (q700 : Nat) (q701 : Nat) (q702 : Nat) (q703 : Nat) (q704 : Nat) (q705 : Nat) (q706 : Nat) (q707 : Nat) (q708 : Nat) (q709 : Nat) (p710 : Int32) (p711 : Int32) (p712 : Int32) (f713 : Nat → Int32) (f714 : Nat → Int32) (f715 : Nat → Int32) (f716 : Nat → Int32) (f717 : Nat → Int32) (f718 : Nat → Int32) (f719 : Nat → Int32) (f720 : Nat → Int32) (f721 : Nat → Int32) : Option Value → va_W → Prop := fun r w => ∃ (o724 : Int32), r = some (.int o724) ∧ w = [(q700, .inr (5, [.ref q701, .ref q702, .ref q703, .ref q704, .ref q705, .ref q706, .ref q707, .ref q708, .ref q709, .int p710, .int p711, .int p712])), (q701, .inl (I .int, 40, .inl f713)), (q702, .inl (I .int, 40, .inl f714)), (q703, .inl (I .int, 40, .inl f715)), (q704, .inl (I .int, 200, .inl f716)), (q705, .inl (I .int, 200, .inl f717)), (q706, .inl (I .int, 200, .inl f718)), (q707, .inl (I .int, 200, .inl f719)), (q708, .inl (I .int, 200, .inl f720)), (q709, .inl (I .int, 200, .inl f721))] ∧ gB o724 (-40) 200
set_option maxRecDepth 100000 in
set_option maxHeartbeats 4000000 in
theorem ct_722_Code_rows (l : Launch) (hl0 : l.stackTraces = false) (D : va_G) (I : FieldType → ClassId) (q700 : Nat) (q701 : Nat) (q702 : Nat) (q703 : Nat) (q704 : Nat) (q705 : Nat) (q706 : Nat) (q707 : Nat) (q708 : Nat) (q709 : Nat) (p710 : Int32) (p711 : Int32) (p712 : Int32) (f713 : Nat → Int32) (f714 : Nat → Int32) (f715 : Nat → Int32) (f716 : Nat → Int32) (f717 : Nat → Int32) (f718 : Nat → Int32) (f719 : Nat → Int32) (f720 : Nat → Int32) (f721 : Nat → Int32) (bp710 : gB p710 0 40) (bp711 : gB p711 0 200) (bp712 : gB p712 0 1) (bf713 : gF f713 0 200) (bf716 : gF f716 0 21) : Ct (gV D I) l yX0_rows cX0_rows 1 (some FieldType.int) 0 0 0 0 [.ref q700] [(q700, .inr (5, [.ref q701, .ref q702, .ref q703, .ref q704, .ref q705, .ref q706, .ref q707, .ref q708, .ref q709, .int p710, .int p711, .int p712])), (q701, .inl (I .int, 40, .inl f713)), (q702, .inl (I .int, 40, .inl f714)), (q703, .inl (I .int, 40, .inl f715)), (q704, .inl (I .int, 200, .inl f716)), (q705, .inl (I .int, 200, .inl f717)), (q706, .inl (I .int, 200, .inl f718)), (q707, .inl (I .int, 200, .inl f719)), (q708, .inl (I .int, 200, .inl f720)), (q709, .inl (I .int, 200, .inl f721))] (po_722_Code_rows I q700 q701 q702 q703 q704 q705 q706 q707 q708 q709 p710 p711 p712 f713 f714 f715 f716 f717 f718 f719 f720 f721) gN := by
  refine Ct_of hl0 (by decide) (Nat.le_of_ble_eq_true rfl) ?_
  refine G_aload_n 0 d_cX0_rows_0 rfl ?_
  refine G_getf 0 10 d_cX0_rows_1 rfl (gk_X0 D I) (Nat.le_of_ble_eq_true rfl) w_1_197 rfl ?_
  refine G_aload_n 0 d_cX0_rows_4 rfl ?_
  refine G_getf 0 9 d_cX0_rows_5 rfl (gk_X0 D I) (Nat.le_of_ble_eq_true rfl) w_1_187 rfl ?_
  refine G_isub d_cX0_rows_8 (G_nam fun z723 hz723 => ?_)
  have ez723 : z723.toInt = p711.toInt - p710.toInt := by rw [gI_sub hz723 bp711 bp710 (by decide) (by decide)]
  have bz723 : gB z723 (-40) 200 := gB_sub (gI_sub hz723 bp711 bp710 (by decide) (by decide)) bp711 bp710 (by decide) (by decide)
  exact G_iret d_cX0_rows_9 rfl (Nat.le_of_ble_eq_true rfl) (Nat.le_of_ble_eq_true rfl) ⟨z723, rfl, rfl, bz723⟩
abbrev ky_748_Code_blockEnd : gKey := (cX0_blockEnd, 2, yX0_blockEnd.cls, (some FieldType.int), [], yX0_blockEnd.name, fun _ _ => True)
abbrev po_748_Code_blockEnd (I : FieldType → ClassId) (q725 : Nat) (q726 : Nat) (q727 : Nat) (q728 : Nat) (q729 : Nat) (q730 : Nat) (q731 : Nat) (q732 : Nat) (q733 : Nat) (q734 : Nat) (p735 : Int32) (p736 : Int32) (p737 : Int32) (p738 : Int32) (f739 : Nat → Int32) (f740 : Nat → Int32) (f741 : Nat → Int32) (f742 : Nat → Int32) (f743 : Nat → Int32) (f744 : Nat → Int32) (f745 : Nat → Int32) (f746 : Nat → Int32) (f747 : Nat → Int32) : Option Value → va_W → Prop := fun r w => (∃ (z749 : Int32), r = some (.int p737) ∧ w = [(q725, .inr (5, [.ref q726, .ref q727, .ref q728, .ref q729, .ref q730, .ref q731, .ref q732, .ref q733, .ref q734, .int p736, .int p737, .int p738])), (q726, .inl (I .int, 40, .inl f739)), (q727, .inl (I .int, 40, .inl f740)), (q728, .inl (I .int, 40, .inl f741)), (q729, .inl (I .int, 200, .inl f742)), (q730, .inl (I .int, 200, .inl f743)), (q731, .inl (I .int, 200, .inl f744)), (q732, .inl (I .int, 200, .inl f745)), (q733, .inl (I .int, 200, .inl f746)), (q734, .inl (I .int, 200, .inl f747))] ∧ z749.toInt = p735.toInt + 1 ∧ p736.toInt ≤ z749.toInt ∧ gB z749 1 40) ∨ (∃ (z754 : Int32) (z749 : Int32) (z753 : Int32), r = some (.int z754) ∧ w = [(q725, .inr (5, [.ref q726, .ref q727, .ref q728, .ref q729, .ref q730, .ref q731, .ref q732, .ref q733, .ref q734, .int p736, .int p737, .int p738])), (q726, .inl (I .int, 40, .inl f739)), (q727, .inl (I .int, 40, .inl f740)), (q728, .inl (I .int, 40, .inl f741)), (q729, .inl (I .int, 200, .inl f742)), (q730, .inl (I .int, 200, .inl f743)), (q731, .inl (I .int, 200, .inl f744)), (q732, .inl (I .int, 200, .inl f745)), (q733, .inl (I .int, 200, .inl f746)), (q734, .inl (I .int, 200, .inl f747))] ∧ z749.toInt = p735.toInt + 1 ∧ z749.toInt < p736.toInt ∧ z753.toInt = p735.toInt + 1 ∧ z754 = f739 z753.toNatClampNeg ∧ gB z754 0 200 ∧ gB z749 1 39 ∧ gB z753 1 40)
set_option maxRecDepth 100000 in
set_option maxHeartbeats 4000000 in
theorem ct_748_Code_blockEnd (l : Launch) (hl0 : l.stackTraces = false) (D : va_G) (I : FieldType → ClassId) (q725 : Nat) (q726 : Nat) (q727 : Nat) (q728 : Nat) (q729 : Nat) (q730 : Nat) (q731 : Nat) (q732 : Nat) (q733 : Nat) (q734 : Nat) (p735 : Int32) (p736 : Int32) (p737 : Int32) (p738 : Int32) (f739 : Nat → Int32) (f740 : Nat → Int32) (f741 : Nat → Int32) (f742 : Nat → Int32) (f743 : Nat → Int32) (f744 : Nat → Int32) (f745 : Nat → Int32) (f746 : Nat → Int32) (f747 : Nat → Int32) (bp735 : gB p735 0 39) (bp736 : gB p736 0 40) (bp737 : gB p737 0 200) (bp738 : gB p738 0 1) (bf739 : gF f739 0 200) (bf742 : gF f742 0 21) : Ct (gV D I) l yX0_blockEnd cX0_blockEnd 2 (some FieldType.int) 0 0 0 0 [.ref q725, .int p735] [(q725, .inr (5, [.ref q726, .ref q727, .ref q728, .ref q729, .ref q730, .ref q731, .ref q732, .ref q733, .ref q734, .int p736, .int p737, .int p738])), (q726, .inl (I .int, 40, .inl f739)), (q727, .inl (I .int, 40, .inl f740)), (q728, .inl (I .int, 40, .inl f741)), (q729, .inl (I .int, 200, .inl f742)), (q730, .inl (I .int, 200, .inl f743)), (q731, .inl (I .int, 200, .inl f744)), (q732, .inl (I .int, 200, .inl f745)), (q733, .inl (I .int, 200, .inl f746)), (q734, .inl (I .int, 200, .inl f747))] (po_748_Code_blockEnd I q725 q726 q727 q728 q729 q730 q731 q732 q733 q734 p735 p736 p737 p738 f739 f740 f741 f742 f743 f744 f745 f746 f747) gN := by
  refine Ct_of hl0 (by decide) (Nat.le_of_ble_eq_true rfl) ?_
  refine G_iload_n 1 d_cX0_blockEnd_0 rfl ?_
  refine G_iconst 1 d_cX0_blockEnd_1 (by decide +kernel) ?_
  refine G_iadd d_cX0_blockEnd_2 (G_nam fun z749 hz749 => ?_)
  have ez749 : z749.toInt = p735.toInt + 1 := by rw [gI_add hz749 bp735 (gBl (show Int32.toInt 1 = 1 by decide)) (by decide) (by decide), show Int32.toInt 1 = 1 from by decide]
  have bz749 : gB z749 1 40 := gB_add (gI_add hz749 bp735 (gBl (show Int32.toInt 1 = 1 by decide)) (by decide) (by decide)) bp735 (gBl (show Int32.toInt 1 = 1 by decide)) (by decide) (by decide)
  refine G_aload_n 0 d_cX0_blockEnd_3 rfl ?_
  refine G_getf 0 9 d_cX0_blockEnd_4 rfl (gk_X0 D I) (Nat.le_of_ble_eq_true rfl) w_1_187 rfl ?_
  refine G_icmp_ge 21 d_cX0_blockEnd_7 (by decide +kernel) (fun hc750 => ?_) (fun hc750 => ?_)
  · have r751 : p736.toInt ≤ z749.toInt := gC_le hc750
    refine G_aload_n 0 d_cX0_blockEnd_21 rfl ?_
    refine G_getf 0 10 d_cX0_blockEnd_22 rfl (gk_X0 D I) (Nat.le_of_ble_eq_true rfl) w_1_197 rfl ?_
    exact G_iret d_cX0_blockEnd_25 rfl (Nat.le_of_ble_eq_true rfl) (Nat.le_of_ble_eq_true rfl) (Or.inl ⟨z749, rfl, rfl, ez749, r751, bz749⟩)
  · have r752 : z749.toInt < p736.toInt := gC_nle hc750
    have bz749' : gB z749 1 39 := ⟨by omega, by omega⟩
    have bp736' : gB p736 2 40 := ⟨by omega, by omega⟩
    refine G_aload_n 0 d_cX0_blockEnd_10 rfl ?_
    refine G_getf 0 0 d_cX0_blockEnd_11 rfl (gk_X0 D I) (Nat.le_of_ble_eq_true rfl) w_1_142 rfl ?_
    refine G_iload_n 1 d_cX0_blockEnd_14 rfl ?_
    refine G_iconst 1 d_cX0_blockEnd_15 (by decide +kernel) ?_
    refine G_iadd d_cX0_blockEnd_16 (G_nam fun z753 hz753 => ?_)
    have ez753 : z753.toInt = p735.toInt + 1 := by rw [gI_add hz753 bp735 (gBl (show Int32.toInt 1 = 1 by decide)) (by decide) (by decide), show Int32.toInt 1 = 1 from by decide]
    have bz753 : gB z753 1 40 := gB_add (gI_add hz753 bp735 (gBl (show Int32.toInt 1 = 1 by decide)) (by decide) (by decide)) bp735 (gBl (show Int32.toInt 1 = 1 by decide)) (by decide) (by decide)
    refine G_iald 1 0 d_cX0_blockEnd_17 rfl rfl (gB_inr (by omega) (by omega)) (G_nam fun z754 hz754 => ?_)
    have bz754 : gB z754 0 200 := by rw [hz754]; exact bf739 _
    refine G_goto 25 d_cX0_blockEnd_18 (by decide +kernel) ?_
    exact G_iret d_cX0_blockEnd_25 rfl (Nat.le_of_ble_eq_true rfl) (Nat.le_of_ble_eq_true rfl) (Or.inr (⟨z754, z749, z753, rfl, rfl, ez749, r752, ez753, hz754, bz754, bz749', bz753⟩))
abbrev ky_779_Code_goal : gKey := (cX0_goal, 3, yX0_goal.cls, (some FieldType.int), [], yX0_goal.name, fun _ _ => True)
abbrev po_779_Code_goal (I : FieldType → ClassId) (q755 : Nat) (q756 : Nat) (q757 : Nat) (q758 : Nat) (q759 : Nat) (q760 : Nat) (q761 : Nat) (q762 : Nat) (q763 : Nat) (q764 : Nat) (p765 : Int32) (p766 : Int32) (p767 : Int32) (p768 : Int32) (p769 : Int32) (f770 : Nat → Int32) (f771 : Nat → Int32) (f772 : Nat → Int32) (f773 : Nat → Int32) (f774 : Nat → Int32) (f775 : Nat → Int32) (f776 : Nat → Int32) (f777 : Nat → Int32) (f778 : Nat → Int32) : Option Value → va_W → Prop := fun r w => (∃ (z782 : Int32), r = some (.int z782) ∧ w = [(q755, .inr (5, [.ref q756, .ref q757, .ref q758, .ref q759, .ref q760, .ref q761, .ref q762, .ref q763, .ref q764, .int p767, .int p768, .int p769])), (q756, .inl (I .int, 40, .inl f770)), (q757, .inl (I .int, 40, .inl f771)), (q758, .inl (I .int, 40, .inl f772)), (q759, .inl (I .int, 200, .inl f773)), (q760, .inl (I .int, 200, .inl f774)), (q761, .inl (I .int, 200, .inl f775)), (q762, .inl (I .int, 200, .inl f776)), (q763, .inl (I .int, 200, .inl f777)), (q764, .inl (I .int, 200, .inl f778))] ∧ p766.toInt ≠ 0 ∧ z782 = f772 p765.toNatClampNeg ∧ gB z782 (-2147483648) 2147483647) ∨ (∃ (z784 : Int32), r = some (.int z784) ∧ w = [(q755, .inr (5, [.ref q756, .ref q757, .ref q758, .ref q759, .ref q760, .ref q761, .ref q762, .ref q763, .ref q764, .int p767, .int p768, .int p769])), (q756, .inl (I .int, 40, .inl f770)), (q757, .inl (I .int, 40, .inl f771)), (q758, .inl (I .int, 40, .inl f772)), (q759, .inl (I .int, 200, .inl f773)), (q760, .inl (I .int, 200, .inl f774)), (q761, .inl (I .int, 200, .inl f775)), (q762, .inl (I .int, 200, .inl f776)), (q763, .inl (I .int, 200, .inl f777)), (q764, .inl (I .int, 200, .inl f778))] ∧ p766.toInt = 0 ∧ z784 = f771 p765.toNatClampNeg ∧ gB z784 (-2147483648) 2147483647)
set_option maxRecDepth 100000 in
set_option maxHeartbeats 4000000 in
theorem ct_779_Code_goal (l : Launch) (hl0 : l.stackTraces = false) (D : va_G) (I : FieldType → ClassId) (q755 : Nat) (q756 : Nat) (q757 : Nat) (q758 : Nat) (q759 : Nat) (q760 : Nat) (q761 : Nat) (q762 : Nat) (q763 : Nat) (q764 : Nat) (p765 : Int32) (p766 : Int32) (p767 : Int32) (p768 : Int32) (p769 : Int32) (f770 : Nat → Int32) (f771 : Nat → Int32) (f772 : Nat → Int32) (f773 : Nat → Int32) (f774 : Nat → Int32) (f775 : Nat → Int32) (f776 : Nat → Int32) (f777 : Nat → Int32) (f778 : Nat → Int32) (bp765 : gB p765 0 39) (bp767 : gB p767 0 40) (bp768 : gB p768 0 200) (bp769 : gB p769 0 1) (bf770 : gF f770 0 200) (bf773 : gF f773 0 21) : Ct (gV D I) l yX0_goal cX0_goal 3 (some FieldType.int) 0 0 0 0 [.ref q755, .int p765, .int p766] [(q755, .inr (5, [.ref q756, .ref q757, .ref q758, .ref q759, .ref q760, .ref q761, .ref q762, .ref q763, .ref q764, .int p767, .int p768, .int p769])), (q756, .inl (I .int, 40, .inl f770)), (q757, .inl (I .int, 40, .inl f771)), (q758, .inl (I .int, 40, .inl f772)), (q759, .inl (I .int, 200, .inl f773)), (q760, .inl (I .int, 200, .inl f774)), (q761, .inl (I .int, 200, .inl f775)), (q762, .inl (I .int, 200, .inl f776)), (q763, .inl (I .int, 200, .inl f777)), (q764, .inl (I .int, 200, .inl f778))] (po_779_Code_goal I q755 q756 q757 q758 q759 q760 q761 q762 q763 q764 p765 p766 p767 p768 p769 f770 f771 f772 f773 f774 f775 f776 f777 f778) gN := by
  refine Ct_of hl0 (by decide) (Nat.le_of_ble_eq_true rfl) ?_
  have bp766 := gB_any p766
  refine G_iload_n 2 d_cX0_goal_0 rfl ?_
  refine G_if_ne 13 d_cX0_goal_1 (by decide +kernel) (fun hc780 => ?_) (fun hc780 => ?_)
  · have r781 : p766.toInt ≠ 0 := gj_neq hc780 (show Int32.toInt 0 = 0 by decide)
    refine G_aload_n 0 d_cX0_goal_13 rfl ?_
    refine G_getf 0 2 d_cX0_goal_14 rfl (gk_X0 D I) (Nat.le_of_ble_eq_true rfl) w_1_154 rfl ?_
    refine G_iload_n 1 d_cX0_goal_17 rfl ?_
    refine G_iald 3 0 d_cX0_goal_18 rfl rfl (gB_in bp765 (by decide) (by decide)) (G_nam fun z782 hz782 => ?_)
    have bz782 : gB z782 (-2147483648) 2147483647 := gB_any z782
    exact G_iret d_cX0_goal_19 rfl (Nat.le_of_ble_eq_true rfl) (Nat.le_of_ble_eq_true rfl) (Or.inl ⟨z782, rfl, rfl, r781, hz782, bz782⟩)
  · have r783 : p766.toInt = 0 := gj_eq hc780 (show Int32.toInt 0 = 0 by decide)
    have bp766' : gB p766 0 0 := ⟨by omega, by omega⟩
    refine G_aload_n 0 d_cX0_goal_4 rfl ?_
    refine G_getf 0 1 d_cX0_goal_5 rfl (gk_X0 D I) (Nat.le_of_ble_eq_true rfl) w_1_149 rfl ?_
    refine G_iload_n 1 d_cX0_goal_8 rfl ?_
    refine G_iald 2 0 d_cX0_goal_9 rfl rfl (gB_in bp765 (by decide) (by decide)) (G_nam fun z784 hz784 => ?_)
    have bz784 : gB z784 (-2147483648) 2147483647 := gB_any z784
    refine G_goto 19 d_cX0_goal_10 (by decide +kernel) ?_
    exact G_iret d_cX0_goal_19 rfl (Nat.le_of_ble_eq_true rfl) (Nat.le_of_ble_eq_true rfl) (Or.inr (⟨z784, rfl, rfl, r783, hz784, bz784⟩))
abbrev ky_807_Code_openBlock : gKey := (cX0_openBlock, 1, yX0_openBlock.cls, (some FieldType.boolean), [], yX0_openBlock.name, fun _ _ => True)
abbrev po_807_Code_openBlock (I : FieldType → ClassId) (q785 : Nat) (q786 : Nat) (q787 : Nat) (q788 : Nat) (q789 : Nat) (q790 : Nat) (q791 : Nat) (q792 : Nat) (q793 : Nat) (q794 : Nat) (p795 : Int32) (p796 : Int32) (p797 : Int32) (f798 : Nat → Int32) (f799 : Nat → Int32) (f800 : Nat → Int32) (f801 : Nat → Int32) (f802 : Nat → Int32) (f803 : Nat → Int32) (f804 : Nat → Int32) (f805 : Nat → Int32) (f806 : Nat → Int32) : Option Value → va_W → Prop := fun r w => ∃ (o819 : Int32) (o815 : Int32) (f816 : Nat → Int32) (f817 : Nat → Int32) (f818 : Nat → Int32), r = some (.int o819) ∧ w = [(q785, .inr (5, [.ref q786, .ref q787, .ref q788, .ref q789, .ref q790, .ref q791, .ref q792, .ref q793, .ref q794, .int o815, .int p796, .int p797])), (q786, .inl (I .int, 40, .inl f816)), (q787, .inl (I .int, 40, .inl f817)), (q788, .inl (I .int, 40, .inl f818)), (q789, .inl (I .int, 200, .inl f801)), (q790, .inl (I .int, 200, .inl f802)), (q791, .inl (I .int, 200, .inl f803)), (q792, .inl (I .int, 200, .inl f804)), (q793, .inl (I .int, 200, .inl f805)), (q794, .inl (I .int, 200, .inl f806))] ∧ gB o819 0 1 ∧ gB o815 1 40 ∧ gF f816 0 200 ∧ gF f817 (-2147483648) 2147483647 ∧ gF f818 (-2147483648) 2147483647
set_option maxRecDepth 100000 in
set_option maxHeartbeats 4000000 in
theorem ct_807_Code_openBlock (l : Launch) (hl0 : l.stackTraces = false) (D : va_G) (I : FieldType → ClassId) (q785 : Nat) (q786 : Nat) (q787 : Nat) (q788 : Nat) (q789 : Nat) (q790 : Nat) (q791 : Nat) (q792 : Nat) (q793 : Nat) (q794 : Nat) (p795 : Int32) (p796 : Int32) (p797 : Int32) (f798 : Nat → Int32) (f799 : Nat → Int32) (f800 : Nat → Int32) (f801 : Nat → Int32) (f802 : Nat → Int32) (f803 : Nat → Int32) (f804 : Nat → Int32) (f805 : Nat → Int32) (f806 : Nat → Int32) (bp795 : gB p795 0 40) (bp796 : gB p796 0 200) (bp797 : gB p797 0 1) (bf798 : gF f798 0 200) (bf801 : gF f801 0 21) : Ct (gV D I) l yX0_openBlock cX0_openBlock 1 (some FieldType.boolean) 0 0 0 0 [.ref q785] [(q785, .inr (5, [.ref q786, .ref q787, .ref q788, .ref q789, .ref q790, .ref q791, .ref q792, .ref q793, .ref q794, .int p795, .int p796, .int p797])), (q786, .inl (I .int, 40, .inl f798)), (q787, .inl (I .int, 40, .inl f799)), (q788, .inl (I .int, 40, .inl f800)), (q789, .inl (I .int, 200, .inl f801)), (q790, .inl (I .int, 200, .inl f802)), (q791, .inl (I .int, 200, .inl f803)), (q792, .inl (I .int, 200, .inl f804)), (q793, .inl (I .int, 200, .inl f805)), (q794, .inl (I .int, 200, .inl f806))] (po_807_Code_openBlock I q785 q786 q787 q788 q789 q790 q791 q792 q793 q794 p795 p796 p797 f798 f799 f800 f801 f802 f803 f804 f805 f806) gN := by
  refine Ct_of hl0 (by decide) (Nat.le_of_ble_eq_true rfl) ?_
  refine G_aload_n 0 d_cX0_openBlock_0 rfl ?_
  refine G_getf 0 9 d_cX0_openBlock_1 rfl (gk_X0 D I) (Nat.le_of_ble_eq_true rfl) w_1_187 rfl ?_
  refine G_bipush 40 d_cX0_openBlock_4 (by decide +kernel) ?_
  refine G_icmp_lt 11 d_cX0_openBlock_6 (by decide +kernel) (fun hc808 => ?_) (fun hc808 => ?_)
  · have r809 : p795.toInt < 40 := gj_lt hc808 (show Int32.toInt 40 = 40 by decide)
    have bp795' : gB p795 0 39 := ⟨by omega, by omega⟩
    refine G_aload_n 0 d_cX0_openBlock_11 rfl ?_
    refine G_getf 0 0 d_cX0_openBlock_12 rfl (gk_X0 D I) (Nat.le_of_ble_eq_true rfl) w_1_142 rfl ?_
    refine G_aload_n 0 d_cX0_openBlock_15 rfl ?_
    refine G_getf 0 9 d_cX0_openBlock_16 rfl (gk_X0 D I) (Nat.le_of_ble_eq_true rfl) w_1_187 rfl ?_
    refine G_aload_n 0 d_cX0_openBlock_19 rfl ?_
    refine G_getf 0 10 d_cX0_openBlock_20 rfl (gk_X0 D I) (Nat.le_of_ble_eq_true rfl) w_1_197 rfl ?_
    refine G_iastN 1 0 d_cX0_openBlock_23 rfl rfl (gB_in bp795' (by decide) (by decide)) (fun f810 hf810 => ?_)
    refine G_ws (ws' := [(q785, .inr (5, [.ref q786, .ref q787, .ref q788, .ref q789, .ref q790, .ref q791, .ref q792, .ref q793, .ref q794, .int p795, .int p796, .int p797])), (q786, .inl (I .int, 40, .inl f810)), (q787, .inl (I .int, 40, .inl f799)), (q788, .inl (I .int, 40, .inl f800)), (q789, .inl (I .int, 200, .inl f801)), (q790, .inl (I .int, 200, .inl f802)), (q791, .inl (I .int, 200, .inl f803)), (q792, .inl (I .int, 200, .inl f804)), (q793, .inl (I .int, 200, .inl f805)), (q794, .inl (I .int, 200, .inl f806))]) (cs' := 0) (sl' := 0) rfl rfl rfl ?_
    have bf810 : gF f810 0 200 := gF_upd hf810 bf798 bp796
    refine G_aload_n 0 d_cX0_openBlock_24 rfl ?_
    refine G_getf 0 1 d_cX0_openBlock_25 rfl (gk_X0 D I) (Nat.le_of_ble_eq_true rfl) w_1_149 rfl ?_
    refine G_aload_n 0 d_cX0_openBlock_28 rfl ?_
    refine G_getf 0 9 d_cX0_openBlock_29 rfl (gk_X0 D I) (Nat.le_of_ble_eq_true rfl) w_1_187 rfl ?_
    refine G_iconst (-1) d_cX0_openBlock_32 (by decide +kernel) ?_
    refine G_iastN 2 0 d_cX0_openBlock_33 rfl rfl (gB_in bp795' (by decide) (by decide)) (fun f811 hf811 => ?_)
    refine G_ws (ws' := [(q785, .inr (5, [.ref q786, .ref q787, .ref q788, .ref q789, .ref q790, .ref q791, .ref q792, .ref q793, .ref q794, .int p795, .int p796, .int p797])), (q786, .inl (I .int, 40, .inl f810)), (q787, .inl (I .int, 40, .inl f811)), (q788, .inl (I .int, 40, .inl f800)), (q789, .inl (I .int, 200, .inl f801)), (q790, .inl (I .int, 200, .inl f802)), (q791, .inl (I .int, 200, .inl f803)), (q792, .inl (I .int, 200, .inl f804)), (q793, .inl (I .int, 200, .inl f805)), (q794, .inl (I .int, 200, .inl f806))]) (cs' := 0) (sl' := 0) rfl rfl rfl ?_
    refine G_aload_n 0 d_cX0_openBlock_34 rfl ?_
    refine G_getf 0 2 d_cX0_openBlock_35 rfl (gk_X0 D I) (Nat.le_of_ble_eq_true rfl) w_1_154 rfl ?_
    refine G_aload_n 0 d_cX0_openBlock_38 rfl ?_
    refine G_getf 0 9 d_cX0_openBlock_39 rfl (gk_X0 D I) (Nat.le_of_ble_eq_true rfl) w_1_187 rfl ?_
    refine G_iconst (-1) d_cX0_openBlock_42 (by decide +kernel) ?_
    refine G_iastN 3 0 d_cX0_openBlock_43 rfl rfl (gB_in bp795' (by decide) (by decide)) (fun f812 hf812 => ?_)
    refine G_ws (ws' := [(q785, .inr (5, [.ref q786, .ref q787, .ref q788, .ref q789, .ref q790, .ref q791, .ref q792, .ref q793, .ref q794, .int p795, .int p796, .int p797])), (q786, .inl (I .int, 40, .inl f810)), (q787, .inl (I .int, 40, .inl f811)), (q788, .inl (I .int, 40, .inl f812)), (q789, .inl (I .int, 200, .inl f801)), (q790, .inl (I .int, 200, .inl f802)), (q791, .inl (I .int, 200, .inl f803)), (q792, .inl (I .int, 200, .inl f804)), (q793, .inl (I .int, 200, .inl f805)), (q794, .inl (I .int, 200, .inl f806))]) (cs' := 0) (sl' := 0) rfl rfl rfl ?_
    refine G_aload_n 0 d_cX0_openBlock_44 rfl ?_
    refine G_dup d_cX0_openBlock_45 rfl ?_
    refine G_getf 0 9 d_cX0_openBlock_46 rfl (gk_X0 D I) (Nat.le_of_ble_eq_true rfl) w_1_187 rfl ?_
    refine G_iconst 1 d_cX0_openBlock_49 (by decide +kernel) ?_
    refine G_iadd d_cX0_openBlock_50 (G_nam fun z813 hz813 => ?_)
    have ez813 : z813.toInt = p795.toInt + 1 := by rw [gI_add hz813 bp795' (gBl (show Int32.toInt 1 = 1 by decide)) (by decide) (by decide), show Int32.toInt 1 = 1 from by decide]
    have bz813 : gB z813 1 40 := gB_add (gI_add hz813 bp795' (gBl (show Int32.toInt 1 = 1 by decide)) (by decide) (by decide)) bp795' (gBl (show Int32.toInt 1 = 1 by decide)) (by decide) (by decide)
    refine G_putf (ws' := [(q785, .inr (5, [.ref q786, .ref q787, .ref q788, .ref q789, .ref q790, .ref q791, .ref q792, .ref q793, .ref q794, .int z813, .int p796, .int p797])), (q786, .inl (I .int, 40, .inl f810)), (q787, .inl (I .int, 40, .inl f811)), (q788, .inl (I .int, 40, .inl f812)), (q789, .inl (I .int, 200, .inl f801)), (q790, .inl (I .int, 200, .inl f802)), (q791, .inl (I .int, 200, .inl f803)), (q792, .inl (I .int, 200, .inl f804)), (q793, .inl (I .int, 200, .inl f805)), (q794, .inl (I .int, 200, .inl f806))]) 0 9 d_cX0_openBlock_51 rfl (gk_X0 D I) (Nat.le_of_ble_eq_true rfl) w_1_187 rfl rfl rfl (Nat.le_of_ble_eq_true rfl) rfl ?_
    refine G_iconst 1 d_cX0_openBlock_54 (by decide +kernel) ?_
    exact G_zret FieldType.boolean d_cX0_openBlock_55 rfl rfl (Nat.le_of_ble_eq_true rfl) (Nat.le_of_ble_eq_true rfl) ⟨1, z813, f810, f811, f812, rfl, rfl, (gB_w (gBl (show Int32.toInt 1 = 1 by decide)) (by decide) (by decide)), bz813, bf810, (gF_any f811), (gF_any f812)⟩
  · have r814 : 40 ≤ p795.toInt := gj_nlt hc808 (show Int32.toInt 40 = 40 by decide)
    have bp795' : gB p795 40 40 := ⟨by omega, by omega⟩
    refine G_iconst 0 d_cX0_openBlock_9 (by decide +kernel) ?_
    exact G_zret FieldType.boolean d_cX0_openBlock_10 rfl rfl (Nat.le_of_ble_eq_true rfl) (Nat.le_of_ble_eq_true rfl) ⟨0, p795, f798, f799, f800, rfl, rfl, (gB_w (gBl (show Int32.toInt 0 = 0 by decide)) (by decide) (by decide)), (gB_w bp795' (by decide) (by decide)), bf798, (gF_any f799), (gF_any f800)⟩
abbrev ky_843_Code_addGoal : gKey := (cX0_addGoal, 5, yX0_addGoal.cls, (some FieldType.int), [], yX0_addGoal.name, fun _ _ => True)
abbrev po_843_Code_addGoal (I : FieldType → ClassId) (q820 : Nat) (q821 : Nat) (q822 : Nat) (q823 : Nat) (q824 : Nat) (q825 : Nat) (q826 : Nat) (q827 : Nat) (q828 : Nat) (q829 : Nat) (p830 : Int32) (p831 : Int32) (p832 : Int32) (p833 : Int32) (f834 : Nat → Int32) (f835 : Nat → Int32) (f836 : Nat → Int32) (f837 : Nat → Int32) (f838 : Nat → Int32) (f839 : Nat → Int32) (f840 : Nat → Int32) (f841 : Nat → Int32) (f842 : Nat → Int32) : Option Value → va_W → Prop := fun r w => ∃ (o859 : Int32) (f857 : Nat → Int32) (f858 : Nat → Int32), r = some (.int o859) ∧ w = [(q820, .inr (5, [.ref q821, .ref q822, .ref q823, .ref q824, .ref q825, .ref q826, .ref q827, .ref q828, .ref q829, .int p831, .int p832, .int p833])), (q821, .inl (I .int, 40, .inl f834)), (q822, .inl (I .int, 40, .inl f857)), (q823, .inl (I .int, 40, .inl f858)), (q824, .inl (I .int, 200, .inl f837)), (q825, .inl (I .int, 200, .inl f838)), (q826, .inl (I .int, 200, .inl f839)), (q827, .inl (I .int, 200, .inl f840)), (q828, .inl (I .int, 200, .inl f841)), (q829, .inl (I .int, 200, .inl f842))] ∧ gB o859 (-1) 79 ∧ gF f857 (-2147483648) 2147483647 ∧ gF f858 (-2147483648) 2147483647
set_option maxRecDepth 100000 in
set_option maxHeartbeats 4000000 in
theorem ct_843_Code_addGoal (l : Launch) (hl0 : l.stackTraces = false) (D : va_G) (I : FieldType → ClassId) (q820 : Nat) (q821 : Nat) (q822 : Nat) (q823 : Nat) (q824 : Nat) (q825 : Nat) (q826 : Nat) (q827 : Nat) (q828 : Nat) (q829 : Nat) (p830 : Int32) (p831 : Int32) (p832 : Int32) (p833 : Int32) (f834 : Nat → Int32) (f835 : Nat → Int32) (f836 : Nat → Int32) (f837 : Nat → Int32) (f838 : Nat → Int32) (f839 : Nat → Int32) (f840 : Nat → Int32) (f841 : Nat → Int32) (f842 : Nat → Int32) (bp831 : gB p831 0 40) (bp832 : gB p832 0 200) (bp833 : gB p833 0 1) (bf834 : gF f834 0 200) (bf837 : gF f837 0 21) : Ct (gV D I) l yX0_addGoal cX0_addGoal 5 (some FieldType.int) 0 0 0 0 [.ref q820, .int p830] [(q820, .inr (5, [.ref q821, .ref q822, .ref q823, .ref q824, .ref q825, .ref q826, .ref q827, .ref q828, .ref q829, .int p831, .int p832, .int p833])), (q821, .inl (I .int, 40, .inl f834)), (q822, .inl (I .int, 40, .inl f835)), (q823, .inl (I .int, 40, .inl f836)), (q824, .inl (I .int, 200, .inl f837)), (q825, .inl (I .int, 200, .inl f838)), (q826, .inl (I .int, 200, .inl f839)), (q827, .inl (I .int, 200, .inl f840)), (q828, .inl (I .int, 200, .inl f841)), (q829, .inl (I .int, 200, .inl f842))] (po_843_Code_addGoal I q820 q821 q822 q823 q824 q825 q826 q827 q828 q829 p830 p831 p832 p833 f834 f835 f836 f837 f838 f839 f840 f841 f842) gN := by
  refine Ct_of hl0 (by decide) (Nat.le_of_ble_eq_true rfl) ?_
  have bp830 := gB_any p830
  refine G_aload_n 0 d_cX0_addGoal_0 rfl ?_
  refine G_getf 0 9 d_cX0_addGoal_1 rfl (gk_X0 D I) (Nat.le_of_ble_eq_true rfl) w_1_187 rfl ?_
  refine G_iconst 1 d_cX0_addGoal_4 (by decide +kernel) ?_
  refine G_isub d_cX0_addGoal_5 (G_nam fun z844 hz844 => ?_)
  have ez844 : z844.toInt = p831.toInt - 1 := by rw [gI_sub hz844 bp831 (gBl (show Int32.toInt 1 = 1 by decide)) (by decide) (by decide), show Int32.toInt 1 = 1 from by decide]
  have bz844 : gB z844 (-1) 39 := gB_sub (gI_sub hz844 bp831 (gBl (show Int32.toInt 1 = 1 by decide)) (by decide) (by decide)) bp831 (gBl (show Int32.toInt 1 = 1 by decide)) (by decide) (by decide)
  refine G_istore_n (L' := [(2, .int z844), (0, .ref q820), (1, .int p830)]) d_cX0_addGoal_6 (Nat.le_of_ble_eq_true rfl) rfl ?_
  refine G_iload_n 0 d_cX0_addGoal_7 rfl ?_
  refine G_if_ge 13 d_cX0_addGoal_8 (by decide +kernel) (fun hc845 => ?_) (fun hc845 => ?_)
  · have r846 : 0 ≤ z844.toInt := gj_leL hc845 (show Int32.toInt 0 = 0 by decide)
    have bz844' : gB z844 0 39 := ⟨by omega, by omega⟩
    refine G_aload_n 1 d_cX0_addGoal_13 rfl ?_
    refine G_getf 0 1 d_cX0_addGoal_14 rfl (gk_X0 D I) (Nat.le_of_ble_eq_true rfl) w_1_149 rfl ?_
    refine G_iload_n 0 d_cX0_addGoal_17 rfl ?_
    refine G_iald 2 0 d_cX0_addGoal_18 rfl rfl (gB_in bz844' (by decide) (by decide)) (G_nam fun z847 hz847 => ?_)
    have bz847 : gB z847 (-2147483648) 2147483647 := gB_any z847
    refine G_iconst (-1) d_cX0_addGoal_19 (by decide +kernel) ?_
    refine G_icmp_eq 27 d_cX0_addGoal_20 (by decide +kernel) (fun hc848 => ?_) (fun hc848 => ?_)
    · have r849 : z847.toInt = (-1) := gj_eq hc848 (show Int32.toInt (-1) = (-1) by decide)
      have bz847' : gB z847 (-1) (-1) := ⟨by omega, by omega⟩
      refine G_iconst 0 d_cX0_addGoal_27 (by decide +kernel) ?_
      refine G_istore_n (L' := [(3, .int 0), (2, .int z844), (0, .ref q820), (1, .int p830)]) d_cX0_addGoal_28 (Nat.le_of_ble_eq_true rfl) rfl ?_
      refine G_iload_n 0 d_cX0_addGoal_29 rfl ?_
      refine G_if_eq 40 d_cX0_addGoal_30 (by decide +kernel) (fun _ => ?_) (fun hc => absurd hc (by decide))
      refine G_aload_n 2 d_cX0_addGoal_40 rfl ?_
      refine G_getf 0 1 d_cX0_addGoal_41 rfl (gk_X0 D I) (Nat.le_of_ble_eq_true rfl) w_1_149 rfl ?_
      refine G_astore (L' := [(4, .ref q822), (3, .int 0), (2, .int z844), (0, .ref q820), (1, .int p830)]) d_cX0_addGoal_44 (Nat.le_of_ble_eq_true rfl) rfl ?_
      refine G_aload 0 d_cX0_addGoal_46 rfl ?_
      refine G_iload_n 2 d_cX0_addGoal_48 rfl ?_
      refine G_iload_n 4 d_cX0_addGoal_49 rfl ?_
      refine G_iastN 2 0 d_cX0_addGoal_50 rfl rfl (gB_in bz844' (by decide) (by decide)) (fun f850 hf850 => ?_)
      refine G_ws (ws' := [(q820, .inr (5, [.ref q821, .ref q822, .ref q823, .ref q824, .ref q825, .ref q826, .ref q827, .ref q828, .ref q829, .int p831, .int p832, .int p833])), (q821, .inl (I .int, 40, .inl f834)), (q822, .inl (I .int, 40, .inl f850)), (q823, .inl (I .int, 40, .inl f836)), (q824, .inl (I .int, 200, .inl f837)), (q825, .inl (I .int, 200, .inl f838)), (q826, .inl (I .int, 200, .inl f839)), (q827, .inl (I .int, 200, .inl f840)), (q828, .inl (I .int, 200, .inl f841)), (q829, .inl (I .int, 200, .inl f842))]) (cs' := 0) (sl' := 0) rfl rfl rfl ?_
      refine G_iload_n 1 d_cX0_addGoal_51 rfl ?_
      refine G_if_eq 63 d_cX0_addGoal_52 (by decide +kernel) (fun _ => ?_) (fun hc => absurd hc (by decide))
      refine G_iconst 2 d_cX0_addGoal_63 (by decide +kernel) ?_
      refine G_iload_n 2 d_cX0_addGoal_64 rfl ?_
      refine G_imul d_cX0_addGoal_65 (G_nam fun z851 hz851 => ?_)
      have ez851 : z851.toInt = 2 * z844.toInt := by rw [gI_mul hz851 (gBl (show Int32.toInt 2 = 2 by decide)) bz844' (by decide) (by decide) (by decide), show Int32.toInt 2 = 2 from by decide]
      have bz851 : gB z851 0 78 := gB_mul hz851 (gBl (show Int32.toInt 2 = 2 by decide)) bz844' (by decide) (by decide) (by decide) (by decide)
      exact G_iret d_cX0_addGoal_66 rfl (Nat.le_of_ble_eq_true rfl) (Nat.le_of_ble_eq_true rfl) ⟨z851, f850, f836, rfl, rfl, (gB_w bz851 (by decide) (by decide)), (gF_any f850), (gF_any f836)⟩
    · have r852 : z847.toInt ≠ (-1) := gj_neq hc848 (show Int32.toInt (-1) = (-1) by decide)
      refine G_iconst 1 d_cX0_addGoal_23 (by decide +kernel) ?_
      refine G_goto 28 d_cX0_addGoal_24 (by decide +kernel) ?_
      refine G_istore_n (L' := [(3, .int 1), (2, .int z844), (0, .ref q820), (1, .int p830)]) d_cX0_addGoal_28 (Nat.le_of_ble_eq_true rfl) rfl ?_
      refine G_iload_n 0 d_cX0_addGoal_29 rfl ?_
      refine G_if_eq 40 d_cX0_addGoal_30 (by decide +kernel) (fun hc => absurd hc (by decide)) (fun _ => ?_)
      refine G_aload_n 2 d_cX0_addGoal_33 rfl ?_
      refine G_getf 0 2 d_cX0_addGoal_34 rfl (gk_X0 D I) (Nat.le_of_ble_eq_true rfl) w_1_154 rfl ?_
      refine G_goto 44 d_cX0_addGoal_37 (by decide +kernel) ?_
      refine G_astore (L' := [(4, .ref q823), (3, .int 1), (2, .int z844), (0, .ref q820), (1, .int p830)]) d_cX0_addGoal_44 (Nat.le_of_ble_eq_true rfl) rfl ?_
      refine G_aload 0 d_cX0_addGoal_46 rfl ?_
      refine G_iload_n 2 d_cX0_addGoal_48 rfl ?_
      refine G_iload_n 4 d_cX0_addGoal_49 rfl ?_
      refine G_iastN 3 0 d_cX0_addGoal_50 rfl rfl (gB_in bz844' (by decide) (by decide)) (fun f853 hf853 => ?_)
      refine G_ws (ws' := [(q820, .inr (5, [.ref q821, .ref q822, .ref q823, .ref q824, .ref q825, .ref q826, .ref q827, .ref q828, .ref q829, .int p831, .int p832, .int p833])), (q821, .inl (I .int, 40, .inl f834)), (q822, .inl (I .int, 40, .inl f835)), (q823, .inl (I .int, 40, .inl f853)), (q824, .inl (I .int, 200, .inl f837)), (q825, .inl (I .int, 200, .inl f838)), (q826, .inl (I .int, 200, .inl f839)), (q827, .inl (I .int, 200, .inl f840)), (q828, .inl (I .int, 200, .inl f841)), (q829, .inl (I .int, 200, .inl f842))]) (cs' := 0) (sl' := 0) rfl rfl rfl ?_
      refine G_iload_n 1 d_cX0_addGoal_51 rfl ?_
      refine G_if_eq 63 d_cX0_addGoal_52 (by decide +kernel) (fun hc => absurd hc (by decide)) (fun _ => ?_)
      refine G_iconst 2 d_cX0_addGoal_55 (by decide +kernel) ?_
      refine G_iload_n 2 d_cX0_addGoal_56 rfl ?_
      refine G_imul d_cX0_addGoal_57 (G_nam fun z854 hz854 => ?_)
      have ez854 : z854.toInt = 2 * z844.toInt := by rw [gI_mul hz854 (gBl (show Int32.toInt 2 = 2 by decide)) bz844' (by decide) (by decide) (by decide), show Int32.toInt 2 = 2 from by decide]
      have bz854 : gB z854 0 78 := gB_mul hz854 (gBl (show Int32.toInt 2 = 2 by decide)) bz844' (by decide) (by decide) (by decide) (by decide)
      refine G_iconst 1 d_cX0_addGoal_58 (by decide +kernel) ?_
      refine G_iadd d_cX0_addGoal_59 (G_nam fun z855 hz855 => ?_)
      have ez855 : z855.toInt = z854.toInt + 1 := by rw [gI_add hz855 bz854 (gBl (show Int32.toInt 1 = 1 by decide)) (by decide) (by decide), show Int32.toInt 1 = 1 from by decide]
      have bz855 : gB z855 1 79 := gB_add (gI_add hz855 bz854 (gBl (show Int32.toInt 1 = 1 by decide)) (by decide) (by decide)) bz854 (gBl (show Int32.toInt 1 = 1 by decide)) (by decide) (by decide)
      refine G_goto 66 d_cX0_addGoal_60 (by decide +kernel) ?_
      exact G_iret d_cX0_addGoal_66 rfl (Nat.le_of_ble_eq_true rfl) (Nat.le_of_ble_eq_true rfl) ⟨z855, f835, f853, rfl, rfl, (gB_w bz855 (by decide) (by decide)), (gF_any f835), (gF_any f853)⟩
  · have r856 : z844.toInt < 0 := gj_nleL hc845 (show Int32.toInt 0 = 0 by decide)
    have bz844' : gB z844 (-1) (-1) := ⟨by omega, by omega⟩
    refine G_iconst (-1) d_cX0_addGoal_11 (by decide +kernel) ?_
    exact G_iret d_cX0_addGoal_12 rfl (Nat.le_of_ble_eq_true rfl) (Nat.le_of_ble_eq_true rfl) ⟨(-1), f835, f836, rfl, rfl, (gB_w (gBl (show Int32.toInt (-1) = (-1) by decide)) (by decide) (by decide)), (gF_any f835), (gF_any f836)⟩
abbrev ky_888_Code_add : gKey := (cX0_add, 7, yX0_add.cls, none, [], yX0_add.name, fun _ _ => True)
abbrev po_888_Code_add (I : FieldType → ClassId) (q860 : Nat) (q861 : Nat) (q862 : Nat) (q863 : Nat) (q864 : Nat) (q865 : Nat) (q866 : Nat) (q867 : Nat) (q868 : Nat) (q869 : Nat) (p870 : Int32) (p871 : Int32) (p872 : Int32) (p873 : Int32) (p874 : Int32) (p875 : Int32) (p876 : Int32) (p877 : Int32) (p878 : Int32) (f879 : Nat → Int32) (f880 : Nat → Int32) (f881 : Nat → Int32) (f882 : Nat → Int32) (f883 : Nat → Int32) (f884 : Nat → Int32) (f885 : Nat → Int32) (f886 : Nat → Int32) (f887 : Nat → Int32) : Option Value → va_W → Prop := fun r w => ∃ (o899 : Int32) (f900 : Nat → Int32) (f901 : Nat → Int32) (f902 : Nat → Int32) (f903 : Nat → Int32) (f904 : Nat → Int32) (f905 : Nat → Int32) (o906 : Int32), r = none ∧ w = [(q860, .inr (5, [.ref q861, .ref q862, .ref q863, .ref q864, .ref q865, .ref q866, .ref q867, .ref q868, .ref q869, .int p876, .int o899, .int o906])), (q861, .inl (I .int, 40, .inl f879)), (q862, .inl (I .int, 40, .inl f880)), (q863, .inl (I .int, 40, .inl f881)), (q864, .inl (I .int, 200, .inl f900)), (q865, .inl (I .int, 200, .inl f901)), (q866, .inl (I .int, 200, .inl f902)), (q867, .inl (I .int, 200, .inl f903)), (q868, .inl (I .int, 200, .inl f904)), (q869, .inl (I .int, 200, .inl f905))] ∧ gB o899 1 200 ∧ gF f900 0 21 ∧ gF f901 (-2147483648) 2147483647 ∧ gF f902 (-2147483648) 2147483647 ∧ gF f903 (-2147483648) 2147483647 ∧ gF f904 (-2147483648) 2147483647 ∧ gF f905 (-2147483648) 2147483647 ∧ gB o906 0 1
set_option maxRecDepth 100000 in
set_option maxHeartbeats 4000000 in
theorem ct_888_Code_add (l : Launch) (hl0 : l.stackTraces = false) (D : va_G) (I : FieldType → ClassId) (q860 : Nat) (q861 : Nat) (q862 : Nat) (q863 : Nat) (q864 : Nat) (q865 : Nat) (q866 : Nat) (q867 : Nat) (q868 : Nat) (q869 : Nat) (p870 : Int32) (p871 : Int32) (p872 : Int32) (p873 : Int32) (p874 : Int32) (p875 : Int32) (p876 : Int32) (p877 : Int32) (p878 : Int32) (f879 : Nat → Int32) (f880 : Nat → Int32) (f881 : Nat → Int32) (f882 : Nat → Int32) (f883 : Nat → Int32) (f884 : Nat → Int32) (f885 : Nat → Int32) (f886 : Nat → Int32) (f887 : Nat → Int32) (bp870 : gB p870 0 21) (bp876 : gB p876 0 40) (bp877 : gB p877 0 200) (bp878 : gB p878 0 1) (bf879 : gF f879 0 200) (bf882 : gF f882 0 21) : Ct (gV D I) l yX0_add cX0_add 7 none 0 0 0 0 [.ref q860, .int p870, .int p871, .int p872, .int p873, .int p874, .int p875] [(q860, .inr (5, [.ref q861, .ref q862, .ref q863, .ref q864, .ref q865, .ref q866, .ref q867, .ref q868, .ref q869, .int p876, .int p877, .int p878])), (q861, .inl (I .int, 40, .inl f879)), (q862, .inl (I .int, 40, .inl f880)), (q863, .inl (I .int, 40, .inl f881)), (q864, .inl (I .int, 200, .inl f882)), (q865, .inl (I .int, 200, .inl f883)), (q866, .inl (I .int, 200, .inl f884)), (q867, .inl (I .int, 200, .inl f885)), (q868, .inl (I .int, 200, .inl f886)), (q869, .inl (I .int, 200, .inl f887))] (po_888_Code_add I q860 q861 q862 q863 q864 q865 q866 q867 q868 q869 p870 p871 p872 p873 p874 p875 p876 p877 p878 f879 f880 f881 f882 f883 f884 f885 f886 f887) gN := by
  refine Ct_of hl0 (by decide) (Nat.le_of_ble_eq_true rfl) ?_
  have bp871 := gB_any p871
  have bp872 := gB_any p872
  have bp873 := gB_any p873
  have bp874 := gB_any p874
  have bp875 := gB_any p875
  refine G_aload_n 0 d_cX0_add_0 rfl ?_
  refine G_getf 0 10 d_cX0_add_1 rfl (gk_X0 D I) (Nat.le_of_ble_eq_true rfl) w_1_197 rfl ?_
  refine G_aload_n 0 d_cX0_add_4 rfl ?_
  refine G_getf 0 3 d_cX0_add_5 rfl (gk_X0 D I) (Nat.le_of_ble_eq_true rfl) w_1_159 rfl ?_
  refine G_alen 200 4 0 d_cX0_add_8 rfl rfl rfl ?_
  refine G_icmp_lt 18 d_cX0_add_9 (by decide +kernel) (fun hc889 => ?_) (fun hc889 => ?_)
  · have r890 : p877.toInt < 200 := gj_lt hc889 (show Int32.toInt 200 = 200 by decide)
    have bp877' : gB p877 0 199 := ⟨by omega, by omega⟩
    refine G_aload_n 0 d_cX0_add_18 rfl ?_
    refine G_getf 0 3 d_cX0_add_19 rfl (gk_X0 D I) (Nat.le_of_ble_eq_true rfl) w_1_159 rfl ?_
    refine G_aload_n 0 d_cX0_add_22 rfl ?_
    refine G_getf 0 10 d_cX0_add_23 rfl (gk_X0 D I) (Nat.le_of_ble_eq_true rfl) w_1_197 rfl ?_
    refine G_iload_n 1 d_cX0_add_26 rfl ?_
    refine G_iastN 4 0 d_cX0_add_27 rfl rfl (gB_in bp877' (by decide) (by decide)) (fun f891 hf891 => ?_)
    refine G_ws (ws' := [(q860, .inr (5, [.ref q861, .ref q862, .ref q863, .ref q864, .ref q865, .ref q866, .ref q867, .ref q868, .ref q869, .int p876, .int p877, .int p878])), (q861, .inl (I .int, 40, .inl f879)), (q862, .inl (I .int, 40, .inl f880)), (q863, .inl (I .int, 40, .inl f881)), (q864, .inl (I .int, 200, .inl f891)), (q865, .inl (I .int, 200, .inl f883)), (q866, .inl (I .int, 200, .inl f884)), (q867, .inl (I .int, 200, .inl f885)), (q868, .inl (I .int, 200, .inl f886)), (q869, .inl (I .int, 200, .inl f887))]) (cs' := 0) (sl' := 0) rfl rfl rfl ?_
    have bf891 : gF f891 0 21 := gF_upd hf891 bf882 bp870
    refine G_aload_n 0 d_cX0_add_28 rfl ?_
    refine G_getf 0 4 d_cX0_add_29 rfl (gk_X0 D I) (Nat.le_of_ble_eq_true rfl) w_1_163 rfl ?_
    refine G_aload_n 0 d_cX0_add_32 rfl ?_
    refine G_getf 0 10 d_cX0_add_33 rfl (gk_X0 D I) (Nat.le_of_ble_eq_true rfl) w_1_197 rfl ?_
    refine G_iload_n 2 d_cX0_add_36 rfl ?_
    refine G_iastN 5 0 d_cX0_add_37 rfl rfl (gB_in bp877' (by decide) (by decide)) (fun f892 hf892 => ?_)
    refine G_ws (ws' := [(q860, .inr (5, [.ref q861, .ref q862, .ref q863, .ref q864, .ref q865, .ref q866, .ref q867, .ref q868, .ref q869, .int p876, .int p877, .int p878])), (q861, .inl (I .int, 40, .inl f879)), (q862, .inl (I .int, 40, .inl f880)), (q863, .inl (I .int, 40, .inl f881)), (q864, .inl (I .int, 200, .inl f891)), (q865, .inl (I .int, 200, .inl f892)), (q866, .inl (I .int, 200, .inl f884)), (q867, .inl (I .int, 200, .inl f885)), (q868, .inl (I .int, 200, .inl f886)), (q869, .inl (I .int, 200, .inl f887))]) (cs' := 0) (sl' := 0) rfl rfl rfl ?_
    refine G_aload_n 0 d_cX0_add_38 rfl ?_
    refine G_getf 0 5 d_cX0_add_39 rfl (gk_X0 D I) (Nat.le_of_ble_eq_true rfl) w_1_168 rfl ?_
    refine G_aload_n 0 d_cX0_add_42 rfl ?_
    refine G_getf 0 10 d_cX0_add_43 rfl (gk_X0 D I) (Nat.le_of_ble_eq_true rfl) w_1_197 rfl ?_
    refine G_iload_n 3 d_cX0_add_46 rfl ?_
    refine G_iastN 6 0 d_cX0_add_47 rfl rfl (gB_in bp877' (by decide) (by decide)) (fun f893 hf893 => ?_)
    refine G_ws (ws' := [(q860, .inr (5, [.ref q861, .ref q862, .ref q863, .ref q864, .ref q865, .ref q866, .ref q867, .ref q868, .ref q869, .int p876, .int p877, .int p878])), (q861, .inl (I .int, 40, .inl f879)), (q862, .inl (I .int, 40, .inl f880)), (q863, .inl (I .int, 40, .inl f881)), (q864, .inl (I .int, 200, .inl f891)), (q865, .inl (I .int, 200, .inl f892)), (q866, .inl (I .int, 200, .inl f893)), (q867, .inl (I .int, 200, .inl f885)), (q868, .inl (I .int, 200, .inl f886)), (q869, .inl (I .int, 200, .inl f887))]) (cs' := 0) (sl' := 0) rfl rfl rfl ?_
    refine G_aload_n 0 d_cX0_add_48 rfl ?_
    refine G_getf 0 6 d_cX0_add_49 rfl (gk_X0 D I) (Nat.le_of_ble_eq_true rfl) w_1_174 rfl ?_
    refine G_aload_n 0 d_cX0_add_52 rfl ?_
    refine G_getf 0 10 d_cX0_add_53 rfl (gk_X0 D I) (Nat.le_of_ble_eq_true rfl) w_1_197 rfl ?_
    refine G_iload 4 d_cX0_add_56 rfl ?_
    refine G_iastN 7 0 d_cX0_add_58 rfl rfl (gB_in bp877' (by decide) (by decide)) (fun f894 hf894 => ?_)
    refine G_ws (ws' := [(q860, .inr (5, [.ref q861, .ref q862, .ref q863, .ref q864, .ref q865, .ref q866, .ref q867, .ref q868, .ref q869, .int p876, .int p877, .int p878])), (q861, .inl (I .int, 40, .inl f879)), (q862, .inl (I .int, 40, .inl f880)), (q863, .inl (I .int, 40, .inl f881)), (q864, .inl (I .int, 200, .inl f891)), (q865, .inl (I .int, 200, .inl f892)), (q866, .inl (I .int, 200, .inl f893)), (q867, .inl (I .int, 200, .inl f894)), (q868, .inl (I .int, 200, .inl f886)), (q869, .inl (I .int, 200, .inl f887))]) (cs' := 0) (sl' := 0) rfl rfl rfl ?_
    refine G_aload_n 0 d_cX0_add_59 rfl ?_
    refine G_getf 0 7 d_cX0_add_60 rfl (gk_X0 D I) (Nat.le_of_ble_eq_true rfl) w_1_178 rfl ?_
    refine G_aload_n 0 d_cX0_add_63 rfl ?_
    refine G_getf 0 10 d_cX0_add_64 rfl (gk_X0 D I) (Nat.le_of_ble_eq_true rfl) w_1_197 rfl ?_
    refine G_iload 5 d_cX0_add_67 rfl ?_
    refine G_iastN 8 0 d_cX0_add_69 rfl rfl (gB_in bp877' (by decide) (by decide)) (fun f895 hf895 => ?_)
    refine G_ws (ws' := [(q860, .inr (5, [.ref q861, .ref q862, .ref q863, .ref q864, .ref q865, .ref q866, .ref q867, .ref q868, .ref q869, .int p876, .int p877, .int p878])), (q861, .inl (I .int, 40, .inl f879)), (q862, .inl (I .int, 40, .inl f880)), (q863, .inl (I .int, 40, .inl f881)), (q864, .inl (I .int, 200, .inl f891)), (q865, .inl (I .int, 200, .inl f892)), (q866, .inl (I .int, 200, .inl f893)), (q867, .inl (I .int, 200, .inl f894)), (q868, .inl (I .int, 200, .inl f895)), (q869, .inl (I .int, 200, .inl f887))]) (cs' := 0) (sl' := 0) rfl rfl rfl ?_
    refine G_aload_n 0 d_cX0_add_70 rfl ?_
    refine G_getf 0 8 d_cX0_add_71 rfl (gk_X0 D I) (Nat.le_of_ble_eq_true rfl) w_1_183 rfl ?_
    refine G_aload_n 0 d_cX0_add_74 rfl ?_
    refine G_getf 0 10 d_cX0_add_75 rfl (gk_X0 D I) (Nat.le_of_ble_eq_true rfl) w_1_197 rfl ?_
    refine G_iload 6 d_cX0_add_78 rfl ?_
    refine G_iastN 9 0 d_cX0_add_80 rfl rfl (gB_in bp877' (by decide) (by decide)) (fun f896 hf896 => ?_)
    refine G_ws (ws' := [(q860, .inr (5, [.ref q861, .ref q862, .ref q863, .ref q864, .ref q865, .ref q866, .ref q867, .ref q868, .ref q869, .int p876, .int p877, .int p878])), (q861, .inl (I .int, 40, .inl f879)), (q862, .inl (I .int, 40, .inl f880)), (q863, .inl (I .int, 40, .inl f881)), (q864, .inl (I .int, 200, .inl f891)), (q865, .inl (I .int, 200, .inl f892)), (q866, .inl (I .int, 200, .inl f893)), (q867, .inl (I .int, 200, .inl f894)), (q868, .inl (I .int, 200, .inl f895)), (q869, .inl (I .int, 200, .inl f896))]) (cs' := 0) (sl' := 0) rfl rfl rfl ?_
    refine G_aload_n 0 d_cX0_add_81 rfl ?_
    refine G_dup d_cX0_add_82 rfl ?_
    refine G_getf 0 10 d_cX0_add_83 rfl (gk_X0 D I) (Nat.le_of_ble_eq_true rfl) w_1_197 rfl ?_
    refine G_iconst 1 d_cX0_add_86 (by decide +kernel) ?_
    refine G_iadd d_cX0_add_87 (G_nam fun z897 hz897 => ?_)
    have ez897 : z897.toInt = p877.toInt + 1 := by rw [gI_add hz897 bp877' (gBl (show Int32.toInt 1 = 1 by decide)) (by decide) (by decide), show Int32.toInt 1 = 1 from by decide]
    have bz897 : gB z897 1 200 := gB_add (gI_add hz897 bp877' (gBl (show Int32.toInt 1 = 1 by decide)) (by decide) (by decide)) bp877' (gBl (show Int32.toInt 1 = 1 by decide)) (by decide) (by decide)
    refine G_putf (ws' := [(q860, .inr (5, [.ref q861, .ref q862, .ref q863, .ref q864, .ref q865, .ref q866, .ref q867, .ref q868, .ref q869, .int p876, .int z897, .int p878])), (q861, .inl (I .int, 40, .inl f879)), (q862, .inl (I .int, 40, .inl f880)), (q863, .inl (I .int, 40, .inl f881)), (q864, .inl (I .int, 200, .inl f891)), (q865, .inl (I .int, 200, .inl f892)), (q866, .inl (I .int, 200, .inl f893)), (q867, .inl (I .int, 200, .inl f894)), (q868, .inl (I .int, 200, .inl f895)), (q869, .inl (I .int, 200, .inl f896))]) 0 10 d_cX0_add_88 rfl (gk_X0 D I) (Nat.le_of_ble_eq_true rfl) w_1_197 rfl rfl rfl (Nat.le_of_ble_eq_true rfl) rfl ?_
    exact G_vret d_cX0_add_91 rfl (Nat.le_of_ble_eq_true rfl) (Nat.le_of_ble_eq_true rfl) ⟨z897, f891, f892, f893, f894, f895, f896, p878, rfl, rfl, bz897, bf891, (gF_any f892), (gF_any f893), (gF_any f894), (gF_any f895), (gF_any f896), bp878⟩
  · have r898 : 200 ≤ p877.toInt := gj_nlt hc889 (show Int32.toInt 200 = 200 by decide)
    have bp877' : gB p877 200 200 := ⟨by omega, by omega⟩
    refine G_aload_n 0 d_cX0_add_12 rfl ?_
    refine G_iconst 1 d_cX0_add_13 (by decide +kernel) ?_
    refine G_putf (ws' := [(q860, .inr (5, [.ref q861, .ref q862, .ref q863, .ref q864, .ref q865, .ref q866, .ref q867, .ref q868, .ref q869, .int p876, .int p877, .int 1])), (q861, .inl (I .int, 40, .inl f879)), (q862, .inl (I .int, 40, .inl f880)), (q863, .inl (I .int, 40, .inl f881)), (q864, .inl (I .int, 200, .inl f882)), (q865, .inl (I .int, 200, .inl f883)), (q866, .inl (I .int, 200, .inl f884)), (q867, .inl (I .int, 200, .inl f885)), (q868, .inl (I .int, 200, .inl f886)), (q869, .inl (I .int, 200, .inl f887))]) 0 11 d_cX0_add_14 rfl (gk_X0 D I) (Nat.le_of_ble_eq_true rfl) w_1_200 rfl rfl rfl (Nat.le_of_ble_eq_true rfl) rfl ?_
    exact G_vret d_cX0_add_17 rfl (Nat.le_of_ble_eq_true rfl) (Nat.le_of_ble_eq_true rfl) ⟨p877, f882, f883, f884, f885, f886, f887, 1, rfl, rfl, (gB_w bp877' (by decide) (by decide)), bf882, (gF_any f883), (gF_any f884), (gF_any f885), (gF_any f886), (gF_any f887), (gB_w (gBl (show Int32.toInt 1 = 1 by decide)) (by decide) (by decide))⟩
abbrev ky_929_Code_openLike : gKey := (cX0_openLike, 3, yX0_openLike.cls, none, [], yX0_openLike.name, fun _ _ => True)
abbrev po_929_Code_openLike (I : FieldType → ClassId) (q907 : Nat) (q908 : Nat) (q909 : Nat) (q910 : Nat) (q911 : Nat) (q912 : Nat) (q913 : Nat) (q914 : Nat) (q915 : Nat) (q916 : Nat) (p917 : Int32) (p918 : Int32) (p919 : Int32) (f920 : Nat → Int32) (f921 : Nat → Int32) (f922 : Nat → Int32) (f923 : Nat → Int32) (f924 : Nat → Int32) (f925 : Nat → Int32) (f926 : Nat → Int32) (f927 : Nat → Int32) (f928 : Nat → Int32) : Option Value → va_W → Prop := fun r w => r = none ∧ w = [(q907, .inr (5, [.ref q908, .ref q909, .ref q910, .ref q911, .ref q912, .ref q913, .ref q914, .ref q915, .ref q916, .int p917, .int p918, .int p919])), (q908, .inl (I .int, 40, .inl f920)), (q909, .inl (I .int, 40, .inl f921)), (q910, .inl (I .int, 40, .inl f922)), (q911, .inl (I .int, 200, .inl f923)), (q912, .inl (I .int, 200, .inl f924)), (q913, .inl (I .int, 200, .inl f925)), (q914, .inl (I .int, 200, .inl f926)), (q915, .inl (I .int, 200, .inl f927)), (q916, .inl (I .int, 200, .inl f928))]
set_option maxRecDepth 100000 in
set_option maxHeartbeats 4000000 in
theorem ct_929_Code_openLike (l : Launch) (hl0 : l.stackTraces = false) (D : va_G) (I : FieldType → ClassId) (q907 : Nat) (q908 : Nat) (q909 : Nat) (q910 : Nat) (q911 : Nat) (q912 : Nat) (q913 : Nat) (q914 : Nat) (q915 : Nat) (q916 : Nat) (p917 : Int32) (p918 : Int32) (p919 : Int32) (f920 : Nat → Int32) (f921 : Nat → Int32) (f922 : Nat → Int32) (f923 : Nat → Int32) (f924 : Nat → Int32) (f925 : Nat → Int32) (f926 : Nat → Int32) (f927 : Nat → Int32) (f928 : Nat → Int32) (bp917 : gB p917 0 40) (bp918 : gB p918 0 200) (bp919 : gB p919 0 1) (bf920 : gF f920 0 200) (bf923 : gF f923 0 21) : Ct (gV D I) l yX0_openLike cX0_openLike 3 none 0 0 0 0 [.ref q907, .ref q907] [(q907, .inr (5, [.ref q908, .ref q909, .ref q910, .ref q911, .ref q912, .ref q913, .ref q914, .ref q915, .ref q916, .int p917, .int p918, .int p919])), (q908, .inl (I .int, 40, .inl f920)), (q909, .inl (I .int, 40, .inl f921)), (q910, .inl (I .int, 40, .inl f922)), (q911, .inl (I .int, 200, .inl f923)), (q912, .inl (I .int, 200, .inl f924)), (q913, .inl (I .int, 200, .inl f925)), (q914, .inl (I .int, 200, .inl f926)), (q915, .inl (I .int, 200, .inl f927)), (q916, .inl (I .int, 200, .inl f928))] (po_929_Code_openLike I q907 q908 q909 q910 q911 q912 q913 q914 q915 q916 p917 p918 p919 f920 f921 f922 f923 f924 f925 f926 f927 f928) gN := by
  refine Ct_of hl0 (by decide) (Nat.le_of_ble_eq_true rfl) ?_
  refine G_aload_n 0 d_cX0_openLike_0 rfl ?_
  refine G_getf 0 9 d_cX0_openLike_1 rfl (gk_X0 D I) (Nat.le_of_ble_eq_true rfl) w_1_187 rfl ?_
  refine G_istore_n (L' := [(2, .int p917), (0, .ref q907), (1, .ref q907)]) d_cX0_openLike_4 (Nat.le_of_ble_eq_true rfl) rfl ?_
  refine G_iload_n 0 d_cX0_openLike_5 rfl ?_
  refine G_aload_n 2 d_cX0_openLike_6 rfl ?_
  refine G_getf 0 9 d_cX0_openLike_7 rfl (gk_X0 D I) (Nat.le_of_ble_eq_true rfl) w_1_187 rfl ?_
  refine G_icmp_ge 44 d_cX0_openLike_10 (by decide +kernel) (fun _ => ?_) (fun hc => absurd (show False by have := gC_nle hc; omega) not_false)
  exact G_vret d_cX0_openLike_44 rfl (Nat.le_of_ble_eq_true rfl) (Nat.le_of_ble_eq_true rfl) ⟨rfl, rfl⟩
abbrev ky_933_Code_nameIn : gKey := (cX0_nameIn, 2, yX0_nameIn.cls, (some FieldType.int), [], yX0_nameIn.name, fun _ _ => True)
abbrev po_933_Code_nameIn (I : FieldType → ClassId) (q930 : Nat) (p931 : Int32) (f932 : Nat → Int32) : Option Value → va_W → Prop := fun r w => (r = some (.int p931) ∧ w = [(q930, .inl (I .int, 720, .inl f932))] ∧ p931.toInt < 0) ∨ (r = some (.int p931) ∧ w = [(q930, .inl (I .int, 720, .inl f932))] ∧ 0 ≤ p931.toInt ∧ 720 ≤ p931.toInt) ∨ (∃ (z940 : Int32), r = some (.int z940) ∧ w = [(q930, .inl (I .int, 720, .inl f932))] ∧ 0 ≤ p931.toInt ∧ p931.toInt < 720 ∧ z940 = f932 p931.toNatClampNeg ∧ gB z940 (-2147483648) 2147483647)
set_option maxRecDepth 100000 in
set_option maxHeartbeats 4000000 in
theorem ct_933_Code_nameIn (l : Launch) (hl0 : l.stackTraces = false) (D : va_G) (I : FieldType → ClassId) (q930 : Nat) (p931 : Int32) (f932 : Nat → Int32)  : Ct (gV D I) l yX0_nameIn cX0_nameIn 2 (some FieldType.int) 0 0 0 0 [.ref q930, .int p931] [(q930, .inl (I .int, 720, .inl f932))] (po_933_Code_nameIn I q930 p931 f932) gN := by
  refine Ct_of hl0 (by decide) (Nat.le_of_ble_eq_true rfl) ?_
  have bp931 := gB_any p931
  refine G_iload_n 1 d_cX0_nameIn_0 rfl ?_
  refine G_if_lt 16 d_cX0_nameIn_1 (by decide +kernel) (fun hc934 => ?_) (fun hc934 => ?_)
  · have r935 : p931.toInt < 0 := gj_lt hc934 (show Int32.toInt 0 = 0 by decide)
    have bp931' : gB p931 (-2147483648) (-1) := ⟨by omega, by omega⟩
    refine G_iload_n 1 d_cX0_nameIn_16 rfl ?_
    exact G_iret d_cX0_nameIn_17 rfl (Nat.le_of_ble_eq_true rfl) (Nat.le_of_ble_eq_true rfl) (Or.inl ⟨rfl, rfl, r935⟩)
  · have r936 : 0 ≤ p931.toInt := gj_nlt hc934 (show Int32.toInt 0 = 0 by decide)
    have bp931' : gB p931 0 2147483647 := ⟨by omega, by omega⟩
    refine G_iload_n 1 d_cX0_nameIn_4 rfl ?_
    refine G_aload_n 0 d_cX0_nameIn_5 rfl ?_
    refine G_alen 720 0 0 d_cX0_nameIn_6 rfl rfl rfl ?_
    refine G_icmp_ge 16 d_cX0_nameIn_7 (by decide +kernel) (fun hc937 => ?_) (fun hc937 => ?_)
    · have r938 : 720 ≤ p931.toInt := gj_leL hc937 (show Int32.toInt 720 = 720 by decide)
      have bp931'' : gB p931 720 2147483647 := ⟨by omega, by omega⟩
      refine G_iload_n 1 d_cX0_nameIn_16 rfl ?_
      exact G_iret d_cX0_nameIn_17 rfl (Nat.le_of_ble_eq_true rfl) (Nat.le_of_ble_eq_true rfl) (Or.inr (Or.inl ⟨rfl, rfl, r936, r938⟩))
    · have r939 : p931.toInt < 720 := gj_nleL hc937 (show Int32.toInt 720 = 720 by decide)
      have bp931'' : gB p931 0 719 := ⟨by omega, by omega⟩
      refine G_aload_n 0 d_cX0_nameIn_10 rfl ?_
      refine G_iload_n 1 d_cX0_nameIn_11 rfl ?_
      refine G_iald 0 0 d_cX0_nameIn_12 rfl rfl (gB_in bp931'' (by decide) (by decide)) (G_nam fun z940 hz940 => ?_)
      have bz940 : gB z940 (-2147483648) 2147483647 := gB_any z940
      refine G_goto 17 d_cX0_nameIn_13 (by decide +kernel) ?_
      exact G_iret d_cX0_nameIn_17 rfl (Nat.le_of_ble_eq_true rfl) (Nat.le_of_ble_eq_true rfl) (Or.inr (Or.inr (⟨z940, rfl, rfl, r936, r939, hz940, bz940⟩)))
abbrev ky_964_Code_linesThat : gKey := (cX0_linesThat, 4, yX0_linesThat.cls, (some FieldType.int), [], yX0_linesThat.name, fun _ _ => True)
abbrev po_964_Code_linesThat (I : FieldType → ClassId) (q941 : Nat) (q942 : Nat) (q943 : Nat) (q944 : Nat) (q945 : Nat) (q946 : Nat) (q947 : Nat) (q948 : Nat) (q949 : Nat) (q950 : Nat) (p951 : Int32) (p952 : Int32) (p953 : Int32) (p954 : Int32) (f955 : Nat → Int32) (f956 : Nat → Int32) (f957 : Nat → Int32) (f958 : Nat → Int32) (f959 : Nat → Int32) (f960 : Nat → Int32) (f961 : Nat → Int32) (f962 : Nat → Int32) (f963 : Nat → Int32) : Option Value → va_W → Prop := fun r w => ∃ (o1063 : Int32), r = some (.int o1063) ∧ w = [(q941, .inr (5, [.ref q942, .ref q943, .ref q944, .ref q945, .ref q946, .ref q947, .ref q948, .ref q949, .ref q950, .int p952, .int p953, .int p954])), (q942, .inl (I .int, 40, .inl f955)), (q943, .inl (I .int, 40, .inl f956)), (q944, .inl (I .int, 40, .inl f957)), (q945, .inl (I .int, 200, .inl f958)), (q946, .inl (I .int, 200, .inl f959)), (q947, .inl (I .int, 200, .inl f960)), (q948, .inl (I .int, 200, .inl f961)), (q949, .inl (I .int, 200, .inl f962)), (q950, .inl (I .int, 200, .inl f963))] ∧ gB o1063 (-2147483648) 2147483647
set_option maxRecDepth 100000 in
set_option maxHeartbeats 4000000 in
theorem ct_964_Code_linesThat (l : Launch) (hl0 : l.stackTraces = false) (D : va_G) (I : FieldType → ClassId) (q941 : Nat) (q942 : Nat) (q943 : Nat) (q944 : Nat) (q945 : Nat) (q946 : Nat) (q947 : Nat) (q948 : Nat) (q949 : Nat) (q950 : Nat) (p951 : Int32) (p952 : Int32) (p953 : Int32) (p954 : Int32) (f955 : Nat → Int32) (f956 : Nat → Int32) (f957 : Nat → Int32) (f958 : Nat → Int32) (f959 : Nat → Int32) (f960 : Nat → Int32) (f961 : Nat → Int32) (f962 : Nat → Int32) (f963 : Nat → Int32) (bp952 : gB p952 0 40) (bp953 : gB p953 0 200) (bp954 : gB p954 0 1) (bf955 : gF f955 0 200) (bf958 : gF f958 0 21) : Ct (gV D I) l yX0_linesThat cX0_linesThat 4 (some FieldType.int) 0 0 0 0 [.ref q941, .int p951] [(q941, .inr (5, [.ref q942, .ref q943, .ref q944, .ref q945, .ref q946, .ref q947, .ref q948, .ref q949, .ref q950, .int p952, .int p953, .int p954])), (q942, .inl (I .int, 40, .inl f955)), (q943, .inl (I .int, 40, .inl f956)), (q944, .inl (I .int, 40, .inl f957)), (q945, .inl (I .int, 200, .inl f958)), (q946, .inl (I .int, 200, .inl f959)), (q947, .inl (I .int, 200, .inl f960)), (q948, .inl (I .int, 200, .inl f961)), (q949, .inl (I .int, 200, .inl f962)), (q950, .inl (I .int, 200, .inl f963))] (po_964_Code_linesThat I q941 q942 q943 q944 q945 q946 q947 q948 q949 q950 p951 p952 p953 p954 f955 f956 f957 f958 f959 f960 f961 f962 f963) gN := by
  refine Ct_of hl0 (by decide) (Nat.le_of_ble_eq_true rfl) ?_
  have bp951 := gB_any p951
  refine G_iconst 0 d_cX0_linesThat_0 (by decide +kernel) ?_
  refine G_istore_n (L' := [(2, .int 0), (0, .ref q941), (1, .int p951)]) d_cX0_linesThat_1 (Nat.le_of_ble_eq_true rfl) rfl ?_
  refine G_iconst 0 d_cX0_linesThat_2 (by decide +kernel) ?_
  refine G_istore_n (L' := [(3, .int 0), (2, .int 0), (0, .ref q941), (1, .int p951)]) d_cX0_linesThat_3 (Nat.le_of_ble_eq_true rfl) rfl ?_
  have hlp4_1051 : ∀ (n4_1051 : Nat) (g1050 : Int32) (g1051 : Int32), gB g1050 0 200 → gB g1051 (-2147483648) 2147483647 → ((201 : Int) - g1050.toInt).toNat < n4_1051 → G (gV D I) l (gRm 0 0 0 0) (gM (gV D I) (po_964_Code_linesThat I q941 q942 q943 q944 q945 q946 q947 q948 q949 q950 p951 p952 p953 p954 f955 f956 f957 f958 f959 f960 f961 f962 f963) gN 0 0) ky_964_Code_linesThat 4 [(3, .int g1050), (2, .int g1051), (0, .ref q941), (1, .int p951)] [] [(q941, .inr (5, [.ref q942, .ref q943, .ref q944, .ref q945, .ref q946, .ref q947, .ref q948, .ref q949, .ref q950, .int p952, .int p953, .int p954])), (q942, .inl (I .int, 40, .inl f955)), (q943, .inl (I .int, 40, .inl f956)), (q944, .inl (I .int, 40, .inl f957)), (q945, .inl (I .int, 200, .inl f958)), (q946, .inl (I .int, 200, .inl f959)), (q947, .inl (I .int, 200, .inl f960)), (q948, .inl (I .int, 200, .inl f961)), (q949, .inl (I .int, 200, .inl f962)), (q950, .inl (I .int, 200, .inl f963))] 0 0 := by
    intro n4_1051
    induction n4_1051 with
    | zero => intro g1050 g1051 bg1050 bg1051 hm4_1051; exact absurd hm4_1051 (Nat.not_lt_zero _)
    | succ n4_1051 ih4_1051 =>
      intro g1050 g1051 bg1050 bg1051 hm4_1051
      refine G_iload_n 0 d_cX0_linesThat_4 rfl ?_
      refine G_aload_n 2 d_cX0_linesThat_5 rfl ?_
      refine G_getf 0 10 d_cX0_linesThat_6 rfl (gk_X0 D I) (Nat.le_of_ble_eq_true rfl) w_1_197 rfl ?_
      refine G_icmp_ge 36 d_cX0_linesThat_9 (by decide +kernel) (fun hc1052 => ?_) (fun hc1052 => ?_)
      · have r1053 : p953.toInt ≤ g1050.toInt := gC_le hc1052
        refine G_iload_n 1 d_cX0_linesThat_36 rfl ?_
        exact G_iret d_cX0_linesThat_37 rfl (Nat.le_of_ble_eq_true rfl) (Nat.le_of_ble_eq_true rfl) ⟨g1051, rfl, rfl, bg1051⟩
      · have r1054 : g1050.toInt < p953.toInt := gC_nle hc1052
        have bg1050' : gB g1050 0 199 := ⟨by omega, by omega⟩
        have bp953' : gB p953 1 200 := ⟨by omega, by omega⟩
        refine G_iload_n 1 d_cX0_linesThat_12 rfl ?_
        refine G_aload_n 2 d_cX0_linesThat_13 rfl ?_
        refine G_getf 0 3 d_cX0_linesThat_14 rfl (gk_X0 D I) (Nat.le_of_ble_eq_true rfl) w_1_159 rfl ?_
        refine G_iload_n 0 d_cX0_linesThat_17 rfl ?_
        refine G_iald 4 0 d_cX0_linesThat_18 rfl rfl (gB_in bg1050' (by decide) (by decide)) (G_nam fun z1055 hz1055 => ?_)
        have bz1055 : gB z1055 0 21 := by rw [hz1055]; exact bf958 _
        refine G_iload_n 3 d_cX0_linesThat_19 rfl ?_
        refine G_icmp_ne 27 d_cX0_linesThat_20 (by decide +kernel) (fun hc1056 => ?_) (fun hc1056 => ?_)
        · have r1057 : z1055.toInt ≠ p951.toInt := gC_ne hc1056
          refine G_iconst 0 d_cX0_linesThat_27 (by decide +kernel) ?_
          refine G_iadd d_cX0_linesThat_28 (G_nam fun z1058 hz1058 => ?_)
          have ez1058 : z1058.toInt = g1051.toInt + 0 := by rw [gI_add hz1058 bg1051 (gBl (show Int32.toInt 0 = 0 by decide)) (by decide) (by decide), show Int32.toInt 0 = 0 from by decide]
          have bz1058 : gB z1058 (-2147483648) 2147483647 := gB_add (gI_add hz1058 bg1051 (gBl (show Int32.toInt 0 = 0 by decide)) (by decide) (by decide)) bg1051 (gBl (show Int32.toInt 0 = 0 by decide)) (by decide) (by decide)
          refine G_istore_n (L' := [(2, .int z1058), (3, .int g1050), (0, .ref q941), (1, .int p951)]) d_cX0_linesThat_29 (Nat.le_of_ble_eq_true rfl) rfl ?_
          obtain ⟨z1059, hz1059⟩ : ∃ z : Int32, z = g1050 + Int32.ofInt 1 := ⟨_, rfl⟩
          have ez1059 : z1059.toInt = g1050.toInt + 1 := gI_inc hz1059 (by decide) bg1050' (by decide) (by decide)
          have bz1059 : gB z1059 1 200 := ⟨by omega, by omega⟩
          refine G_iinc (L' := [(3, .int z1059), (2, .int z1058), (0, .ref q941), (1, .int p951)]) z1059 1 d_cX0_linesThat_30 rfl hz1059.symm (Nat.le_of_ble_eq_true rfl) rfl ?_
          refine G_goto 4 d_cX0_linesThat_33 (by decide +kernel) ?_
          exact ih4_1051 z1059 z1058 (gB_w bz1059 (by decide) (by decide)) bz1058 (by omega)
        · have r1060 : z1055.toInt = p951.toInt := gC_eq hc1056
          have bp951' : gB p951 0 21 := ⟨by omega, by omega⟩
          refine G_iconst 1 d_cX0_linesThat_23 (by decide +kernel) ?_
          refine G_goto 28 d_cX0_linesThat_24 (by decide +kernel) ?_
          refine G_iadd d_cX0_linesThat_28 (G_nam fun z1061 hz1061 => ?_)
          have bz1061 : gB z1061 (-2147483648) 2147483647 := gB_any z1061
          refine G_istore_n (L' := [(2, .int z1061), (3, .int g1050), (0, .ref q941), (1, .int p951)]) d_cX0_linesThat_29 (Nat.le_of_ble_eq_true rfl) rfl ?_
          obtain ⟨z1062, hz1062⟩ : ∃ z : Int32, z = g1050 + Int32.ofInt 1 := ⟨_, rfl⟩
          have ez1062 : z1062.toInt = g1050.toInt + 1 := gI_inc hz1062 (by decide) bg1050' (by decide) (by decide)
          have bz1062 : gB z1062 1 200 := ⟨by omega, by omega⟩
          refine G_iinc (L' := [(3, .int z1062), (2, .int z1061), (0, .ref q941), (1, .int p951)]) z1062 1 d_cX0_linesThat_30 rfl hz1062.symm (Nat.le_of_ble_eq_true rfl) rfl ?_
          refine G_goto 4 d_cX0_linesThat_33 (by decide +kernel) ?_
          exact ih4_1051 z1062 z1061 (gB_w bz1062 (by decide) (by decide)) bz1061 (by omega)
  exact hlp4_1051 (((201 : Int) - 0).toNat + 1) 0 0 (gB_w (gBl (show Int32.toInt 0 = 0 by decide)) (by decide) (by decide)) (gB_w (gBl (show Int32.toInt 0 = 0 by decide)) (by decide) (by decide)) (Nat.lt_succ_self _)
abbrev ky_1087_Code_copiesRegister : gKey := (cX0_copiesRegister, 2, yX0_copiesRegister.cls, (some FieldType.boolean), [], yX0_copiesRegister.name, fun _ _ => True)
abbrev po_1087_Code_copiesRegister (I : FieldType → ClassId) (q1064 : Nat) (q1065 : Nat) (q1066 : Nat) (q1067 : Nat) (q1068 : Nat) (q1069 : Nat) (q1070 : Nat) (q1071 : Nat) (q1072 : Nat) (q1073 : Nat) (p1074 : Int32) (p1075 : Int32) (p1076 : Int32) (p1077 : Int32) (f1078 : Nat → Int32) (f1079 : Nat → Int32) (f1080 : Nat → Int32) (f1081 : Nat → Int32) (f1082 : Nat → Int32) (f1083 : Nat → Int32) (f1084 : Nat → Int32) (f1085 : Nat → Int32) (f1086 : Nat → Int32) : Option Value → va_W → Prop := fun r w => (∃ (z1088 : Int32), r = some (.int 0) ∧ w = [(q1064, .inr (5, [.ref q1065, .ref q1066, .ref q1067, .ref q1068, .ref q1069, .ref q1070, .ref q1071, .ref q1072, .ref q1073, .int p1075, .int p1076, .int p1077])), (q1065, .inl (I .int, 40, .inl f1078)), (q1066, .inl (I .int, 40, .inl f1079)), (q1067, .inl (I .int, 40, .inl f1080)), (q1068, .inl (I .int, 200, .inl f1081)), (q1069, .inl (I .int, 200, .inl f1082)), (q1070, .inl (I .int, 200, .inl f1083)), (q1071, .inl (I .int, 200, .inl f1084)), (q1072, .inl (I .int, 200, .inl f1085)), (q1073, .inl (I .int, 200, .inl f1086))] ∧ z1088.toInt ≠ 14 ∧ z1088 = f1081 p1074.toNatClampNeg ∧ gB z1088 0 21) ∨ (∃ (z1088 : Int32) (z1092 : Int32), r = some (.int 0) ∧ w = [(q1064, .inr (5, [.ref q1065, .ref q1066, .ref q1067, .ref q1068, .ref q1069, .ref q1070, .ref q1071, .ref q1072, .ref q1073, .int p1075, .int p1076, .int p1077])), (q1065, .inl (I .int, 40, .inl f1078)), (q1066, .inl (I .int, 40, .inl f1079)), (q1067, .inl (I .int, 40, .inl f1080)), (q1068, .inl (I .int, 200, .inl f1081)), (q1069, .inl (I .int, 200, .inl f1082)), (q1070, .inl (I .int, 200, .inl f1083)), (q1071, .inl (I .int, 200, .inl f1084)), (q1072, .inl (I .int, 200, .inl f1085)), (q1073, .inl (I .int, 200, .inl f1086))] ∧ z1088.toInt = 14 ∧ z1092.toInt < 0 ∧ z1088 = f1081 p1074.toNatClampNeg ∧ z1092 = f1082 p1074.toNatClampNeg ∧ gB z1088 14 14 ∧ gB z1092 (-2147483648) (-1)) ∨ (∃ (z1088 : Int32) (z1092 : Int32) (z1096 : Int32), r = some (.int 0) ∧ w = [(q1064, .inr (5, [.ref q1065, .ref q1066, .ref q1067, .ref q1068, .ref q1069, .ref q1070, .ref q1071, .ref q1072, .ref q1073, .int p1075, .int p1076, .int p1077])), (q1065, .inl (I .int, 40, .inl f1078)), (q1066, .inl (I .int, 40, .inl f1079)), (q1067, .inl (I .int, 40, .inl f1080)), (q1068, .inl (I .int, 200, .inl f1081)), (q1069, .inl (I .int, 200, .inl f1082)), (q1070, .inl (I .int, 200, .inl f1083)), (q1071, .inl (I .int, 200, .inl f1084)), (q1072, .inl (I .int, 200, .inl f1085)), (q1073, .inl (I .int, 200, .inl f1086))] ∧ z1088.toInt = 14 ∧ 0 ≤ z1092.toInt ∧ z1096.toInt < 0 ∧ z1088 = f1081 p1074.toNatClampNeg ∧ z1092 = f1082 p1074.toNatClampNeg ∧ z1096 = f1083 p1074.toNatClampNeg ∧ gB z1088 14 14 ∧ gB z1092 0 2147483647 ∧ gB z1096 (-2147483648) (-1)) ∨ (∃ (z1088 : Int32) (z1092 : Int32) (z1096 : Int32), r = some (.int 1) ∧ w = [(q1064, .inr (5, [.ref q1065, .ref q1066, .ref q1067, .ref q1068, .ref q1069, .ref q1070, .ref q1071, .ref q1072, .ref q1073, .int p1075, .int p1076, .int p1077])), (q1065, .inl (I .int, 40, .inl f1078)), (q1066, .inl (I .int, 40, .inl f1079)), (q1067, .inl (I .int, 40, .inl f1080)), (q1068, .inl (I .int, 200, .inl f1081)), (q1069, .inl (I .int, 200, .inl f1082)), (q1070, .inl (I .int, 200, .inl f1083)), (q1071, .inl (I .int, 200, .inl f1084)), (q1072, .inl (I .int, 200, .inl f1085)), (q1073, .inl (I .int, 200, .inl f1086))] ∧ z1088.toInt = 14 ∧ 0 ≤ z1092.toInt ∧ 0 ≤ z1096.toInt ∧ z1088 = f1081 p1074.toNatClampNeg ∧ z1092 = f1082 p1074.toNatClampNeg ∧ z1096 = f1083 p1074.toNatClampNeg ∧ gB z1088 14 14 ∧ gB z1092 0 2147483647 ∧ gB z1096 0 2147483647)
set_option maxRecDepth 100000 in
set_option maxHeartbeats 4000000 in
theorem ct_1087_Code_copiesRegister (l : Launch) (hl0 : l.stackTraces = false) (D : va_G) (I : FieldType → ClassId) (q1064 : Nat) (q1065 : Nat) (q1066 : Nat) (q1067 : Nat) (q1068 : Nat) (q1069 : Nat) (q1070 : Nat) (q1071 : Nat) (q1072 : Nat) (q1073 : Nat) (p1074 : Int32) (p1075 : Int32) (p1076 : Int32) (p1077 : Int32) (f1078 : Nat → Int32) (f1079 : Nat → Int32) (f1080 : Nat → Int32) (f1081 : Nat → Int32) (f1082 : Nat → Int32) (f1083 : Nat → Int32) (f1084 : Nat → Int32) (f1085 : Nat → Int32) (f1086 : Nat → Int32) (bp1074 : gB p1074 0 199) (bp1075 : gB p1075 0 40) (bp1076 : gB p1076 0 200) (bp1077 : gB p1077 0 1) (bf1078 : gF f1078 0 200) (bf1081 : gF f1081 0 21) : Ct (gV D I) l yX0_copiesRegister cX0_copiesRegister 2 (some FieldType.boolean) 0 0 0 0 [.ref q1064, .int p1074] [(q1064, .inr (5, [.ref q1065, .ref q1066, .ref q1067, .ref q1068, .ref q1069, .ref q1070, .ref q1071, .ref q1072, .ref q1073, .int p1075, .int p1076, .int p1077])), (q1065, .inl (I .int, 40, .inl f1078)), (q1066, .inl (I .int, 40, .inl f1079)), (q1067, .inl (I .int, 40, .inl f1080)), (q1068, .inl (I .int, 200, .inl f1081)), (q1069, .inl (I .int, 200, .inl f1082)), (q1070, .inl (I .int, 200, .inl f1083)), (q1071, .inl (I .int, 200, .inl f1084)), (q1072, .inl (I .int, 200, .inl f1085)), (q1073, .inl (I .int, 200, .inl f1086))] (po_1087_Code_copiesRegister I q1064 q1065 q1066 q1067 q1068 q1069 q1070 q1071 q1072 q1073 p1074 p1075 p1076 p1077 f1078 f1079 f1080 f1081 f1082 f1083 f1084 f1085 f1086) gN := by
  refine Ct_of hl0 (by decide) (Nat.le_of_ble_eq_true rfl) ?_
  refine G_aload_n 0 d_cX0_copiesRegister_0 rfl ?_
  refine G_getf 0 3 d_cX0_copiesRegister_1 rfl (gk_X0 D I) (Nat.le_of_ble_eq_true rfl) w_1_159 rfl ?_
  refine G_iload_n 1 d_cX0_copiesRegister_4 rfl ?_
  refine G_iald 4 0 d_cX0_copiesRegister_5 rfl rfl (gB_in bp1074 (by decide) (by decide)) (G_nam fun z1088 hz1088 => ?_)
  have bz1088 : gB z1088 0 21 := by rw [hz1088]; exact bf1081 _
  refine G_bipush 14 d_cX0_copiesRegister_6 (by decide +kernel) ?_
  refine G_icmp_ne 33 d_cX0_copiesRegister_8 (by decide +kernel) (fun hc1089 => ?_) (fun hc1089 => ?_)
  · have r1090 : z1088.toInt ≠ 14 := gj_neq hc1089 (show Int32.toInt 14 = 14 by decide)
    refine G_iconst 0 d_cX0_copiesRegister_33 (by decide +kernel) ?_
    exact G_zret FieldType.boolean d_cX0_copiesRegister_34 rfl rfl (Nat.le_of_ble_eq_true rfl) (Nat.le_of_ble_eq_true rfl) (Or.inl ⟨z1088, rfl, rfl, r1090, hz1088, bz1088⟩)
  · have r1091 : z1088.toInt = 14 := gj_eq hc1089 (show Int32.toInt 14 = 14 by decide)
    have bz1088' : gB z1088 14 14 := ⟨by omega, by omega⟩
    refine G_aload_n 0 d_cX0_copiesRegister_11 rfl ?_
    refine G_getf 0 4 d_cX0_copiesRegister_12 rfl (gk_X0 D I) (Nat.le_of_ble_eq_true rfl) w_1_163 rfl ?_
    refine G_iload_n 1 d_cX0_copiesRegister_15 rfl ?_
    refine G_iald 5 0 d_cX0_copiesRegister_16 rfl rfl (gB_in bp1074 (by decide) (by decide)) (G_nam fun z1092 hz1092 => ?_)
    have bz1092 : gB z1092 (-2147483648) 2147483647 := gB_any z1092
    refine G_if_lt 33 d_cX0_copiesRegister_17 (by decide +kernel) (fun hc1093 => ?_) (fun hc1093 => ?_)
    · have r1094 : z1092.toInt < 0 := gj_lt hc1093 (show Int32.toInt 0 = 0 by decide)
      have bz1092' : gB z1092 (-2147483648) (-1) := ⟨by omega, by omega⟩
      refine G_iconst 0 d_cX0_copiesRegister_33 (by decide +kernel) ?_
      exact G_zret FieldType.boolean d_cX0_copiesRegister_34 rfl rfl (Nat.le_of_ble_eq_true rfl) (Nat.le_of_ble_eq_true rfl) (Or.inr (Or.inl ⟨z1088, z1092, rfl, rfl, r1091, r1094, hz1088, hz1092, bz1088', bz1092'⟩))
    · have r1095 : 0 ≤ z1092.toInt := gj_nlt hc1093 (show Int32.toInt 0 = 0 by decide)
      have bz1092' : gB z1092 0 2147483647 := ⟨by omega, by omega⟩
      refine G_aload_n 0 d_cX0_copiesRegister_20 rfl ?_
      refine G_getf 0 5 d_cX0_copiesRegister_21 rfl (gk_X0 D I) (Nat.le_of_ble_eq_true rfl) w_1_168 rfl ?_
      refine G_iload_n 1 d_cX0_copiesRegister_24 rfl ?_
      refine G_iald 6 0 d_cX0_copiesRegister_25 rfl rfl (gB_in bp1074 (by decide) (by decide)) (G_nam fun z1096 hz1096 => ?_)
      have bz1096 : gB z1096 (-2147483648) 2147483647 := gB_any z1096
      refine G_if_lt 33 d_cX0_copiesRegister_26 (by decide +kernel) (fun hc1097 => ?_) (fun hc1097 => ?_)
      · have r1098 : z1096.toInt < 0 := gj_lt hc1097 (show Int32.toInt 0 = 0 by decide)
        have bz1096' : gB z1096 (-2147483648) (-1) := ⟨by omega, by omega⟩
        refine G_iconst 0 d_cX0_copiesRegister_33 (by decide +kernel) ?_
        exact G_zret FieldType.boolean d_cX0_copiesRegister_34 rfl rfl (Nat.le_of_ble_eq_true rfl) (Nat.le_of_ble_eq_true rfl) (Or.inr (Or.inr (Or.inl ⟨z1088, z1092, z1096, rfl, rfl, r1091, r1095, r1098, hz1088, hz1092, hz1096, bz1088', bz1092', bz1096'⟩)))
      · have r1099 : 0 ≤ z1096.toInt := gj_nlt hc1097 (show Int32.toInt 0 = 0 by decide)
        have bz1096' : gB z1096 0 2147483647 := ⟨by omega, by omega⟩
        refine G_iconst 1 d_cX0_copiesRegister_29 (by decide +kernel) ?_
        refine G_goto 34 d_cX0_copiesRegister_30 (by decide +kernel) ?_
        exact G_zret FieldType.boolean d_cX0_copiesRegister_34 rfl rfl (Nat.le_of_ble_eq_true rfl) (Nat.le_of_ble_eq_true rfl) (Or.inr (Or.inr (Or.inr (⟨z1088, z1092, z1096, rfl, rfl, r1091, r1095, r1099, hz1088, hz1092, hz1096, bz1088', bz1092', bz1096'⟩))))
abbrev ky_1124_Code_setBy : gKey := (cX0_setBy, 3, yX0_setBy.cls, (some FieldType.int), [], yX0_setBy.name, fun _ _ => True)
abbrev po_1124_Code_setBy (I : FieldType → ClassId) (q1100 : Nat) (q1101 : Nat) (q1102 : Nat) (q1103 : Nat) (q1104 : Nat) (q1105 : Nat) (q1106 : Nat) (q1107 : Nat) (q1108 : Nat) (q1109 : Nat) (p1110 : Int32) (p1111 : Int32) (p1112 : Int32) (p1113 : Int32) (p1114 : Int32) (f1115 : Nat → Int32) (f1116 : Nat → Int32) (f1117 : Nat → Int32) (f1118 : Nat → Int32) (f1119 : Nat → Int32) (f1120 : Nat → Int32) (f1121 : Nat → Int32) (f1122 : Nat → Int32) (f1123 : Nat → Int32) : Option Value → va_W → Prop := fun r w => (∃ (z1127 : Int32), r = some (.int z1127) ∧ w = [(q1100, .inr (5, [.ref q1101, .ref q1102, .ref q1103, .ref q1104, .ref q1105, .ref q1106, .ref q1107, .ref q1108, .ref q1109, .int p1112, .int p1113, .int p1114])), (q1101, .inl (I .int, 40, .inl f1115)), (q1102, .inl (I .int, 40, .inl f1116)), (q1103, .inl (I .int, 40, .inl f1117)), (q1104, .inl (I .int, 200, .inl f1118)), (q1105, .inl (I .int, 200, .inl f1119)), (q1106, .inl (I .int, 200, .inl f1120)), (q1107, .inl (I .int, 200, .inl f1121)), (q1108, .inl (I .int, 200, .inl f1122)), (q1109, .inl (I .int, 200, .inl f1123))] ∧ p1111.toInt = 0 ∧ z1127 = f1119 p1110.toNatClampNeg ∧ gB z1127 (-2147483648) 2147483647) ∨ (∃ (z1129 : Int32), r = some (.int (-1)) ∧ w = [(q1100, .inr (5, [.ref q1101, .ref q1102, .ref q1103, .ref q1104, .ref q1105, .ref q1106, .ref q1107, .ref q1108, .ref q1109, .int p1112, .int p1113, .int p1114])), (q1101, .inl (I .int, 40, .inl f1115)), (q1102, .inl (I .int, 40, .inl f1116)), (q1103, .inl (I .int, 40, .inl f1117)), (q1104, .inl (I .int, 200, .inl f1118)), (q1105, .inl (I .int, 200, .inl f1119)), (q1106, .inl (I .int, 200, .inl f1120)), (q1107, .inl (I .int, 200, .inl f1121)), (q1108, .inl (I .int, 200, .inl f1122)), (q1109, .inl (I .int, 200, .inl f1123))] ∧ p1111.toInt ≠ 0 ∧ z1129.toInt ≠ 18 ∧ z1129 = f1118 p1110.toNatClampNeg ∧ gB z1129 0 21) ∨ (∃ (z1133 : Int32) (z1129 : Int32), r = some (.int z1133) ∧ w = [(q1100, .inr (5, [.ref q1101, .ref q1102, .ref q1103, .ref q1104, .ref q1105, .ref q1106, .ref q1107, .ref q1108, .ref q1109, .int p1112, .int p1113, .int p1114])), (q1101, .inl (I .int, 40, .inl f1115)), (q1102, .inl (I .int, 40, .inl f1116)), (q1103, .inl (I .int, 40, .inl f1117)), (q1104, .inl (I .int, 200, .inl f1118)), (q1105, .inl (I .int, 200, .inl f1119)), (q1106, .inl (I .int, 200, .inl f1120)), (q1107, .inl (I .int, 200, .inl f1121)), (q1108, .inl (I .int, 200, .inl f1122)), (q1109, .inl (I .int, 200, .inl f1123))] ∧ p1111.toInt ≠ 0 ∧ z1129.toInt = 18 ∧ z1129 = f1118 p1110.toNatClampNeg ∧ z1133 = f1123 p1110.toNatClampNeg ∧ gB z1133 (-2147483648) 2147483647 ∧ gB z1129 18 18)
set_option maxRecDepth 100000 in
set_option maxHeartbeats 4000000 in
theorem ct_1124_Code_setBy (l : Launch) (hl0 : l.stackTraces = false) (D : va_G) (I : FieldType → ClassId) (q1100 : Nat) (q1101 : Nat) (q1102 : Nat) (q1103 : Nat) (q1104 : Nat) (q1105 : Nat) (q1106 : Nat) (q1107 : Nat) (q1108 : Nat) (q1109 : Nat) (p1110 : Int32) (p1111 : Int32) (p1112 : Int32) (p1113 : Int32) (p1114 : Int32) (f1115 : Nat → Int32) (f1116 : Nat → Int32) (f1117 : Nat → Int32) (f1118 : Nat → Int32) (f1119 : Nat → Int32) (f1120 : Nat → Int32) (f1121 : Nat → Int32) (f1122 : Nat → Int32) (f1123 : Nat → Int32) (bp1110 : gB p1110 0 199) (bp1111 : gB p1111 0 1) (bp1112 : gB p1112 0 40) (bp1113 : gB p1113 0 200) (bp1114 : gB p1114 0 1) (bf1115 : gF f1115 0 200) (bf1118 : gF f1118 0 21) : Ct (gV D I) l yX0_setBy cX0_setBy 3 (some FieldType.int) 0 0 0 0 [.ref q1100, .int p1110, .int p1111] [(q1100, .inr (5, [.ref q1101, .ref q1102, .ref q1103, .ref q1104, .ref q1105, .ref q1106, .ref q1107, .ref q1108, .ref q1109, .int p1112, .int p1113, .int p1114])), (q1101, .inl (I .int, 40, .inl f1115)), (q1102, .inl (I .int, 40, .inl f1116)), (q1103, .inl (I .int, 40, .inl f1117)), (q1104, .inl (I .int, 200, .inl f1118)), (q1105, .inl (I .int, 200, .inl f1119)), (q1106, .inl (I .int, 200, .inl f1120)), (q1107, .inl (I .int, 200, .inl f1121)), (q1108, .inl (I .int, 200, .inl f1122)), (q1109, .inl (I .int, 200, .inl f1123))] (po_1124_Code_setBy I q1100 q1101 q1102 q1103 q1104 q1105 q1106 q1107 q1108 q1109 p1110 p1111 p1112 p1113 p1114 f1115 f1116 f1117 f1118 f1119 f1120 f1121 f1122 f1123) gN := by
  refine Ct_of hl0 (by decide) (Nat.le_of_ble_eq_true rfl) ?_
  refine G_iload_n 2 d_cX0_setBy_0 rfl ?_
  refine G_if_eq 26 d_cX0_setBy_1 (by decide +kernel) (fun hc1125 => ?_) (fun hc1125 => ?_)
  · have r1126 : p1111.toInt = 0 := gj_eq hc1125 (show Int32.toInt 0 = 0 by decide)
    have bp1111' : gB p1111 0 0 := ⟨by omega, by omega⟩
    refine G_aload_n 0 d_cX0_setBy_26 rfl ?_
    refine G_getf 0 4 d_cX0_setBy_27 rfl (gk_X0 D I) (Nat.le_of_ble_eq_true rfl) w_1_163 rfl ?_
    refine G_iload_n 1 d_cX0_setBy_30 rfl ?_
    refine G_iald 5 0 d_cX0_setBy_31 rfl rfl (gB_in bp1110 (by decide) (by decide)) (G_nam fun z1127 hz1127 => ?_)
    have bz1127 : gB z1127 (-2147483648) 2147483647 := gB_any z1127
    exact G_iret d_cX0_setBy_32 rfl (Nat.le_of_ble_eq_true rfl) (Nat.le_of_ble_eq_true rfl) (Or.inl ⟨z1127, rfl, rfl, r1126, hz1127, bz1127⟩)
  · have r1128 : p1111.toInt ≠ 0 := gj_neq hc1125 (show Int32.toInt 0 = 0 by decide)
    have bp1111' : gB p1111 1 1 := ⟨by omega, by omega⟩
    refine G_aload_n 0 d_cX0_setBy_4 rfl ?_
    refine G_getf 0 3 d_cX0_setBy_5 rfl (gk_X0 D I) (Nat.le_of_ble_eq_true rfl) w_1_159 rfl ?_
    refine G_iload_n 1 d_cX0_setBy_8 rfl ?_
    refine G_iald 4 0 d_cX0_setBy_9 rfl rfl (gB_in bp1110 (by decide) (by decide)) (G_nam fun z1129 hz1129 => ?_)
    have bz1129 : gB z1129 0 21 := by rw [hz1129]; exact bf1118 _
    refine G_bipush 18 d_cX0_setBy_10 (by decide +kernel) ?_
    refine G_icmp_ne 24 d_cX0_setBy_12 (by decide +kernel) (fun hc1130 => ?_) (fun hc1130 => ?_)
    · have r1131 : z1129.toInt ≠ 18 := gj_neq hc1130 (show Int32.toInt 18 = 18 by decide)
      refine G_iconst (-1) d_cX0_setBy_24 (by decide +kernel) ?_
      exact G_iret d_cX0_setBy_25 rfl (Nat.le_of_ble_eq_true rfl) (Nat.le_of_ble_eq_true rfl) (Or.inr (Or.inl ⟨z1129, rfl, rfl, r1128, r1131, hz1129, bz1129⟩))
    · have r1132 : z1129.toInt = 18 := gj_eq hc1130 (show Int32.toInt 18 = 18 by decide)
      have bz1129' : gB z1129 18 18 := ⟨by omega, by omega⟩
      refine G_aload_n 0 d_cX0_setBy_15 rfl ?_
      refine G_getf 0 8 d_cX0_setBy_16 rfl (gk_X0 D I) (Nat.le_of_ble_eq_true rfl) w_1_183 rfl ?_
      refine G_iload_n 1 d_cX0_setBy_19 rfl ?_
      refine G_iald 9 0 d_cX0_setBy_20 rfl rfl (gB_in bp1110 (by decide) (by decide)) (G_nam fun z1133 hz1133 => ?_)
      have bz1133 : gB z1133 (-2147483648) 2147483647 := gB_any z1133
      refine G_goto 25 d_cX0_setBy_21 (by decide +kernel) ?_
      exact G_iret d_cX0_setBy_25 rfl (Nat.le_of_ble_eq_true rfl) (Nat.le_of_ble_eq_true rfl) (Or.inr (Or.inr (⟨z1133, z1129, rfl, rfl, r1128, r1132, hz1129, hz1133, bz1133, bz1129'⟩)))
abbrev ky_1158_Code_firstUse : gKey := (cX0_firstUse, 3, yX0_firstUse.cls, (some FieldType.int), [], yX0_firstUse.name, fun _ _ => True)
abbrev po_1158_Code_firstUse (I : FieldType → ClassId) (q1134 : Nat) (q1135 : Nat) (q1136 : Nat) (q1137 : Nat) (q1138 : Nat) (q1139 : Nat) (q1140 : Nat) (q1141 : Nat) (q1142 : Nat) (q1143 : Nat) (p1144 : Int32) (p1145 : Int32) (p1146 : Int32) (p1147 : Int32) (p1148 : Int32) (f1149 : Nat → Int32) (f1150 : Nat → Int32) (f1151 : Nat → Int32) (f1152 : Nat → Int32) (f1153 : Nat → Int32) (f1154 : Nat → Int32) (f1155 : Nat → Int32) (f1156 : Nat → Int32) (f1157 : Nat → Int32) : Option Value → va_W → Prop := fun r w => (∃ (z1161 : Int32), r = some (.int z1161) ∧ w = [(q1134, .inr (5, [.ref q1135, .ref q1136, .ref q1137, .ref q1138, .ref q1139, .ref q1140, .ref q1141, .ref q1142, .ref q1143, .int p1146, .int p1147, .int p1148])), (q1135, .inl (I .int, 40, .inl f1149)), (q1136, .inl (I .int, 40, .inl f1150)), (q1137, .inl (I .int, 40, .inl f1151)), (q1138, .inl (I .int, 200, .inl f1152)), (q1139, .inl (I .int, 200, .inl f1153)), (q1140, .inl (I .int, 200, .inl f1154)), (q1141, .inl (I .int, 200, .inl f1155)), (q1142, .inl (I .int, 200, .inl f1156)), (q1143, .inl (I .int, 200, .inl f1157))] ∧ p1145.toInt = 0 ∧ z1161 = f1154 p1144.toNatClampNeg ∧ gB z1161 (-2147483648) 2147483647) ∨ (∃ (z1163 : Int32), r = some (.int (-1)) ∧ w = [(q1134, .inr (5, [.ref q1135, .ref q1136, .ref q1137, .ref q1138, .ref q1139, .ref q1140, .ref q1141, .ref q1142, .ref q1143, .int p1146, .int p1147, .int p1148])), (q1135, .inl (I .int, 40, .inl f1149)), (q1136, .inl (I .int, 40, .inl f1150)), (q1137, .inl (I .int, 40, .inl f1151)), (q1138, .inl (I .int, 200, .inl f1152)), (q1139, .inl (I .int, 200, .inl f1153)), (q1140, .inl (I .int, 200, .inl f1154)), (q1141, .inl (I .int, 200, .inl f1155)), (q1142, .inl (I .int, 200, .inl f1156)), (q1143, .inl (I .int, 200, .inl f1157))] ∧ p1145.toInt ≠ 0 ∧ z1163.toInt ≠ 17 ∧ z1163 = f1152 p1144.toNatClampNeg ∧ gB z1163 0 21) ∨ (∃ (z1167 : Int32) (z1163 : Int32), r = some (.int z1167) ∧ w = [(q1134, .inr (5, [.ref q1135, .ref q1136, .ref q1137, .ref q1138, .ref q1139, .ref q1140, .ref q1141, .ref q1142, .ref q1143, .int p1146, .int p1147, .int p1148])), (q1135, .inl (I .int, 40, .inl f1149)), (q1136, .inl (I .int, 40, .inl f1150)), (q1137, .inl (I .int, 40, .inl f1151)), (q1138, .inl (I .int, 200, .inl f1152)), (q1139, .inl (I .int, 200, .inl f1153)), (q1140, .inl (I .int, 200, .inl f1154)), (q1141, .inl (I .int, 200, .inl f1155)), (q1142, .inl (I .int, 200, .inl f1156)), (q1143, .inl (I .int, 200, .inl f1157))] ∧ p1145.toInt ≠ 0 ∧ z1163.toInt = 17 ∧ z1163 = f1152 p1144.toNatClampNeg ∧ z1167 = f1157 p1144.toNatClampNeg ∧ gB z1167 (-2147483648) 2147483647 ∧ gB z1163 17 17)
set_option maxRecDepth 100000 in
set_option maxHeartbeats 4000000 in
theorem ct_1158_Code_firstUse (l : Launch) (hl0 : l.stackTraces = false) (D : va_G) (I : FieldType → ClassId) (q1134 : Nat) (q1135 : Nat) (q1136 : Nat) (q1137 : Nat) (q1138 : Nat) (q1139 : Nat) (q1140 : Nat) (q1141 : Nat) (q1142 : Nat) (q1143 : Nat) (p1144 : Int32) (p1145 : Int32) (p1146 : Int32) (p1147 : Int32) (p1148 : Int32) (f1149 : Nat → Int32) (f1150 : Nat → Int32) (f1151 : Nat → Int32) (f1152 : Nat → Int32) (f1153 : Nat → Int32) (f1154 : Nat → Int32) (f1155 : Nat → Int32) (f1156 : Nat → Int32) (f1157 : Nat → Int32) (bp1144 : gB p1144 0 199) (bp1145 : gB p1145 0 1) (bp1146 : gB p1146 0 40) (bp1147 : gB p1147 0 200) (bp1148 : gB p1148 0 1) (bf1149 : gF f1149 0 200) (bf1152 : gF f1152 0 21) : Ct (gV D I) l yX0_firstUse cX0_firstUse 3 (some FieldType.int) 0 0 0 0 [.ref q1134, .int p1144, .int p1145] [(q1134, .inr (5, [.ref q1135, .ref q1136, .ref q1137, .ref q1138, .ref q1139, .ref q1140, .ref q1141, .ref q1142, .ref q1143, .int p1146, .int p1147, .int p1148])), (q1135, .inl (I .int, 40, .inl f1149)), (q1136, .inl (I .int, 40, .inl f1150)), (q1137, .inl (I .int, 40, .inl f1151)), (q1138, .inl (I .int, 200, .inl f1152)), (q1139, .inl (I .int, 200, .inl f1153)), (q1140, .inl (I .int, 200, .inl f1154)), (q1141, .inl (I .int, 200, .inl f1155)), (q1142, .inl (I .int, 200, .inl f1156)), (q1143, .inl (I .int, 200, .inl f1157))] (po_1158_Code_firstUse I q1134 q1135 q1136 q1137 q1138 q1139 q1140 q1141 q1142 q1143 p1144 p1145 p1146 p1147 p1148 f1149 f1150 f1151 f1152 f1153 f1154 f1155 f1156 f1157) gN := by
  refine Ct_of hl0 (by decide) (Nat.le_of_ble_eq_true rfl) ?_
  refine G_iload_n 2 d_cX0_firstUse_0 rfl ?_
  refine G_if_eq 26 d_cX0_firstUse_1 (by decide +kernel) (fun hc1159 => ?_) (fun hc1159 => ?_)
  · have r1160 : p1145.toInt = 0 := gj_eq hc1159 (show Int32.toInt 0 = 0 by decide)
    have bp1145' : gB p1145 0 0 := ⟨by omega, by omega⟩
    refine G_aload_n 0 d_cX0_firstUse_26 rfl ?_
    refine G_getf 0 5 d_cX0_firstUse_27 rfl (gk_X0 D I) (Nat.le_of_ble_eq_true rfl) w_1_168 rfl ?_
    refine G_iload_n 1 d_cX0_firstUse_30 rfl ?_
    refine G_iald 6 0 d_cX0_firstUse_31 rfl rfl (gB_in bp1144 (by decide) (by decide)) (G_nam fun z1161 hz1161 => ?_)
    have bz1161 : gB z1161 (-2147483648) 2147483647 := gB_any z1161
    exact G_iret d_cX0_firstUse_32 rfl (Nat.le_of_ble_eq_true rfl) (Nat.le_of_ble_eq_true rfl) (Or.inl ⟨z1161, rfl, rfl, r1160, hz1161, bz1161⟩)
  · have r1162 : p1145.toInt ≠ 0 := gj_neq hc1159 (show Int32.toInt 0 = 0 by decide)
    have bp1145' : gB p1145 1 1 := ⟨by omega, by omega⟩
    refine G_aload_n 0 d_cX0_firstUse_4 rfl ?_
    refine G_getf 0 3 d_cX0_firstUse_5 rfl (gk_X0 D I) (Nat.le_of_ble_eq_true rfl) w_1_159 rfl ?_
    refine G_iload_n 1 d_cX0_firstUse_8 rfl ?_
    refine G_iald 4 0 d_cX0_firstUse_9 rfl rfl (gB_in bp1144 (by decide) (by decide)) (G_nam fun z1163 hz1163 => ?_)
    have bz1163 : gB z1163 0 21 := by rw [hz1163]; exact bf1152 _
    refine G_bipush 17 d_cX0_firstUse_10 (by decide +kernel) ?_
    refine G_icmp_ne 24 d_cX0_firstUse_12 (by decide +kernel) (fun hc1164 => ?_) (fun hc1164 => ?_)
    · have r1165 : z1163.toInt ≠ 17 := gj_neq hc1164 (show Int32.toInt 17 = 17 by decide)
      refine G_iconst (-1) d_cX0_firstUse_24 (by decide +kernel) ?_
      exact G_iret d_cX0_firstUse_25 rfl (Nat.le_of_ble_eq_true rfl) (Nat.le_of_ble_eq_true rfl) (Or.inr (Or.inl ⟨z1163, rfl, rfl, r1162, r1165, hz1163, bz1163⟩))
    · have r1166 : z1163.toInt = 17 := gj_eq hc1164 (show Int32.toInt 17 = 17 by decide)
      have bz1163' : gB z1163 17 17 := ⟨by omega, by omega⟩
      refine G_aload_n 0 d_cX0_firstUse_15 rfl ?_
      refine G_getf 0 8 d_cX0_firstUse_16 rfl (gk_X0 D I) (Nat.le_of_ble_eq_true rfl) w_1_183 rfl ?_
      refine G_iload_n 1 d_cX0_firstUse_19 rfl ?_
      refine G_iald 9 0 d_cX0_firstUse_20 rfl rfl (gB_in bp1144 (by decide) (by decide)) (G_nam fun z1167 hz1167 => ?_)
      have bz1167 : gB z1167 (-2147483648) 2147483647 := gB_any z1167
      refine G_goto 25 d_cX0_firstUse_21 (by decide +kernel) ?_
      exact G_iret d_cX0_firstUse_25 rfl (Nat.le_of_ble_eq_true rfl) (Nat.le_of_ble_eq_true rfl) (Or.inr (Or.inr (⟨z1167, z1163, rfl, rfl, r1162, r1166, hz1163, hz1167, bz1167, bz1163'⟩)))
abbrev ky_1192_Code_secondUse : gKey := (cX0_secondUse, 3, yX0_secondUse.cls, (some FieldType.int), [], yX0_secondUse.name, fun _ _ => True)
abbrev po_1192_Code_secondUse (I : FieldType → ClassId) (q1168 : Nat) (q1169 : Nat) (q1170 : Nat) (q1171 : Nat) (q1172 : Nat) (q1173 : Nat) (q1174 : Nat) (q1175 : Nat) (q1176 : Nat) (q1177 : Nat) (p1178 : Int32) (p1179 : Int32) (p1180 : Int32) (p1181 : Int32) (p1182 : Int32) (f1183 : Nat → Int32) (f1184 : Nat → Int32) (f1185 : Nat → Int32) (f1186 : Nat → Int32) (f1187 : Nat → Int32) (f1188 : Nat → Int32) (f1189 : Nat → Int32) (f1190 : Nat → Int32) (f1191 : Nat → Int32) : Option Value → va_W → Prop := fun r w => (∃ (z1195 : Int32), r = some (.int z1195) ∧ w = [(q1168, .inr (5, [.ref q1169, .ref q1170, .ref q1171, .ref q1172, .ref q1173, .ref q1174, .ref q1175, .ref q1176, .ref q1177, .int p1180, .int p1181, .int p1182])), (q1169, .inl (I .int, 40, .inl f1183)), (q1170, .inl (I .int, 40, .inl f1184)), (q1171, .inl (I .int, 40, .inl f1185)), (q1172, .inl (I .int, 200, .inl f1186)), (q1173, .inl (I .int, 200, .inl f1187)), (q1174, .inl (I .int, 200, .inl f1188)), (q1175, .inl (I .int, 200, .inl f1189)), (q1176, .inl (I .int, 200, .inl f1190)), (q1177, .inl (I .int, 200, .inl f1191))] ∧ p1179.toInt = 0 ∧ z1195 = f1190 p1178.toNatClampNeg ∧ gB z1195 (-2147483648) 2147483647) ∨ (r = some (.int (-1)) ∧ w = [(q1168, .inr (5, [.ref q1169, .ref q1170, .ref q1171, .ref q1172, .ref q1173, .ref q1174, .ref q1175, .ref q1176, .ref q1177, .int p1180, .int p1181, .int p1182])), (q1169, .inl (I .int, 40, .inl f1183)), (q1170, .inl (I .int, 40, .inl f1184)), (q1171, .inl (I .int, 40, .inl f1185)), (q1172, .inl (I .int, 200, .inl f1186)), (q1173, .inl (I .int, 200, .inl f1187)), (q1174, .inl (I .int, 200, .inl f1188)), (q1175, .inl (I .int, 200, .inl f1189)), (q1176, .inl (I .int, 200, .inl f1190)), (q1177, .inl (I .int, 200, .inl f1191))] ∧ p1179.toInt ≠ 0)
set_option maxRecDepth 100000 in
set_option maxHeartbeats 4000000 in
theorem ct_1192_Code_secondUse (l : Launch) (hl0 : l.stackTraces = false) (D : va_G) (I : FieldType → ClassId) (q1168 : Nat) (q1169 : Nat) (q1170 : Nat) (q1171 : Nat) (q1172 : Nat) (q1173 : Nat) (q1174 : Nat) (q1175 : Nat) (q1176 : Nat) (q1177 : Nat) (p1178 : Int32) (p1179 : Int32) (p1180 : Int32) (p1181 : Int32) (p1182 : Int32) (f1183 : Nat → Int32) (f1184 : Nat → Int32) (f1185 : Nat → Int32) (f1186 : Nat → Int32) (f1187 : Nat → Int32) (f1188 : Nat → Int32) (f1189 : Nat → Int32) (f1190 : Nat → Int32) (f1191 : Nat → Int32) (bp1178 : gB p1178 0 199) (bp1179 : gB p1179 0 1) (bp1180 : gB p1180 0 40) (bp1181 : gB p1181 0 200) (bp1182 : gB p1182 0 1) (bf1183 : gF f1183 0 200) (bf1186 : gF f1186 0 21) : Ct (gV D I) l yX0_secondUse cX0_secondUse 3 (some FieldType.int) 0 0 0 0 [.ref q1168, .int p1178, .int p1179] [(q1168, .inr (5, [.ref q1169, .ref q1170, .ref q1171, .ref q1172, .ref q1173, .ref q1174, .ref q1175, .ref q1176, .ref q1177, .int p1180, .int p1181, .int p1182])), (q1169, .inl (I .int, 40, .inl f1183)), (q1170, .inl (I .int, 40, .inl f1184)), (q1171, .inl (I .int, 40, .inl f1185)), (q1172, .inl (I .int, 200, .inl f1186)), (q1173, .inl (I .int, 200, .inl f1187)), (q1174, .inl (I .int, 200, .inl f1188)), (q1175, .inl (I .int, 200, .inl f1189)), (q1176, .inl (I .int, 200, .inl f1190)), (q1177, .inl (I .int, 200, .inl f1191))] (po_1192_Code_secondUse I q1168 q1169 q1170 q1171 q1172 q1173 q1174 q1175 q1176 q1177 p1178 p1179 p1180 p1181 p1182 f1183 f1184 f1185 f1186 f1187 f1188 f1189 f1190 f1191) gN := by
  refine Ct_of hl0 (by decide) (Nat.le_of_ble_eq_true rfl) ?_
  refine G_iload_n 2 d_cX0_secondUse_0 rfl ?_
  refine G_if_eq 8 d_cX0_secondUse_1 (by decide +kernel) (fun hc1193 => ?_) (fun hc1193 => ?_)
  · have r1194 : p1179.toInt = 0 := gj_eq hc1193 (show Int32.toInt 0 = 0 by decide)
    have bp1179' : gB p1179 0 0 := ⟨by omega, by omega⟩
    refine G_aload_n 0 d_cX0_secondUse_8 rfl ?_
    refine G_getf 0 7 d_cX0_secondUse_9 rfl (gk_X0 D I) (Nat.le_of_ble_eq_true rfl) w_1_178 rfl ?_
    refine G_iload_n 1 d_cX0_secondUse_12 rfl ?_
    refine G_iald 8 0 d_cX0_secondUse_13 rfl rfl (gB_in bp1178 (by decide) (by decide)) (G_nam fun z1195 hz1195 => ?_)
    have bz1195 : gB z1195 (-2147483648) 2147483647 := gB_any z1195
    exact G_iret d_cX0_secondUse_14 rfl (Nat.le_of_ble_eq_true rfl) (Nat.le_of_ble_eq_true rfl) (Or.inl ⟨z1195, rfl, rfl, r1194, hz1195, bz1195⟩)
  · have r1196 : p1179.toInt ≠ 0 := gj_neq hc1193 (show Int32.toInt 0 = 0 by decide)
    have bp1179' : gB p1179 1 1 := ⟨by omega, by omega⟩
    refine G_iconst (-1) d_cX0_secondUse_4 (by decide +kernel) ?_
    refine G_goto 14 d_cX0_secondUse_5 (by decide +kernel) ?_
    exact G_iret d_cX0_secondUse_14 rfl (Nat.le_of_ble_eq_true rfl) (Nat.le_of_ble_eq_true rfl) (Or.inr (⟨rfl, rfl, r1196⟩))
abbrev ky_1230_Arrays_fill : gKey := (cJ7_fill_d0a16, 5, yJ7_fill_d0a16.cls, none, [], yJ7_fill_d0a16.name, fun _ _ => True)
abbrev po_1230_Arrays_fill (I : FieldType → ClassId) (q1227 : Nat) (pl1228 : Int64) (f1229 : Nat → Int64) : Option Value → va_W → Prop := fun r w => ∃ (f1265 : Nat → Int64), r = none ∧ w = [(q1227, .inl (I .long, 40, .inr (.inl f1265)))]
set_option maxRecDepth 100000 in
set_option maxHeartbeats 4000000 in
theorem ct_1230_Arrays_fill (l : Launch) (hl0 : l.stackTraces = false) (D : va_G) (I : FieldType → ClassId) (q1227 : Nat) (pl1228 : Int64) (f1229 : Nat → Int64)  : Ct (gV D I) l yJ7_fill_d0a16 cJ7_fill_d0a16 5 none 0 0 0 0 [.ref q1227, .long pl1228] [(q1227, .inl (I .long, 40, .inr (.inl f1229)))] (po_1230_Arrays_fill I q1227 pl1228 f1229) gN := by
  refine Ct_ofF hl0 (by decide +kernel) (Nat.le_of_ble_eq_true rfl) ?_
  refine G_iconst 0 d_cJ7_fill_d0a16_0 (by decide +kernel) ?_
  refine G_istore_n (L' := [(3, .int 0), (0, .ref q1227), (1, .long pl1228)]) d_cJ7_fill_d0a16_1 (Nat.le_of_ble_eq_true rfl) rfl ?_
  refine G_aload_n 1 d_cJ7_fill_d0a16_2 rfl ?_
  refine G_alen 40 0 2 d_cJ7_fill_d0a16_3 rfl rfl rfl ?_
  refine G_istore (L' := [(4, .int 40), (3, .int 0), (0, .ref q1227), (1, .long pl1228)]) d_cJ7_fill_d0a16_4 (Nat.le_of_ble_eq_true rfl) rfl ?_
  have hlp6_1259 : ∀ (n6_1259 : Nat) (g1258 : Int32) (f1259 : Nat → Int64), gB g1258 0 40 → ((41 : Int) - g1258.toInt).toNat < n6_1259 → G (gV D I) l (gRm 0 0 0 0) (gM (gV D I) (po_1230_Arrays_fill I q1227 pl1228 f1229) gN 0 0) ky_1230_Arrays_fill 6 [(4, .int 40), (3, .int g1258), (0, .ref q1227), (1, .long pl1228)] [] [(q1227, .inl (I .long, 40, .inr (.inl f1259)))] 0 0 := by
    intro n6_1259
    induction n6_1259 with
    | zero => intro g1258 f1259 bg1258 hm6_1259; exact absurd hm6_1259 (Nat.not_lt_zero _)
    | succ n6_1259 ih6_1259 =>
      intro g1258 f1259 bg1258 hm6_1259
      refine G_iload_n 1 d_cJ7_fill_d0a16_6 rfl ?_
      refine G_iload 0 d_cJ7_fill_d0a16_7 rfl ?_
      refine G_icmp_ge 22 d_cJ7_fill_d0a16_9 (by decide +kernel) (fun hc1260 => ?_) (fun hc1260 => ?_)
      · have r1261 : 40 ≤ g1258.toInt := gj_leL hc1260 (show Int32.toInt 40 = 40 by decide)
        have bg1258' : gB g1258 40 40 := ⟨by omega, by omega⟩
        exact G_vret d_cJ7_fill_d0a16_22 rfl (Nat.le_of_ble_eq_true rfl) (Nat.le_of_ble_eq_true rfl) ⟨f1259, rfl, rfl⟩
      · have r1262 : g1258.toInt < 40 := gj_nleL hc1260 (show Int32.toInt 40 = 40 by decide)
        have bg1258' : gB g1258 0 39 := ⟨by omega, by omega⟩
        refine G_aload_n 2 d_cJ7_fill_d0a16_12 rfl ?_
        refine G_iload_n 1 d_cJ7_fill_d0a16_13 rfl ?_
        refine G_lload_n 3 d_cJ7_fill_d0a16_14 rfl ?_
        refine G_lastN 0 2 d_cJ7_fill_d0a16_15 rfl rfl (gB_in bg1258' (by decide) (by decide)) (fun f1263 hf1263 => ?_)
        refine G_ws (ws' := [(q1227, .inl (I .long, 40, .inr (.inl f1263)))]) (cs' := 0) (sl' := 0) rfl rfl rfl ?_
        obtain ⟨z1264, hz1264⟩ : ∃ z : Int32, z = g1258 + Int32.ofInt 1 := ⟨_, rfl⟩
        have ez1264 : z1264.toInt = g1258.toInt + 1 := gI_inc hz1264 (by decide) bg1258' (by decide) (by decide)
        have bz1264 : gB z1264 1 40 := ⟨by omega, by omega⟩
        refine G_iinc (L' := [(3, .int z1264), (4, .int 40), (0, .ref q1227), (1, .long pl1228)]) z1264 1 d_cJ7_fill_d0a16_16 rfl hz1264.symm (Nat.le_of_ble_eq_true rfl) rfl ?_
        refine G_goto 6 d_cJ7_fill_d0a16_19 (by decide +kernel) ?_
        refine G_lv (L' := [(4, .int 40), (3, .int z1264), (0, .ref q1227), (1, .long pl1228)]) [1, 0, 2, 3] rfl ?_
        exact ih6_1259 z1264 f1263 (gB_w bz1264 (by decide) (by decide)) (by have qa0 : Int32.toInt 40 = 40 := (by decide); omega)
  exact hlp6_1259 (((41 : Int) - 0).toNat + 1) 0 f1229 (gB_w (gBl (show Int32.toInt 0 = 0 by decide)) (by decide) (by decide)) (Nat.lt_succ_self _)
abbrev ky_1271_Arrays_fill : gKey := (cJ7_fill_53178, 4, yJ7_fill_53178.cls, none, [], yJ7_fill_53178.name, fun _ _ => True)
abbrev po_1271_Arrays_fill (I : FieldType → ClassId) (q1268 : Nat) (p1269 : Int32) (f1270 : Nat → Int32) : Option Value → va_W → Prop := fun r w => ∃ (f1306 : Nat → Int32), r = none ∧ w = [(q1268, .inl (I .int, 40, .inl f1306))] ∧ gF f1306 (-2147483648) 2147483647
set_option maxRecDepth 100000 in
set_option maxHeartbeats 4000000 in
theorem ct_1271_Arrays_fill (l : Launch) (hl0 : l.stackTraces = false) (D : va_G) (I : FieldType → ClassId) (q1268 : Nat) (p1269 : Int32) (f1270 : Nat → Int32)  : Ct (gV D I) l yJ7_fill_53178 cJ7_fill_53178 4 none 0 0 0 0 [.ref q1268, .int p1269] [(q1268, .inl (I .int, 40, .inl f1270))] (po_1271_Arrays_fill I q1268 p1269 f1270) gN := by
  refine Ct_ofF hl0 (by decide +kernel) (Nat.le_of_ble_eq_true rfl) ?_
  have bp1269 := gB_any p1269
  refine G_iconst 0 d_cJ7_fill_53178_0 (by decide +kernel) ?_
  refine G_istore_n (L' := [(2, .int 0), (0, .ref q1268), (1, .int p1269)]) d_cJ7_fill_53178_1 (Nat.le_of_ble_eq_true rfl) rfl ?_
  refine G_aload_n 1 d_cJ7_fill_53178_2 rfl ?_
  refine G_alen 40 0 0 d_cJ7_fill_53178_3 rfl rfl rfl ?_
  refine G_istore_n (L' := [(3, .int 40), (2, .int 0), (0, .ref q1268), (1, .int p1269)]) d_cJ7_fill_53178_4 (Nat.le_of_ble_eq_true rfl) rfl ?_
  have hlp5_1300 : ∀ (n5_1300 : Nat) (g1299 : Int32) (f1300 : Nat → Int32), gB g1299 0 40 → gF f1300 (-2147483648) 2147483647 → ((41 : Int) - g1299.toInt).toNat < n5_1300 → G (gV D I) l (gRm 0 0 0 0) (gM (gV D I) (po_1271_Arrays_fill I q1268 p1269 f1270) gN 0 0) ky_1271_Arrays_fill 5 [(3, .int 40), (2, .int g1299), (0, .ref q1268), (1, .int p1269)] [] [(q1268, .inl (I .int, 40, .inl f1300))] 0 0 := by
    intro n5_1300
    induction n5_1300 with
    | zero => intro g1299 f1300 bg1299 bf1300 hm5_1300; exact absurd hm5_1300 (Nat.not_lt_zero _)
    | succ n5_1300 ih5_1300 =>
      intro g1299 f1300 bg1299 bf1300 hm5_1300
      refine G_iload_n 1 d_cJ7_fill_53178_5 rfl ?_
      refine G_iload_n 0 d_cJ7_fill_53178_6 rfl ?_
      refine G_icmp_ge 20 d_cJ7_fill_53178_7 (by decide +kernel) (fun hc1301 => ?_) (fun hc1301 => ?_)
      · have r1302 : 40 ≤ g1299.toInt := gj_leL hc1301 (show Int32.toInt 40 = 40 by decide)
        have bg1299' : gB g1299 40 40 := ⟨by omega, by omega⟩
        exact G_vret d_cJ7_fill_53178_20 rfl (Nat.le_of_ble_eq_true rfl) (Nat.le_of_ble_eq_true rfl) ⟨f1300, rfl, rfl, bf1300⟩
      · have r1303 : g1299.toInt < 40 := gj_nleL hc1301 (show Int32.toInt 40 = 40 by decide)
        have bg1299' : gB g1299 0 39 := ⟨by omega, by omega⟩
        refine G_aload_n 2 d_cJ7_fill_53178_10 rfl ?_
        refine G_iload_n 1 d_cJ7_fill_53178_11 rfl ?_
        refine G_iload_n 3 d_cJ7_fill_53178_12 rfl ?_
        refine G_iastN 0 0 d_cJ7_fill_53178_13 rfl rfl (gB_in bg1299' (by decide) (by decide)) (fun f1304 hf1304 => ?_)
        refine G_ws (ws' := [(q1268, .inl (I .int, 40, .inl f1304))]) (cs' := 0) (sl' := 0) rfl rfl rfl ?_
        obtain ⟨z1305, hz1305⟩ : ∃ z : Int32, z = g1299 + Int32.ofInt 1 := ⟨_, rfl⟩
        have ez1305 : z1305.toInt = g1299.toInt + 1 := gI_inc hz1305 (by decide) bg1299' (by decide) (by decide)
        have bz1305 : gB z1305 1 40 := ⟨by omega, by omega⟩
        refine G_iinc (L' := [(2, .int z1305), (3, .int 40), (0, .ref q1268), (1, .int p1269)]) z1305 1 d_cJ7_fill_53178_14 rfl hz1305.symm (Nat.le_of_ble_eq_true rfl) rfl ?_
        refine G_goto 5 d_cJ7_fill_53178_17 (by decide +kernel) ?_
        refine G_lv (L' := [(3, .int 40), (2, .int z1305), (0, .ref q1268), (1, .int p1269)]) [1, 0, 2, 3] rfl ?_
        exact ih5_1300 z1305 f1304 (gB_w bz1305 (by decide) (by decide)) (gF_any f1304) (by have qa0 : Int32.toInt 40 = 40 := (by decide); omega)
  exact hlp5_1300 (((41 : Int) - 0).toNat + 1) 0 f1270 (gB_w (gBl (show Int32.toInt 0 = 0 by decide)) (by decide) (by decide)) (gF_any f1270) (Nat.lt_succ_self _)
