theorem d_cX0_clear_0 : decode cX0_clear 0 = .ok (.aload_n 0, 1) := by decide +kernel
theorem d_cX0_clear_1 : decode cX0_clear 1 = .ok (.iconst 0, 1) := by decide +kernel
theorem d_cX0_clear_2 : decode cX0_clear 2 = .ok (.putfield 45, 3) := by decide +kernel
theorem w_1_187 : (Jvm.Cond.fieldLink "SpillForge$Code" (45 : Nat) "SpillForge$Code" "blocks" "I") ∈ gw := gw_1 187 rfl rfl
theorem d_cX0_clear_5 : decode cX0_clear 5 = .ok (.aload_n 0, 1) := by decide +kernel
theorem d_cX0_clear_6 : decode cX0_clear 6 = .ok (.iconst 0, 1) := by decide +kernel
theorem d_cX0_clear_7 : decode cX0_clear 7 = .ok (.putfield 49, 3) := by decide +kernel
theorem w_1_197 : (Jvm.Cond.fieldLink "SpillForge$Code" (49 : Nat) "SpillForge$Code" "lines" "I") ∈ gw := gw_1 197 rfl rfl
theorem d_cX0_clear_10 : decode cX0_clear 10 = .ok (.aload_n 0, 1) := by decide +kernel
theorem d_cX0_clear_11 : decode cX0_clear 11 = .ok (.iconst 0, 1) := by decide +kernel
theorem d_cX0_clear_12 : decode cX0_clear 12 = .ok (.putfield 52, 3) := by decide +kernel
theorem w_1_200 : (Jvm.Cond.fieldLink "SpillForge$Code" (52 : Nat) "SpillForge$Code" "isFull" "Z") ∈ gw := gw_1 200 rfl rfl
theorem d_cX0_clear_15 : decode cX0_clear 15 = .ok (.return_, 1) := by decide +kernel
theorem d_cX0_rows_0 : decode cX0_rows 0 = .ok (.aload_n 0, 1) := by decide +kernel
theorem d_cX0_rows_1 : decode cX0_rows 1 = .ok (.getfield 49, 3) := by decide +kernel
theorem d_cX0_rows_4 : decode cX0_rows 4 = .ok (.aload_n 0, 1) := by decide +kernel
theorem d_cX0_rows_5 : decode cX0_rows 5 = .ok (.getfield 45, 3) := by decide +kernel
theorem d_cX0_rows_8 : decode cX0_rows 8 = .ok (.isub, 1) := by decide +kernel
theorem d_cX0_rows_9 : decode cX0_rows 9 = .ok (.ireturn, 1) := by decide +kernel
theorem d_cX0_blockEnd_0 : decode cX0_blockEnd 0 = .ok (.iload_n 1, 1) := by decide +kernel
theorem d_cX0_blockEnd_1 : decode cX0_blockEnd 1 = .ok (.iconst 1, 1) := by decide +kernel
theorem d_cX0_blockEnd_2 : decode cX0_blockEnd 2 = .ok (.iadd, 1) := by decide +kernel
theorem d_cX0_blockEnd_3 : decode cX0_blockEnd 3 = .ok (.aload_n 0, 1) := by decide +kernel
theorem d_cX0_blockEnd_4 : decode cX0_blockEnd 4 = .ok (.getfield 45, 3) := by decide +kernel
theorem d_cX0_blockEnd_7 : decode cX0_blockEnd 7 = .ok (.if_icmp .ge 14, 3) := by decide +kernel
theorem d_cX0_blockEnd_21 : decode cX0_blockEnd 21 = .ok (.aload_n 0, 1) := by decide +kernel
theorem d_cX0_blockEnd_22 : decode cX0_blockEnd 22 = .ok (.getfield 49, 3) := by decide +kernel
theorem d_cX0_blockEnd_25 : decode cX0_blockEnd 25 = .ok (.ireturn, 1) := by decide +kernel
theorem d_cX0_blockEnd_10 : decode cX0_blockEnd 10 = .ok (.aload_n 0, 1) := by decide +kernel
theorem d_cX0_blockEnd_11 : decode cX0_blockEnd 11 = .ok (.getfield 9, 3) := by decide +kernel
theorem w_1_142 : (Jvm.Cond.fieldLink "SpillForge$Code" (9 : Nat) "SpillForge$Code" "first" "[I") ∈ gw := gw_1 142 rfl rfl
theorem d_cX0_blockEnd_14 : decode cX0_blockEnd 14 = .ok (.iload_n 1, 1) := by decide +kernel
theorem d_cX0_blockEnd_15 : decode cX0_blockEnd 15 = .ok (.iconst 1, 1) := by decide +kernel
theorem d_cX0_blockEnd_16 : decode cX0_blockEnd 16 = .ok (.iadd, 1) := by decide +kernel
theorem d_cX0_blockEnd_17 : decode cX0_blockEnd 17 = .ok (.iaload, 1) := by decide +kernel
theorem d_cX0_blockEnd_18 : decode cX0_blockEnd 18 = .ok (.goto 7, 3) := by decide +kernel
theorem d_cX0_goal_0 : decode cX0_goal 0 = .ok (.iload_n 2, 1) := by decide +kernel
theorem d_cX0_goal_1 : decode cX0_goal 1 = .ok (.ifCond .ne 12, 3) := by decide +kernel
theorem d_cX0_goal_13 : decode cX0_goal 13 = .ok (.aload_n 0, 1) := by decide +kernel
theorem d_cX0_goal_14 : decode cX0_goal 14 = .ok (.getfield 18, 3) := by decide +kernel
theorem w_1_154 : (Jvm.Cond.fieldLink "SpillForge$Code" (18 : Nat) "SpillForge$Code" "secondGoal" "[I") ∈ gw := gw_1 154 rfl rfl
theorem d_cX0_goal_17 : decode cX0_goal 17 = .ok (.iload_n 1, 1) := by decide +kernel
theorem d_cX0_goal_18 : decode cX0_goal 18 = .ok (.iaload, 1) := by decide +kernel
theorem d_cX0_goal_19 : decode cX0_goal 19 = .ok (.ireturn, 1) := by decide +kernel
theorem d_cX0_goal_4 : decode cX0_goal 4 = .ok (.aload_n 0, 1) := by decide +kernel
theorem d_cX0_goal_5 : decode cX0_goal 5 = .ok (.getfield 15, 3) := by decide +kernel
theorem w_1_149 : (Jvm.Cond.fieldLink "SpillForge$Code" (15 : Nat) "SpillForge$Code" "firstGoal" "[I") ∈ gw := gw_1 149 rfl rfl
theorem d_cX0_goal_8 : decode cX0_goal 8 = .ok (.iload_n 1, 1) := by decide +kernel
theorem d_cX0_goal_9 : decode cX0_goal 9 = .ok (.iaload, 1) := by decide +kernel
theorem d_cX0_goal_10 : decode cX0_goal 10 = .ok (.goto 9, 3) := by decide +kernel
theorem d_cX0_openBlock_0 : decode cX0_openBlock 0 = .ok (.aload_n 0, 1) := by decide +kernel
theorem d_cX0_openBlock_1 : decode cX0_openBlock 1 = .ok (.getfield 45, 3) := by decide +kernel
theorem d_cX0_openBlock_4 : decode cX0_openBlock 4 = .ok (.bipush 40, 2) := by decide +kernel
theorem d_cX0_openBlock_6 : decode cX0_openBlock 6 = .ok (.if_icmp .lt 5, 3) := by decide +kernel
theorem d_cX0_openBlock_11 : decode cX0_openBlock 11 = .ok (.aload_n 0, 1) := by decide +kernel
theorem d_cX0_openBlock_12 : decode cX0_openBlock 12 = .ok (.getfield 9, 3) := by decide +kernel
theorem d_cX0_openBlock_15 : decode cX0_openBlock 15 = .ok (.aload_n 0, 1) := by decide +kernel
theorem d_cX0_openBlock_16 : decode cX0_openBlock 16 = .ok (.getfield 45, 3) := by decide +kernel
theorem d_cX0_openBlock_19 : decode cX0_openBlock 19 = .ok (.aload_n 0, 1) := by decide +kernel
theorem d_cX0_openBlock_20 : decode cX0_openBlock 20 = .ok (.getfield 49, 3) := by decide +kernel
theorem d_cX0_openBlock_23 : decode cX0_openBlock 23 = .ok (.iastore, 1) := by decide +kernel
theorem d_cX0_openBlock_24 : decode cX0_openBlock 24 = .ok (.aload_n 0, 1) := by decide +kernel
theorem d_cX0_openBlock_25 : decode cX0_openBlock 25 = .ok (.getfield 15, 3) := by decide +kernel
theorem d_cX0_openBlock_28 : decode cX0_openBlock 28 = .ok (.aload_n 0, 1) := by decide +kernel
theorem d_cX0_openBlock_29 : decode cX0_openBlock 29 = .ok (.getfield 45, 3) := by decide +kernel
theorem d_cX0_openBlock_32 : decode cX0_openBlock 32 = .ok (.iconst (-1), 1) := by decide +kernel
theorem d_cX0_openBlock_33 : decode cX0_openBlock 33 = .ok (.iastore, 1) := by decide +kernel
theorem d_cX0_openBlock_34 : decode cX0_openBlock 34 = .ok (.aload_n 0, 1) := by decide +kernel
theorem d_cX0_openBlock_35 : decode cX0_openBlock 35 = .ok (.getfield 18, 3) := by decide +kernel
theorem d_cX0_openBlock_38 : decode cX0_openBlock 38 = .ok (.aload_n 0, 1) := by decide +kernel
theorem d_cX0_openBlock_39 : decode cX0_openBlock 39 = .ok (.getfield 45, 3) := by decide +kernel
theorem d_cX0_openBlock_42 : decode cX0_openBlock 42 = .ok (.iconst (-1), 1) := by decide +kernel
theorem d_cX0_openBlock_43 : decode cX0_openBlock 43 = .ok (.iastore, 1) := by decide +kernel
theorem d_cX0_openBlock_44 : decode cX0_openBlock 44 = .ok (.aload_n 0, 1) := by decide +kernel
theorem d_cX0_openBlock_45 : decode cX0_openBlock 45 = .ok (.dup, 1) := by decide +kernel
theorem d_cX0_openBlock_46 : decode cX0_openBlock 46 = .ok (.getfield 45, 3) := by decide +kernel
theorem d_cX0_openBlock_49 : decode cX0_openBlock 49 = .ok (.iconst 1, 1) := by decide +kernel
theorem d_cX0_openBlock_50 : decode cX0_openBlock 50 = .ok (.iadd, 1) := by decide +kernel
theorem d_cX0_openBlock_51 : decode cX0_openBlock 51 = .ok (.putfield 45, 3) := by decide +kernel
theorem d_cX0_openBlock_54 : decode cX0_openBlock 54 = .ok (.iconst 1, 1) := by decide +kernel
theorem d_cX0_openBlock_55 : decode cX0_openBlock 55 = .ok (.ireturn, 1) := by decide +kernel
theorem d_cX0_openBlock_9 : decode cX0_openBlock 9 = .ok (.iconst 0, 1) := by decide +kernel
theorem d_cX0_openBlock_10 : decode cX0_openBlock 10 = .ok (.ireturn, 1) := by decide +kernel
theorem d_cX0_addGoal_0 : decode cX0_addGoal 0 = .ok (.aload_n 0, 1) := by decide +kernel
theorem d_cX0_addGoal_1 : decode cX0_addGoal 1 = .ok (.getfield 45, 3) := by decide +kernel
theorem d_cX0_addGoal_4 : decode cX0_addGoal 4 = .ok (.iconst 1, 1) := by decide +kernel
theorem d_cX0_addGoal_5 : decode cX0_addGoal 5 = .ok (.isub, 1) := by decide +kernel
theorem d_cX0_addGoal_6 : decode cX0_addGoal 6 = .ok (.istore_n 2, 1) := by decide +kernel
theorem d_cX0_addGoal_7 : decode cX0_addGoal 7 = .ok (.iload_n 2, 1) := by decide +kernel
theorem d_cX0_addGoal_8 : decode cX0_addGoal 8 = .ok (.ifCond .ge 5, 3) := by decide +kernel
theorem d_cX0_addGoal_13 : decode cX0_addGoal 13 = .ok (.aload_n 0, 1) := by decide +kernel
theorem d_cX0_addGoal_14 : decode cX0_addGoal 14 = .ok (.getfield 15, 3) := by decide +kernel
theorem d_cX0_addGoal_17 : decode cX0_addGoal 17 = .ok (.iload_n 2, 1) := by decide +kernel
theorem d_cX0_addGoal_18 : decode cX0_addGoal 18 = .ok (.iaload, 1) := by decide +kernel
theorem d_cX0_addGoal_19 : decode cX0_addGoal 19 = .ok (.iconst (-1), 1) := by decide +kernel
theorem d_cX0_addGoal_20 : decode cX0_addGoal 20 = .ok (.if_icmp .eq 7, 3) := by decide +kernel
theorem d_cX0_addGoal_27 : decode cX0_addGoal 27 = .ok (.iconst 0, 1) := by decide +kernel
theorem d_cX0_addGoal_28 : decode cX0_addGoal 28 = .ok (.istore_n 3, 1) := by decide +kernel
theorem d_cX0_addGoal_29 : decode cX0_addGoal 29 = .ok (.iload_n 3, 1) := by decide +kernel
theorem d_cX0_addGoal_30 : decode cX0_addGoal 30 = .ok (.ifCond .eq 10, 3) := by decide +kernel
theorem d_cX0_addGoal_40 : decode cX0_addGoal 40 = .ok (.aload_n 0, 1) := by decide +kernel
theorem d_cX0_addGoal_41 : decode cX0_addGoal 41 = .ok (.getfield 15, 3) := by decide +kernel
theorem d_cX0_addGoal_44 : decode cX0_addGoal 44 = .ok (.astore 4, 2) := by decide +kernel
theorem d_cX0_addGoal_46 : decode cX0_addGoal 46 = .ok (.aload 4, 2) := by decide +kernel
theorem d_cX0_addGoal_48 : decode cX0_addGoal 48 = .ok (.iload_n 2, 1) := by decide +kernel
theorem d_cX0_addGoal_49 : decode cX0_addGoal 49 = .ok (.iload_n 1, 1) := by decide +kernel
theorem d_cX0_addGoal_50 : decode cX0_addGoal 50 = .ok (.iastore, 1) := by decide +kernel
theorem d_cX0_addGoal_51 : decode cX0_addGoal 51 = .ok (.iload_n 3, 1) := by decide +kernel
theorem d_cX0_addGoal_52 : decode cX0_addGoal 52 = .ok (.ifCond .eq 11, 3) := by decide +kernel
theorem d_cX0_addGoal_63 : decode cX0_addGoal 63 = .ok (.iconst 2, 1) := by decide +kernel
theorem d_cX0_addGoal_64 : decode cX0_addGoal 64 = .ok (.iload_n 2, 1) := by decide +kernel
theorem d_cX0_addGoal_65 : decode cX0_addGoal 65 = .ok (.imul, 1) := by decide +kernel
theorem d_cX0_addGoal_66 : decode cX0_addGoal 66 = .ok (.ireturn, 1) := by decide +kernel
theorem d_cX0_addGoal_23 : decode cX0_addGoal 23 = .ok (.iconst 1, 1) := by decide +kernel
theorem d_cX0_addGoal_24 : decode cX0_addGoal 24 = .ok (.goto 4, 3) := by decide +kernel
theorem d_cX0_addGoal_33 : decode cX0_addGoal 33 = .ok (.aload_n 0, 1) := by decide +kernel
theorem d_cX0_addGoal_34 : decode cX0_addGoal 34 = .ok (.getfield 18, 3) := by decide +kernel
theorem d_cX0_addGoal_37 : decode cX0_addGoal 37 = .ok (.goto 7, 3) := by decide +kernel
theorem d_cX0_addGoal_55 : decode cX0_addGoal 55 = .ok (.iconst 2, 1) := by decide +kernel
theorem d_cX0_addGoal_56 : decode cX0_addGoal 56 = .ok (.iload_n 2, 1) := by decide +kernel
theorem d_cX0_addGoal_57 : decode cX0_addGoal 57 = .ok (.imul, 1) := by decide +kernel
theorem d_cX0_addGoal_58 : decode cX0_addGoal 58 = .ok (.iconst 1, 1) := by decide +kernel
theorem d_cX0_addGoal_59 : decode cX0_addGoal 59 = .ok (.iadd, 1) := by decide +kernel
theorem d_cX0_addGoal_60 : decode cX0_addGoal 60 = .ok (.goto 6, 3) := by decide +kernel
theorem d_cX0_addGoal_11 : decode cX0_addGoal 11 = .ok (.iconst (-1), 1) := by decide +kernel
theorem d_cX0_addGoal_12 : decode cX0_addGoal 12 = .ok (.ireturn, 1) := by decide +kernel
theorem d_cX0_add_0 : decode cX0_add 0 = .ok (.aload_n 0, 1) := by decide +kernel
theorem d_cX0_add_1 : decode cX0_add 1 = .ok (.getfield 49, 3) := by decide +kernel
theorem d_cX0_add_4 : decode cX0_add 4 = .ok (.aload_n 0, 1) := by decide +kernel
theorem d_cX0_add_5 : decode cX0_add 5 = .ok (.getfield 27, 3) := by decide +kernel
theorem w_1_159 : (Jvm.Cond.fieldLink "SpillForge$Code" (27 : Nat) "SpillForge$Code" "op" "[I") ∈ gw := gw_1 159 rfl rfl
theorem d_cX0_add_8 : decode cX0_add 8 = .ok (.arraylength, 1) := by decide +kernel
theorem d_cX0_add_9 : decode cX0_add 9 = .ok (.if_icmp .lt 9, 3) := by decide +kernel
theorem d_cX0_add_18 : decode cX0_add 18 = .ok (.aload_n 0, 1) := by decide +kernel
theorem d_cX0_add_19 : decode cX0_add 19 = .ok (.getfield 27, 3) := by decide +kernel
theorem d_cX0_add_22 : decode cX0_add 22 = .ok (.aload_n 0, 1) := by decide +kernel
theorem d_cX0_add_23 : decode cX0_add 23 = .ok (.getfield 49, 3) := by decide +kernel
theorem d_cX0_add_26 : decode cX0_add 26 = .ok (.iload_n 1, 1) := by decide +kernel
theorem d_cX0_add_27 : decode cX0_add 27 = .ok (.iastore, 1) := by decide +kernel
theorem d_cX0_add_28 : decode cX0_add 28 = .ok (.aload_n 0, 1) := by decide +kernel
theorem d_cX0_add_29 : decode cX0_add 29 = .ok (.getfield 30, 3) := by decide +kernel
theorem w_1_163 : (Jvm.Cond.fieldLink "SpillForge$Code" (30 : Nat) "SpillForge$Code" "set" "[I") ∈ gw := gw_1 163 rfl rfl
theorem d_cX0_add_32 : decode cX0_add 32 = .ok (.aload_n 0, 1) := by decide +kernel
theorem d_cX0_add_33 : decode cX0_add 33 = .ok (.getfield 49, 3) := by decide +kernel
theorem d_cX0_add_36 : decode cX0_add 36 = .ok (.iload_n 2, 1) := by decide +kernel
theorem d_cX0_add_37 : decode cX0_add 37 = .ok (.iastore, 1) := by decide +kernel
theorem d_cX0_add_38 : decode cX0_add 38 = .ok (.aload_n 0, 1) := by decide +kernel
theorem d_cX0_add_39 : decode cX0_add 39 = .ok (.getfield 33, 3) := by decide +kernel
theorem w_1_168 : (Jvm.Cond.fieldLink "SpillForge$Code" (33 : Nat) "SpillForge$Code" "left" "[I") ∈ gw := gw_1 168 rfl rfl
theorem d_cX0_add_42 : decode cX0_add 42 = .ok (.aload_n 0, 1) := by decide +kernel
theorem d_cX0_add_43 : decode cX0_add 43 = .ok (.getfield 49, 3) := by decide +kernel
theorem d_cX0_add_46 : decode cX0_add 46 = .ok (.iload_n 3, 1) := by decide +kernel
theorem d_cX0_add_47 : decode cX0_add 47 = .ok (.iastore, 1) := by decide +kernel
theorem d_cX0_add_48 : decode cX0_add 48 = .ok (.aload_n 0, 1) := by decide +kernel
theorem d_cX0_add_49 : decode cX0_add 49 = .ok (.getfield 36, 3) := by decide +kernel
theorem w_1_174 : (Jvm.Cond.fieldLink "SpillForge$Code" (36 : Nat) "SpillForge$Code" "leftNumber" "[I") ∈ gw := gw_1 174 rfl rfl
theorem d_cX0_add_52 : decode cX0_add 52 = .ok (.aload_n 0, 1) := by decide +kernel
theorem d_cX0_add_53 : decode cX0_add 53 = .ok (.getfield 49, 3) := by decide +kernel
theorem d_cX0_add_56 : decode cX0_add 56 = .ok (.iload 4, 2) := by decide +kernel
theorem d_cX0_add_58 : decode cX0_add 58 = .ok (.iastore, 1) := by decide +kernel
theorem d_cX0_add_59 : decode cX0_add 59 = .ok (.aload_n 0, 1) := by decide +kernel
theorem d_cX0_add_60 : decode cX0_add 60 = .ok (.getfield 39, 3) := by decide +kernel
theorem w_1_178 : (Jvm.Cond.fieldLink "SpillForge$Code" (39 : Nat) "SpillForge$Code" "right" "[I") ∈ gw := gw_1 178 rfl rfl
theorem d_cX0_add_63 : decode cX0_add 63 = .ok (.aload_n 0, 1) := by decide +kernel
theorem d_cX0_add_64 : decode cX0_add 64 = .ok (.getfield 49, 3) := by decide +kernel
theorem d_cX0_add_67 : decode cX0_add 67 = .ok (.iload 5, 2) := by decide +kernel
theorem d_cX0_add_69 : decode cX0_add 69 = .ok (.iastore, 1) := by decide +kernel
theorem d_cX0_add_70 : decode cX0_add 70 = .ok (.aload_n 0, 1) := by decide +kernel
theorem d_cX0_add_71 : decode cX0_add 71 = .ok (.getfield 42, 3) := by decide +kernel
theorem w_1_183 : (Jvm.Cond.fieldLink "SpillForge$Code" (42 : Nat) "SpillForge$Code" "rightNumber" "[I") ∈ gw := gw_1 183 rfl rfl
theorem d_cX0_add_74 : decode cX0_add 74 = .ok (.aload_n 0, 1) := by decide +kernel
theorem d_cX0_add_75 : decode cX0_add 75 = .ok (.getfield 49, 3) := by decide +kernel
theorem d_cX0_add_78 : decode cX0_add 78 = .ok (.iload 6, 2) := by decide +kernel
theorem d_cX0_add_80 : decode cX0_add 80 = .ok (.iastore, 1) := by decide +kernel
theorem d_cX0_add_81 : decode cX0_add 81 = .ok (.aload_n 0, 1) := by decide +kernel
theorem d_cX0_add_82 : decode cX0_add 82 = .ok (.dup, 1) := by decide +kernel
theorem d_cX0_add_83 : decode cX0_add 83 = .ok (.getfield 49, 3) := by decide +kernel
theorem d_cX0_add_86 : decode cX0_add 86 = .ok (.iconst 1, 1) := by decide +kernel
theorem d_cX0_add_87 : decode cX0_add 87 = .ok (.iadd, 1) := by decide +kernel
theorem d_cX0_add_88 : decode cX0_add 88 = .ok (.putfield 49, 3) := by decide +kernel
theorem d_cX0_add_91 : decode cX0_add 91 = .ok (.return_, 1) := by decide +kernel
theorem d_cX0_add_12 : decode cX0_add 12 = .ok (.aload_n 0, 1) := by decide +kernel
theorem d_cX0_add_13 : decode cX0_add 13 = .ok (.iconst 1, 1) := by decide +kernel
theorem d_cX0_add_14 : decode cX0_add 14 = .ok (.putfield 52, 3) := by decide +kernel
theorem d_cX0_add_17 : decode cX0_add 17 = .ok (.return_, 1) := by decide +kernel
theorem d_cX0_openLike_0 : decode cX0_openLike 0 = .ok (.aload_n 0, 1) := by decide +kernel
theorem d_cX0_openLike_1 : decode cX0_openLike 1 = .ok (.getfield 45, 3) := by decide +kernel
theorem d_cX0_openLike_4 : decode cX0_openLike 4 = .ok (.istore_n 2, 1) := by decide +kernel
theorem d_cX0_openLike_5 : decode cX0_openLike 5 = .ok (.iload_n 2, 1) := by decide +kernel
theorem d_cX0_openLike_6 : decode cX0_openLike 6 = .ok (.aload_n 1, 1) := by decide +kernel
theorem d_cX0_openLike_7 : decode cX0_openLike 7 = .ok (.getfield 45, 3) := by decide +kernel
theorem d_cX0_openLike_10 : decode cX0_openLike 10 = .ok (.if_icmp .ge 34, 3) := by decide +kernel
theorem d_cX0_openLike_44 : decode cX0_openLike 44 = .ok (.return_, 1) := by decide +kernel
theorem d_cX0_nameIn_0 : decode cX0_nameIn 0 = .ok (.iload_n 1, 1) := by decide +kernel
theorem d_cX0_nameIn_1 : decode cX0_nameIn 1 = .ok (.ifCond .lt 15, 3) := by decide +kernel
theorem d_cX0_nameIn_16 : decode cX0_nameIn 16 = .ok (.iload_n 1, 1) := by decide +kernel
theorem d_cX0_nameIn_17 : decode cX0_nameIn 17 = .ok (.ireturn, 1) := by decide +kernel
theorem d_cX0_nameIn_4 : decode cX0_nameIn 4 = .ok (.iload_n 1, 1) := by decide +kernel
theorem d_cX0_nameIn_5 : decode cX0_nameIn 5 = .ok (.aload_n 0, 1) := by decide +kernel
theorem d_cX0_nameIn_6 : decode cX0_nameIn 6 = .ok (.arraylength, 1) := by decide +kernel
theorem d_cX0_nameIn_7 : decode cX0_nameIn 7 = .ok (.if_icmp .ge 9, 3) := by decide +kernel
theorem d_cX0_nameIn_10 : decode cX0_nameIn 10 = .ok (.aload_n 0, 1) := by decide +kernel
theorem d_cX0_nameIn_11 : decode cX0_nameIn 11 = .ok (.iload_n 1, 1) := by decide +kernel
theorem d_cX0_nameIn_12 : decode cX0_nameIn 12 = .ok (.iaload, 1) := by decide +kernel
theorem d_cX0_nameIn_13 : decode cX0_nameIn 13 = .ok (.goto 4, 3) := by decide +kernel
theorem d_cX0_linesThat_0 : decode cX0_linesThat 0 = .ok (.iconst 0, 1) := by decide +kernel
theorem d_cX0_linesThat_1 : decode cX0_linesThat 1 = .ok (.istore_n 2, 1) := by decide +kernel
theorem d_cX0_linesThat_2 : decode cX0_linesThat 2 = .ok (.iconst 0, 1) := by decide +kernel
theorem d_cX0_linesThat_3 : decode cX0_linesThat 3 = .ok (.istore_n 3, 1) := by decide +kernel
theorem d_cX0_linesThat_4 : decode cX0_linesThat 4 = .ok (.iload_n 3, 1) := by decide +kernel
theorem d_cX0_linesThat_5 : decode cX0_linesThat 5 = .ok (.aload_n 0, 1) := by decide +kernel
theorem d_cX0_linesThat_6 : decode cX0_linesThat 6 = .ok (.getfield 49, 3) := by decide +kernel
theorem d_cX0_linesThat_9 : decode cX0_linesThat 9 = .ok (.if_icmp .ge 27, 3) := by decide +kernel
theorem d_cX0_linesThat_36 : decode cX0_linesThat 36 = .ok (.iload_n 2, 1) := by decide +kernel
theorem d_cX0_linesThat_37 : decode cX0_linesThat 37 = .ok (.ireturn, 1) := by decide +kernel
theorem d_cX0_linesThat_12 : decode cX0_linesThat 12 = .ok (.iload_n 2, 1) := by decide +kernel
theorem d_cX0_linesThat_13 : decode cX0_linesThat 13 = .ok (.aload_n 0, 1) := by decide +kernel
theorem d_cX0_linesThat_14 : decode cX0_linesThat 14 = .ok (.getfield 27, 3) := by decide +kernel
theorem d_cX0_linesThat_17 : decode cX0_linesThat 17 = .ok (.iload_n 3, 1) := by decide +kernel
theorem d_cX0_linesThat_18 : decode cX0_linesThat 18 = .ok (.iaload, 1) := by decide +kernel
theorem d_cX0_linesThat_19 : decode cX0_linesThat 19 = .ok (.iload_n 1, 1) := by decide +kernel
theorem d_cX0_linesThat_20 : decode cX0_linesThat 20 = .ok (.if_icmp .ne 7, 3) := by decide +kernel
theorem d_cX0_linesThat_27 : decode cX0_linesThat 27 = .ok (.iconst 0, 1) := by decide +kernel
theorem d_cX0_linesThat_28 : decode cX0_linesThat 28 = .ok (.iadd, 1) := by decide +kernel
theorem d_cX0_linesThat_29 : decode cX0_linesThat 29 = .ok (.istore_n 2, 1) := by decide +kernel
theorem d_cX0_linesThat_30 : decode cX0_linesThat 30 = .ok (.iinc 3 1, 3) := by decide +kernel
theorem d_cX0_linesThat_33 : decode cX0_linesThat 33 = .ok (.goto (-29), 3) := by decide +kernel
theorem d_cX0_linesThat_23 : decode cX0_linesThat 23 = .ok (.iconst 1, 1) := by decide +kernel
theorem d_cX0_linesThat_24 : decode cX0_linesThat 24 = .ok (.goto 4, 3) := by decide +kernel
theorem d_cX0_copiesRegister_0 : decode cX0_copiesRegister 0 = .ok (.aload_n 0, 1) := by decide +kernel
theorem d_cX0_copiesRegister_1 : decode cX0_copiesRegister 1 = .ok (.getfield 27, 3) := by decide +kernel
theorem d_cX0_copiesRegister_4 : decode cX0_copiesRegister 4 = .ok (.iload_n 1, 1) := by decide +kernel
theorem d_cX0_copiesRegister_5 : decode cX0_copiesRegister 5 = .ok (.iaload, 1) := by decide +kernel
theorem d_cX0_copiesRegister_6 : decode cX0_copiesRegister 6 = .ok (.bipush 14, 2) := by decide +kernel
theorem d_cX0_copiesRegister_8 : decode cX0_copiesRegister 8 = .ok (.if_icmp .ne 25, 3) := by decide +kernel
theorem d_cX0_copiesRegister_33 : decode cX0_copiesRegister 33 = .ok (.iconst 0, 1) := by decide +kernel
theorem d_cX0_copiesRegister_34 : decode cX0_copiesRegister 34 = .ok (.ireturn, 1) := by decide +kernel
theorem d_cX0_copiesRegister_11 : decode cX0_copiesRegister 11 = .ok (.aload_n 0, 1) := by decide +kernel
theorem d_cX0_copiesRegister_12 : decode cX0_copiesRegister 12 = .ok (.getfield 30, 3) := by decide +kernel
theorem d_cX0_copiesRegister_15 : decode cX0_copiesRegister 15 = .ok (.iload_n 1, 1) := by decide +kernel
theorem d_cX0_copiesRegister_16 : decode cX0_copiesRegister 16 = .ok (.iaload, 1) := by decide +kernel
theorem d_cX0_copiesRegister_17 : decode cX0_copiesRegister 17 = .ok (.ifCond .lt 16, 3) := by decide +kernel
theorem d_cX0_copiesRegister_20 : decode cX0_copiesRegister 20 = .ok (.aload_n 0, 1) := by decide +kernel
theorem d_cX0_copiesRegister_21 : decode cX0_copiesRegister 21 = .ok (.getfield 33, 3) := by decide +kernel
theorem d_cX0_copiesRegister_24 : decode cX0_copiesRegister 24 = .ok (.iload_n 1, 1) := by decide +kernel
theorem d_cX0_copiesRegister_25 : decode cX0_copiesRegister 25 = .ok (.iaload, 1) := by decide +kernel
theorem d_cX0_copiesRegister_26 : decode cX0_copiesRegister 26 = .ok (.ifCond .lt 7, 3) := by decide +kernel
theorem d_cX0_copiesRegister_29 : decode cX0_copiesRegister 29 = .ok (.iconst 1, 1) := by decide +kernel
theorem d_cX0_copiesRegister_30 : decode cX0_copiesRegister 30 = .ok (.goto 4, 3) := by decide +kernel
theorem d_cX0_setBy_0 : decode cX0_setBy 0 = .ok (.iload_n 2, 1) := by decide +kernel
theorem d_cX0_setBy_1 : decode cX0_setBy 1 = .ok (.ifCond .eq 25, 3) := by decide +kernel
theorem d_cX0_setBy_26 : decode cX0_setBy 26 = .ok (.aload_n 0, 1) := by decide +kernel
theorem d_cX0_setBy_27 : decode cX0_setBy 27 = .ok (.getfield 30, 3) := by decide +kernel
theorem d_cX0_setBy_30 : decode cX0_setBy 30 = .ok (.iload_n 1, 1) := by decide +kernel
theorem d_cX0_setBy_31 : decode cX0_setBy 31 = .ok (.iaload, 1) := by decide +kernel
theorem d_cX0_setBy_32 : decode cX0_setBy 32 = .ok (.ireturn, 1) := by decide +kernel
theorem d_cX0_setBy_4 : decode cX0_setBy 4 = .ok (.aload_n 0, 1) := by decide +kernel
theorem d_cX0_setBy_5 : decode cX0_setBy 5 = .ok (.getfield 27, 3) := by decide +kernel
theorem d_cX0_setBy_8 : decode cX0_setBy 8 = .ok (.iload_n 1, 1) := by decide +kernel
theorem d_cX0_setBy_9 : decode cX0_setBy 9 = .ok (.iaload, 1) := by decide +kernel
theorem d_cX0_setBy_10 : decode cX0_setBy 10 = .ok (.bipush 18, 2) := by decide +kernel
theorem d_cX0_setBy_12 : decode cX0_setBy 12 = .ok (.if_icmp .ne 12, 3) := by decide +kernel
theorem d_cX0_setBy_24 : decode cX0_setBy 24 = .ok (.iconst (-1), 1) := by decide +kernel
theorem d_cX0_setBy_25 : decode cX0_setBy 25 = .ok (.ireturn, 1) := by decide +kernel
theorem d_cX0_setBy_15 : decode cX0_setBy 15 = .ok (.aload_n 0, 1) := by decide +kernel
theorem d_cX0_setBy_16 : decode cX0_setBy 16 = .ok (.getfield 42, 3) := by decide +kernel
theorem d_cX0_setBy_19 : decode cX0_setBy 19 = .ok (.iload_n 1, 1) := by decide +kernel
theorem d_cX0_setBy_20 : decode cX0_setBy 20 = .ok (.iaload, 1) := by decide +kernel
theorem d_cX0_setBy_21 : decode cX0_setBy 21 = .ok (.goto 4, 3) := by decide +kernel
theorem d_cX0_firstUse_0 : decode cX0_firstUse 0 = .ok (.iload_n 2, 1) := by decide +kernel
theorem d_cX0_firstUse_1 : decode cX0_firstUse 1 = .ok (.ifCond .eq 25, 3) := by decide +kernel
theorem d_cX0_firstUse_26 : decode cX0_firstUse 26 = .ok (.aload_n 0, 1) := by decide +kernel
theorem d_cX0_firstUse_27 : decode cX0_firstUse 27 = .ok (.getfield 33, 3) := by decide +kernel
theorem d_cX0_firstUse_30 : decode cX0_firstUse 30 = .ok (.iload_n 1, 1) := by decide +kernel
theorem d_cX0_firstUse_31 : decode cX0_firstUse 31 = .ok (.iaload, 1) := by decide +kernel
theorem d_cX0_firstUse_32 : decode cX0_firstUse 32 = .ok (.ireturn, 1) := by decide +kernel
theorem d_cX0_firstUse_4 : decode cX0_firstUse 4 = .ok (.aload_n 0, 1) := by decide +kernel
theorem d_cX0_firstUse_5 : decode cX0_firstUse 5 = .ok (.getfield 27, 3) := by decide +kernel
theorem d_cX0_firstUse_8 : decode cX0_firstUse 8 = .ok (.iload_n 1, 1) := by decide +kernel
theorem d_cX0_firstUse_9 : decode cX0_firstUse 9 = .ok (.iaload, 1) := by decide +kernel
theorem d_cX0_firstUse_10 : decode cX0_firstUse 10 = .ok (.bipush 17, 2) := by decide +kernel
theorem d_cX0_firstUse_12 : decode cX0_firstUse 12 = .ok (.if_icmp .ne 12, 3) := by decide +kernel
theorem d_cX0_firstUse_24 : decode cX0_firstUse 24 = .ok (.iconst (-1), 1) := by decide +kernel
theorem d_cX0_firstUse_25 : decode cX0_firstUse 25 = .ok (.ireturn, 1) := by decide +kernel
theorem d_cX0_firstUse_15 : decode cX0_firstUse 15 = .ok (.aload_n 0, 1) := by decide +kernel
theorem d_cX0_firstUse_16 : decode cX0_firstUse 16 = .ok (.getfield 42, 3) := by decide +kernel
theorem d_cX0_firstUse_19 : decode cX0_firstUse 19 = .ok (.iload_n 1, 1) := by decide +kernel
theorem d_cX0_firstUse_20 : decode cX0_firstUse 20 = .ok (.iaload, 1) := by decide +kernel
theorem d_cX0_firstUse_21 : decode cX0_firstUse 21 = .ok (.goto 4, 3) := by decide +kernel
theorem d_cX0_secondUse_0 : decode cX0_secondUse 0 = .ok (.iload_n 2, 1) := by decide +kernel
theorem d_cX0_secondUse_1 : decode cX0_secondUse 1 = .ok (.ifCond .eq 7, 3) := by decide +kernel
theorem d_cX0_secondUse_8 : decode cX0_secondUse 8 = .ok (.aload_n 0, 1) := by decide +kernel
theorem d_cX0_secondUse_9 : decode cX0_secondUse 9 = .ok (.getfield 39, 3) := by decide +kernel
theorem d_cX0_secondUse_12 : decode cX0_secondUse 12 = .ok (.iload_n 1, 1) := by decide +kernel
theorem d_cX0_secondUse_13 : decode cX0_secondUse 13 = .ok (.iaload, 1) := by decide +kernel
theorem d_cX0_secondUse_14 : decode cX0_secondUse 14 = .ok (.ireturn, 1) := by decide +kernel
theorem d_cX0_secondUse_4 : decode cX0_secondUse 4 = .ok (.iconst (-1), 1) := by decide +kernel
theorem d_cX0_secondUse_5 : decode cX0_secondUse 5 = .ok (.goto 9, 3) := by decide +kernel
theorem d_cJ7_fill_d0a16_0 : decode cJ7_fill_d0a16 0 = .ok (.iconst 0, 1) := by decide +kernel
theorem d_cJ7_fill_d0a16_1 : decode cJ7_fill_d0a16 1 = .ok (.istore_n 3, 1) := by decide +kernel
theorem d_cJ7_fill_d0a16_2 : decode cJ7_fill_d0a16 2 = .ok (.aload_n 0, 1) := by decide +kernel
theorem d_cJ7_fill_d0a16_3 : decode cJ7_fill_d0a16 3 = .ok (.arraylength, 1) := by decide +kernel
theorem d_cJ7_fill_d0a16_4 : decode cJ7_fill_d0a16 4 = .ok (.istore 4, 2) := by decide +kernel
theorem d_cJ7_fill_d0a16_6 : decode cJ7_fill_d0a16 6 = .ok (.iload_n 3, 1) := by decide +kernel
theorem d_cJ7_fill_d0a16_7 : decode cJ7_fill_d0a16 7 = .ok (.iload 4, 2) := by decide +kernel
theorem d_cJ7_fill_d0a16_9 : decode cJ7_fill_d0a16 9 = .ok (.if_icmp .ge 13, 3) := by decide +kernel
theorem d_cJ7_fill_d0a16_22 : decode cJ7_fill_d0a16 22 = .ok (.return_, 1) := by decide +kernel
theorem d_cJ7_fill_d0a16_12 : decode cJ7_fill_d0a16 12 = .ok (.aload_n 0, 1) := by decide +kernel
theorem d_cJ7_fill_d0a16_13 : decode cJ7_fill_d0a16 13 = .ok (.iload_n 3, 1) := by decide +kernel
theorem d_cJ7_fill_d0a16_14 : decode cJ7_fill_d0a16 14 = .ok (.lload_n 1, 1) := by decide +kernel
theorem d_cJ7_fill_d0a16_15 : decode cJ7_fill_d0a16 15 = .ok (.lastore, 1) := by decide +kernel
theorem d_cJ7_fill_d0a16_16 : decode cJ7_fill_d0a16 16 = .ok (.iinc 3 1, 3) := by decide +kernel
theorem d_cJ7_fill_d0a16_19 : decode cJ7_fill_d0a16 19 = .ok (.goto (-13), 3) := by decide +kernel
theorem d_cJ7_fill_53178_0 : decode cJ7_fill_53178 0 = .ok (.iconst 0, 1) := by decide +kernel
theorem d_cJ7_fill_53178_1 : decode cJ7_fill_53178 1 = .ok (.istore_n 2, 1) := by decide +kernel
theorem d_cJ7_fill_53178_2 : decode cJ7_fill_53178 2 = .ok (.aload_n 0, 1) := by decide +kernel
theorem d_cJ7_fill_53178_3 : decode cJ7_fill_53178 3 = .ok (.arraylength, 1) := by decide +kernel
theorem d_cJ7_fill_53178_4 : decode cJ7_fill_53178 4 = .ok (.istore_n 3, 1) := by decide +kernel
theorem d_cJ7_fill_53178_5 : decode cJ7_fill_53178 5 = .ok (.iload_n 2, 1) := by decide +kernel
theorem d_cJ7_fill_53178_6 : decode cJ7_fill_53178 6 = .ok (.iload_n 3, 1) := by decide +kernel
theorem d_cJ7_fill_53178_7 : decode cJ7_fill_53178 7 = .ok (.if_icmp .ge 13, 3) := by decide +kernel
theorem d_cJ7_fill_53178_20 : decode cJ7_fill_53178 20 = .ok (.return_, 1) := by decide +kernel
theorem d_cJ7_fill_53178_10 : decode cJ7_fill_53178 10 = .ok (.aload_n 0, 1) := by decide +kernel
theorem d_cJ7_fill_53178_11 : decode cJ7_fill_53178 11 = .ok (.iload_n 2, 1) := by decide +kernel
theorem d_cJ7_fill_53178_12 : decode cJ7_fill_53178 12 = .ok (.iload_n 1, 1) := by decide +kernel
theorem d_cJ7_fill_53178_13 : decode cJ7_fill_53178 13 = .ok (.iastore, 1) := by decide +kernel
theorem d_cJ7_fill_53178_14 : decode cJ7_fill_53178 14 = .ok (.iinc 2 1, 3) := by decide +kernel
theorem d_cJ7_fill_53178_17 : decode cJ7_fill_53178 17 = .ok (.goto (-12), 3) := by decide +kernel
abbrev ky_700_Code_clear : gKey := (cX0_clear, 1, yX0_clear.cls, none, [], yX0_clear.name, fun _ _ => True)
abbrev po_700_Code_clear (I : FieldType → ClassId) (q678 : Nat) (q679 : Nat) (q680 : Nat) (q681 : Nat) (q682 : Nat) (q683 : Nat) (q684 : Nat) (q685 : Nat) (q686 : Nat) (q687 : Nat) (p688 : Int32) (p689 : Int32) (p690 : Int32) (f691 : Nat → Int32) (f692 : Nat → Int32) (f693 : Nat → Int32) (f694 : Nat → Int32) (f695 : Nat → Int32) (f696 : Nat → Int32) (f697 : Nat → Int32) (f698 : Nat → Int32) (f699 : Nat → Int32) : Option Value → va_W → Prop := fun r w => ∃ (o701 : Int32) (o702 : Int32) (o703 : Int32), r = none ∧ w = [(q678, .inr (5, [.ref q679, .ref q680, .ref q681, .ref q682, .ref q683, .ref q684, .ref q685, .ref q686, .ref q687, .int o701, .int o702, .int o703])), (q679, .inl (I .int, 40, .inl f691)), (q680, .inl (I .int, 40, .inl f692)), (q681, .inl (I .int, 40, .inl f693)), (q682, .inl (I .int, 200, .inl f694)), (q683, .inl (I .int, 200, .inl f695)), (q684, .inl (I .int, 200, .inl f696)), (q685, .inl (I .int, 200, .inl f697)), (q686, .inl (I .int, 200, .inl f698)), (q687, .inl (I .int, 200, .inl f699))] ∧ gB o701 0 0 ∧ gB o702 0 0 ∧ gB o703 0 0
set_option maxRecDepth 100000 in
set_option maxHeartbeats 4000000 in
theorem ct_700_Code_clear (l : Launch) (hl0 : l.stackTraces = false) (D : va_G) (I : FieldType → ClassId) (q678 : Nat) (q679 : Nat) (q680 : Nat) (q681 : Nat) (q682 : Nat) (q683 : Nat) (q684 : Nat) (q685 : Nat) (q686 : Nat) (q687 : Nat) (p688 : Int32) (p689 : Int32) (p690 : Int32) (f691 : Nat → Int32) (f692 : Nat → Int32) (f693 : Nat → Int32) (f694 : Nat → Int32) (f695 : Nat → Int32) (f696 : Nat → Int32) (f697 : Nat → Int32) (f698 : Nat → Int32) (f699 : Nat → Int32) (bp688 : gB p688 0 40) (bp689 : gB p689 0 200) (bp690 : gB p690 0 1) (bf691 : gF f691 0 200) (bf694 : gF f694 0 21) : Ct (gV D I) l yX0_clear cX0_clear 1 none 0 0 0 0 [.ref q678] [(q678, .inr (5, [.ref q679, .ref q680, .ref q681, .ref q682, .ref q683, .ref q684, .ref q685, .ref q686, .ref q687, .int p688, .int p689, .int p690])), (q679, .inl (I .int, 40, .inl f691)), (q680, .inl (I .int, 40, .inl f692)), (q681, .inl (I .int, 40, .inl f693)), (q682, .inl (I .int, 200, .inl f694)), (q683, .inl (I .int, 200, .inl f695)), (q684, .inl (I .int, 200, .inl f696)), (q685, .inl (I .int, 200, .inl f697)), (q686, .inl (I .int, 200, .inl f698)), (q687, .inl (I .int, 200, .inl f699))] (po_700_Code_clear I q678 q679 q680 q681 q682 q683 q684 q685 q686 q687 p688 p689 p690 f691 f692 f693 f694 f695 f696 f697 f698 f699) gN := by
  refine Ct_of hl0 (by decide) (Nat.le_of_ble_eq_true rfl) ?_
  refine G_aload_n 0 d_cX0_clear_0 rfl ?_
  refine G_iconst 0 d_cX0_clear_1 (by decide +kernel) ?_
  refine G_putf (ws' := [(q678, .inr (5, [.ref q679, .ref q680, .ref q681, .ref q682, .ref q683, .ref q684, .ref q685, .ref q686, .ref q687, .int 0, .int p689, .int p690])), (q679, .inl (I .int, 40, .inl f691)), (q680, .inl (I .int, 40, .inl f692)), (q681, .inl (I .int, 40, .inl f693)), (q682, .inl (I .int, 200, .inl f694)), (q683, .inl (I .int, 200, .inl f695)), (q684, .inl (I .int, 200, .inl f696)), (q685, .inl (I .int, 200, .inl f697)), (q686, .inl (I .int, 200, .inl f698)), (q687, .inl (I .int, 200, .inl f699))]) 0 9 d_cX0_clear_2 rfl (gk_X0 D I) (Nat.le_of_ble_eq_true rfl) w_1_187 rfl rfl rfl (Nat.le_of_ble_eq_true rfl) rfl ?_
  refine G_aload_n 0 d_cX0_clear_5 rfl ?_
  refine G_iconst 0 d_cX0_clear_6 (by decide +kernel) ?_
  refine G_putf (ws' := [(q678, .inr (5, [.ref q679, .ref q680, .ref q681, .ref q682, .ref q683, .ref q684, .ref q685, .ref q686, .ref q687, .int 0, .int 0, .int p690])), (q679, .inl (I .int, 40, .inl f691)), (q680, .inl (I .int, 40, .inl f692)), (q681, .inl (I .int, 40, .inl f693)), (q682, .inl (I .int, 200, .inl f694)), (q683, .inl (I .int, 200, .inl f695)), (q684, .inl (I .int, 200, .inl f696)), (q685, .inl (I .int, 200, .inl f697)), (q686, .inl (I .int, 200, .inl f698)), (q687, .inl (I .int, 200, .inl f699))]) 0 10 d_cX0_clear_7 rfl (gk_X0 D I) (Nat.le_of_ble_eq_true rfl) w_1_197 rfl rfl rfl (Nat.le_of_ble_eq_true rfl) rfl ?_
  refine G_aload_n 0 d_cX0_clear_10 rfl ?_
  refine G_iconst 0 d_cX0_clear_11 (by decide +kernel) ?_
  refine G_putf (ws' := [(q678, .inr (5, [.ref q679, .ref q680, .ref q681, .ref q682, .ref q683, .ref q684, .ref q685, .ref q686, .ref q687, .int 0, .int 0, .int 0])), (q679, .inl (I .int, 40, .inl f691)), (q680, .inl (I .int, 40, .inl f692)), (q681, .inl (I .int, 40, .inl f693)), (q682, .inl (I .int, 200, .inl f694)), (q683, .inl (I .int, 200, .inl f695)), (q684, .inl (I .int, 200, .inl f696)), (q685, .inl (I .int, 200, .inl f697)), (q686, .inl (I .int, 200, .inl f698)), (q687, .inl (I .int, 200, .inl f699))]) 0 11 d_cX0_clear_12 rfl (gk_X0 D I) (Nat.le_of_ble_eq_true rfl) w_1_200 rfl rfl rfl (Nat.le_of_ble_eq_true rfl) rfl ?_
  exact G_vret d_cX0_clear_15 rfl (Nat.le_of_ble_eq_true rfl) (Nat.le_of_ble_eq_true rfl) ⟨0, 0, 0, rfl, rfl, (gBl (show Int32.toInt 0 = 0 by decide)), (gBl (show Int32.toInt 0 = 0 by decide)), (gBl (show Int32.toInt 0 = 0 by decide))⟩
abbrev ky_726_Code_rows : gKey := (cX0_rows, 1, yX0_rows.cls, (some FieldType.int), [], yX0_rows.name, fun _ _ => True)
abbrev po_726_Code_rows (I : FieldType → ClassId) (q704 : Nat) (q705 : Nat) (q706 : Nat) (q707 : Nat) (q708 : Nat) (q709 : Nat) (q710 : Nat) (q711 : Nat) (q712 : Nat) (q713 : Nat) (p714 : Int32) (p715 : Int32) (p716 : Int32) (f717 : Nat → Int32) (f718 : Nat → Int32) (f719 : Nat → Int32) (f720 : Nat → Int32) (f721 : Nat → Int32) (f722 : Nat → Int32) (f723 : Nat → Int32) (f724 : Nat → Int32) (f725 : Nat → Int32) : Option Value → va_W → Prop := fun r w => ∃ (o728 : Int32), r = some (.int o728) ∧ w = [(q704, .inr (5, [.ref q705, .ref q706, .ref q707, .ref q708, .ref q709, .ref q710, .ref q711, .ref q712, .ref q713, .int p714, .int p715, .int p716])), (q705, .inl (I .int, 40, .inl f717)), (q706, .inl (I .int, 40, .inl f718)), (q707, .inl (I .int, 40, .inl f719)), (q708, .inl (I .int, 200, .inl f720)), (q709, .inl (I .int, 200, .inl f721)), (q710, .inl (I .int, 200, .inl f722)), (q711, .inl (I .int, 200, .inl f723)), (q712, .inl (I .int, 200, .inl f724)), (q713, .inl (I .int, 200, .inl f725))] ∧ gB o728 (-40) 200
set_option maxRecDepth 100000 in
set_option maxHeartbeats 4000000 in
theorem ct_726_Code_rows (l : Launch) (hl0 : l.stackTraces = false) (D : va_G) (I : FieldType → ClassId) (q704 : Nat) (q705 : Nat) (q706 : Nat) (q707 : Nat) (q708 : Nat) (q709 : Nat) (q710 : Nat) (q711 : Nat) (q712 : Nat) (q713 : Nat) (p714 : Int32) (p715 : Int32) (p716 : Int32) (f717 : Nat → Int32) (f718 : Nat → Int32) (f719 : Nat → Int32) (f720 : Nat → Int32) (f721 : Nat → Int32) (f722 : Nat → Int32) (f723 : Nat → Int32) (f724 : Nat → Int32) (f725 : Nat → Int32) (bp714 : gB p714 0 40) (bp715 : gB p715 0 200) (bp716 : gB p716 0 1) (bf717 : gF f717 0 200) (bf720 : gF f720 0 21) : Ct (gV D I) l yX0_rows cX0_rows 1 (some FieldType.int) 0 0 0 0 [.ref q704] [(q704, .inr (5, [.ref q705, .ref q706, .ref q707, .ref q708, .ref q709, .ref q710, .ref q711, .ref q712, .ref q713, .int p714, .int p715, .int p716])), (q705, .inl (I .int, 40, .inl f717)), (q706, .inl (I .int, 40, .inl f718)), (q707, .inl (I .int, 40, .inl f719)), (q708, .inl (I .int, 200, .inl f720)), (q709, .inl (I .int, 200, .inl f721)), (q710, .inl (I .int, 200, .inl f722)), (q711, .inl (I .int, 200, .inl f723)), (q712, .inl (I .int, 200, .inl f724)), (q713, .inl (I .int, 200, .inl f725))] (po_726_Code_rows I q704 q705 q706 q707 q708 q709 q710 q711 q712 q713 p714 p715 p716 f717 f718 f719 f720 f721 f722 f723 f724 f725) gN := by
  refine Ct_of hl0 (by decide) (Nat.le_of_ble_eq_true rfl) ?_
  refine G_aload_n 0 d_cX0_rows_0 rfl ?_
  refine G_getf 0 10 d_cX0_rows_1 rfl (gk_X0 D I) (Nat.le_of_ble_eq_true rfl) w_1_197 rfl ?_
  refine G_aload_n 0 d_cX0_rows_4 rfl ?_
  refine G_getf 0 9 d_cX0_rows_5 rfl (gk_X0 D I) (Nat.le_of_ble_eq_true rfl) w_1_187 rfl ?_
  refine G_isub d_cX0_rows_8 (G_nam fun z727 hz727 => ?_)
  have ez727 : z727.toInt = p715.toInt - p714.toInt := by rw [gI_sub hz727 bp715 bp714 (by decide) (by decide)]
  have bz727 : gB z727 (-40) 200 := gB_sub (gI_sub hz727 bp715 bp714 (by decide) (by decide)) bp715 bp714 (by decide) (by decide)
  exact G_iret d_cX0_rows_9 rfl (Nat.le_of_ble_eq_true rfl) (Nat.le_of_ble_eq_true rfl) ⟨z727, rfl, rfl, bz727⟩
abbrev ky_752_Code_blockEnd : gKey := (cX0_blockEnd, 2, yX0_blockEnd.cls, (some FieldType.int), [], yX0_blockEnd.name, fun _ _ => True)
abbrev po_752_Code_blockEnd (I : FieldType → ClassId) (q729 : Nat) (q730 : Nat) (q731 : Nat) (q732 : Nat) (q733 : Nat) (q734 : Nat) (q735 : Nat) (q736 : Nat) (q737 : Nat) (q738 : Nat) (p739 : Int32) (p740 : Int32) (p741 : Int32) (p742 : Int32) (f743 : Nat → Int32) (f744 : Nat → Int32) (f745 : Nat → Int32) (f746 : Nat → Int32) (f747 : Nat → Int32) (f748 : Nat → Int32) (f749 : Nat → Int32) (f750 : Nat → Int32) (f751 : Nat → Int32) : Option Value → va_W → Prop := fun r w => (∃ (z753 : Int32), r = some (.int p741) ∧ w = [(q729, .inr (5, [.ref q730, .ref q731, .ref q732, .ref q733, .ref q734, .ref q735, .ref q736, .ref q737, .ref q738, .int p740, .int p741, .int p742])), (q730, .inl (I .int, 40, .inl f743)), (q731, .inl (I .int, 40, .inl f744)), (q732, .inl (I .int, 40, .inl f745)), (q733, .inl (I .int, 200, .inl f746)), (q734, .inl (I .int, 200, .inl f747)), (q735, .inl (I .int, 200, .inl f748)), (q736, .inl (I .int, 200, .inl f749)), (q737, .inl (I .int, 200, .inl f750)), (q738, .inl (I .int, 200, .inl f751))] ∧ z753.toInt = p739.toInt + 1 ∧ p740.toInt ≤ z753.toInt ∧ gB z753 1 40) ∨ (∃ (z758 : Int32) (z753 : Int32) (z757 : Int32), r = some (.int z758) ∧ w = [(q729, .inr (5, [.ref q730, .ref q731, .ref q732, .ref q733, .ref q734, .ref q735, .ref q736, .ref q737, .ref q738, .int p740, .int p741, .int p742])), (q730, .inl (I .int, 40, .inl f743)), (q731, .inl (I .int, 40, .inl f744)), (q732, .inl (I .int, 40, .inl f745)), (q733, .inl (I .int, 200, .inl f746)), (q734, .inl (I .int, 200, .inl f747)), (q735, .inl (I .int, 200, .inl f748)), (q736, .inl (I .int, 200, .inl f749)), (q737, .inl (I .int, 200, .inl f750)), (q738, .inl (I .int, 200, .inl f751))] ∧ z753.toInt = p739.toInt + 1 ∧ z753.toInt < p740.toInt ∧ z757.toInt = p739.toInt + 1 ∧ z758 = f743 z757.toNatClampNeg ∧ gB z758 0 200 ∧ gB z753 1 39 ∧ gB z757 1 40)
set_option maxRecDepth 100000 in
set_option maxHeartbeats 4000000 in
theorem ct_752_Code_blockEnd (l : Launch) (hl0 : l.stackTraces = false) (D : va_G) (I : FieldType → ClassId) (q729 : Nat) (q730 : Nat) (q731 : Nat) (q732 : Nat) (q733 : Nat) (q734 : Nat) (q735 : Nat) (q736 : Nat) (q737 : Nat) (q738 : Nat) (p739 : Int32) (p740 : Int32) (p741 : Int32) (p742 : Int32) (f743 : Nat → Int32) (f744 : Nat → Int32) (f745 : Nat → Int32) (f746 : Nat → Int32) (f747 : Nat → Int32) (f748 : Nat → Int32) (f749 : Nat → Int32) (f750 : Nat → Int32) (f751 : Nat → Int32) (bp739 : gB p739 0 39) (bp740 : gB p740 0 40) (bp741 : gB p741 0 200) (bp742 : gB p742 0 1) (bf743 : gF f743 0 200) (bf746 : gF f746 0 21) : Ct (gV D I) l yX0_blockEnd cX0_blockEnd 2 (some FieldType.int) 0 0 0 0 [.ref q729, .int p739] [(q729, .inr (5, [.ref q730, .ref q731, .ref q732, .ref q733, .ref q734, .ref q735, .ref q736, .ref q737, .ref q738, .int p740, .int p741, .int p742])), (q730, .inl (I .int, 40, .inl f743)), (q731, .inl (I .int, 40, .inl f744)), (q732, .inl (I .int, 40, .inl f745)), (q733, .inl (I .int, 200, .inl f746)), (q734, .inl (I .int, 200, .inl f747)), (q735, .inl (I .int, 200, .inl f748)), (q736, .inl (I .int, 200, .inl f749)), (q737, .inl (I .int, 200, .inl f750)), (q738, .inl (I .int, 200, .inl f751))] (po_752_Code_blockEnd I q729 q730 q731 q732 q733 q734 q735 q736 q737 q738 p739 p740 p741 p742 f743 f744 f745 f746 f747 f748 f749 f750 f751) gN := by
  refine Ct_of hl0 (by decide) (Nat.le_of_ble_eq_true rfl) ?_
  refine G_iload_n 1 d_cX0_blockEnd_0 rfl ?_
  refine G_iconst 1 d_cX0_blockEnd_1 (by decide +kernel) ?_
  refine G_iadd d_cX0_blockEnd_2 (G_nam fun z753 hz753 => ?_)
  have ez753 : z753.toInt = p739.toInt + 1 := by rw [gI_add hz753 bp739 (gBl (show Int32.toInt 1 = 1 by decide)) (by decide) (by decide), show Int32.toInt 1 = 1 from by decide]
  have bz753 : gB z753 1 40 := gB_add (gI_add hz753 bp739 (gBl (show Int32.toInt 1 = 1 by decide)) (by decide) (by decide)) bp739 (gBl (show Int32.toInt 1 = 1 by decide)) (by decide) (by decide)
  refine G_aload_n 0 d_cX0_blockEnd_3 rfl ?_
  refine G_getf 0 9 d_cX0_blockEnd_4 rfl (gk_X0 D I) (Nat.le_of_ble_eq_true rfl) w_1_187 rfl ?_
  refine G_icmp_ge 21 d_cX0_blockEnd_7 (by decide +kernel) (fun hc754 => ?_) (fun hc754 => ?_)
  · have r755 : p740.toInt ≤ z753.toInt := gC_le hc754
    refine G_aload_n 0 d_cX0_blockEnd_21 rfl ?_
    refine G_getf 0 10 d_cX0_blockEnd_22 rfl (gk_X0 D I) (Nat.le_of_ble_eq_true rfl) w_1_197 rfl ?_
    exact G_iret d_cX0_blockEnd_25 rfl (Nat.le_of_ble_eq_true rfl) (Nat.le_of_ble_eq_true rfl) (Or.inl ⟨z753, rfl, rfl, ez753, r755, bz753⟩)
  · have r756 : z753.toInt < p740.toInt := gC_nle hc754
    have bz753' : gB z753 1 39 := ⟨by omega, by omega⟩
    have bp740' : gB p740 2 40 := ⟨by omega, by omega⟩
    refine G_aload_n 0 d_cX0_blockEnd_10 rfl ?_
    refine G_getf 0 0 d_cX0_blockEnd_11 rfl (gk_X0 D I) (Nat.le_of_ble_eq_true rfl) w_1_142 rfl ?_
    refine G_iload_n 1 d_cX0_blockEnd_14 rfl ?_
    refine G_iconst 1 d_cX0_blockEnd_15 (by decide +kernel) ?_
    refine G_iadd d_cX0_blockEnd_16 (G_nam fun z757 hz757 => ?_)
    have ez757 : z757.toInt = p739.toInt + 1 := by rw [gI_add hz757 bp739 (gBl (show Int32.toInt 1 = 1 by decide)) (by decide) (by decide), show Int32.toInt 1 = 1 from by decide]
    have bz757 : gB z757 1 40 := gB_add (gI_add hz757 bp739 (gBl (show Int32.toInt 1 = 1 by decide)) (by decide) (by decide)) bp739 (gBl (show Int32.toInt 1 = 1 by decide)) (by decide) (by decide)
    refine G_iald 1 0 d_cX0_blockEnd_17 rfl rfl (gB_inr (by omega) (by omega)) (G_nam fun z758 hz758 => ?_)
    have bz758 : gB z758 0 200 := by rw [hz758]; exact bf743 _
    refine G_goto 25 d_cX0_blockEnd_18 (by decide +kernel) ?_
    exact G_iret d_cX0_blockEnd_25 rfl (Nat.le_of_ble_eq_true rfl) (Nat.le_of_ble_eq_true rfl) (Or.inr (⟨z758, z753, z757, rfl, rfl, ez753, r756, ez757, hz758, bz758, bz753', bz757⟩))
abbrev ky_783_Code_goal : gKey := (cX0_goal, 3, yX0_goal.cls, (some FieldType.int), [], yX0_goal.name, fun _ _ => True)
abbrev po_783_Code_goal (I : FieldType → ClassId) (q759 : Nat) (q760 : Nat) (q761 : Nat) (q762 : Nat) (q763 : Nat) (q764 : Nat) (q765 : Nat) (q766 : Nat) (q767 : Nat) (q768 : Nat) (p769 : Int32) (p770 : Int32) (p771 : Int32) (p772 : Int32) (p773 : Int32) (f774 : Nat → Int32) (f775 : Nat → Int32) (f776 : Nat → Int32) (f777 : Nat → Int32) (f778 : Nat → Int32) (f779 : Nat → Int32) (f780 : Nat → Int32) (f781 : Nat → Int32) (f782 : Nat → Int32) : Option Value → va_W → Prop := fun r w => (∃ (z786 : Int32), r = some (.int z786) ∧ w = [(q759, .inr (5, [.ref q760, .ref q761, .ref q762, .ref q763, .ref q764, .ref q765, .ref q766, .ref q767, .ref q768, .int p771, .int p772, .int p773])), (q760, .inl (I .int, 40, .inl f774)), (q761, .inl (I .int, 40, .inl f775)), (q762, .inl (I .int, 40, .inl f776)), (q763, .inl (I .int, 200, .inl f777)), (q764, .inl (I .int, 200, .inl f778)), (q765, .inl (I .int, 200, .inl f779)), (q766, .inl (I .int, 200, .inl f780)), (q767, .inl (I .int, 200, .inl f781)), (q768, .inl (I .int, 200, .inl f782))] ∧ p770.toInt ≠ 0 ∧ z786 = f776 p769.toNatClampNeg ∧ gB z786 (-2147483648) 2147483647) ∨ (∃ (z788 : Int32), r = some (.int z788) ∧ w = [(q759, .inr (5, [.ref q760, .ref q761, .ref q762, .ref q763, .ref q764, .ref q765, .ref q766, .ref q767, .ref q768, .int p771, .int p772, .int p773])), (q760, .inl (I .int, 40, .inl f774)), (q761, .inl (I .int, 40, .inl f775)), (q762, .inl (I .int, 40, .inl f776)), (q763, .inl (I .int, 200, .inl f777)), (q764, .inl (I .int, 200, .inl f778)), (q765, .inl (I .int, 200, .inl f779)), (q766, .inl (I .int, 200, .inl f780)), (q767, .inl (I .int, 200, .inl f781)), (q768, .inl (I .int, 200, .inl f782))] ∧ p770.toInt = 0 ∧ z788 = f775 p769.toNatClampNeg ∧ gB z788 (-2147483648) 2147483647)
set_option maxRecDepth 100000 in
set_option maxHeartbeats 4000000 in
theorem ct_783_Code_goal (l : Launch) (hl0 : l.stackTraces = false) (D : va_G) (I : FieldType → ClassId) (q759 : Nat) (q760 : Nat) (q761 : Nat) (q762 : Nat) (q763 : Nat) (q764 : Nat) (q765 : Nat) (q766 : Nat) (q767 : Nat) (q768 : Nat) (p769 : Int32) (p770 : Int32) (p771 : Int32) (p772 : Int32) (p773 : Int32) (f774 : Nat → Int32) (f775 : Nat → Int32) (f776 : Nat → Int32) (f777 : Nat → Int32) (f778 : Nat → Int32) (f779 : Nat → Int32) (f780 : Nat → Int32) (f781 : Nat → Int32) (f782 : Nat → Int32) (bp769 : gB p769 0 39) (bp771 : gB p771 0 40) (bp772 : gB p772 0 200) (bp773 : gB p773 0 1) (bf774 : gF f774 0 200) (bf777 : gF f777 0 21) : Ct (gV D I) l yX0_goal cX0_goal 3 (some FieldType.int) 0 0 0 0 [.ref q759, .int p769, .int p770] [(q759, .inr (5, [.ref q760, .ref q761, .ref q762, .ref q763, .ref q764, .ref q765, .ref q766, .ref q767, .ref q768, .int p771, .int p772, .int p773])), (q760, .inl (I .int, 40, .inl f774)), (q761, .inl (I .int, 40, .inl f775)), (q762, .inl (I .int, 40, .inl f776)), (q763, .inl (I .int, 200, .inl f777)), (q764, .inl (I .int, 200, .inl f778)), (q765, .inl (I .int, 200, .inl f779)), (q766, .inl (I .int, 200, .inl f780)), (q767, .inl (I .int, 200, .inl f781)), (q768, .inl (I .int, 200, .inl f782))] (po_783_Code_goal I q759 q760 q761 q762 q763 q764 q765 q766 q767 q768 p769 p770 p771 p772 p773 f774 f775 f776 f777 f778 f779 f780 f781 f782) gN := by
  refine Ct_of hl0 (by decide) (Nat.le_of_ble_eq_true rfl) ?_
  have bp770 := gB_any p770
  refine G_iload_n 2 d_cX0_goal_0 rfl ?_
  refine G_if_ne 13 d_cX0_goal_1 (by decide +kernel) (fun hc784 => ?_) (fun hc784 => ?_)
  · have r785 : p770.toInt ≠ 0 := gj_neq hc784 (show Int32.toInt 0 = 0 by decide)
    refine G_aload_n 0 d_cX0_goal_13 rfl ?_
    refine G_getf 0 2 d_cX0_goal_14 rfl (gk_X0 D I) (Nat.le_of_ble_eq_true rfl) w_1_154 rfl ?_
    refine G_iload_n 1 d_cX0_goal_17 rfl ?_
    refine G_iald 3 0 d_cX0_goal_18 rfl rfl (gB_in bp769 (by decide) (by decide)) (G_nam fun z786 hz786 => ?_)
    have bz786 : gB z786 (-2147483648) 2147483647 := gB_any z786
    exact G_iret d_cX0_goal_19 rfl (Nat.le_of_ble_eq_true rfl) (Nat.le_of_ble_eq_true rfl) (Or.inl ⟨z786, rfl, rfl, r785, hz786, bz786⟩)
  · have r787 : p770.toInt = 0 := gj_eq hc784 (show Int32.toInt 0 = 0 by decide)
    have bp770' : gB p770 0 0 := ⟨by omega, by omega⟩
    refine G_aload_n 0 d_cX0_goal_4 rfl ?_
    refine G_getf 0 1 d_cX0_goal_5 rfl (gk_X0 D I) (Nat.le_of_ble_eq_true rfl) w_1_149 rfl ?_
    refine G_iload_n 1 d_cX0_goal_8 rfl ?_
    refine G_iald 2 0 d_cX0_goal_9 rfl rfl (gB_in bp769 (by decide) (by decide)) (G_nam fun z788 hz788 => ?_)
    have bz788 : gB z788 (-2147483648) 2147483647 := gB_any z788
    refine G_goto 19 d_cX0_goal_10 (by decide +kernel) ?_
    exact G_iret d_cX0_goal_19 rfl (Nat.le_of_ble_eq_true rfl) (Nat.le_of_ble_eq_true rfl) (Or.inr (⟨z788, rfl, rfl, r787, hz788, bz788⟩))
abbrev ky_811_Code_openBlock : gKey := (cX0_openBlock, 1, yX0_openBlock.cls, (some FieldType.boolean), [], yX0_openBlock.name, fun _ _ => True)
abbrev po_811_Code_openBlock (I : FieldType → ClassId) (q789 : Nat) (q790 : Nat) (q791 : Nat) (q792 : Nat) (q793 : Nat) (q794 : Nat) (q795 : Nat) (q796 : Nat) (q797 : Nat) (q798 : Nat) (p799 : Int32) (p800 : Int32) (p801 : Int32) (f802 : Nat → Int32) (f803 : Nat → Int32) (f804 : Nat → Int32) (f805 : Nat → Int32) (f806 : Nat → Int32) (f807 : Nat → Int32) (f808 : Nat → Int32) (f809 : Nat → Int32) (f810 : Nat → Int32) : Option Value → va_W → Prop := fun r w => ∃ (o823 : Int32) (o819 : Int32) (f820 : Nat → Int32) (f821 : Nat → Int32) (f822 : Nat → Int32), r = some (.int o823) ∧ w = [(q789, .inr (5, [.ref q790, .ref q791, .ref q792, .ref q793, .ref q794, .ref q795, .ref q796, .ref q797, .ref q798, .int o819, .int p800, .int p801])), (q790, .inl (I .int, 40, .inl f820)), (q791, .inl (I .int, 40, .inl f821)), (q792, .inl (I .int, 40, .inl f822)), (q793, .inl (I .int, 200, .inl f805)), (q794, .inl (I .int, 200, .inl f806)), (q795, .inl (I .int, 200, .inl f807)), (q796, .inl (I .int, 200, .inl f808)), (q797, .inl (I .int, 200, .inl f809)), (q798, .inl (I .int, 200, .inl f810))] ∧ gB o823 0 1 ∧ gB o819 1 40 ∧ gF f820 0 200 ∧ gF f821 (-2147483648) 2147483647 ∧ gF f822 (-2147483648) 2147483647
set_option maxRecDepth 100000 in
set_option maxHeartbeats 4000000 in
theorem ct_811_Code_openBlock (l : Launch) (hl0 : l.stackTraces = false) (D : va_G) (I : FieldType → ClassId) (q789 : Nat) (q790 : Nat) (q791 : Nat) (q792 : Nat) (q793 : Nat) (q794 : Nat) (q795 : Nat) (q796 : Nat) (q797 : Nat) (q798 : Nat) (p799 : Int32) (p800 : Int32) (p801 : Int32) (f802 : Nat → Int32) (f803 : Nat → Int32) (f804 : Nat → Int32) (f805 : Nat → Int32) (f806 : Nat → Int32) (f807 : Nat → Int32) (f808 : Nat → Int32) (f809 : Nat → Int32) (f810 : Nat → Int32) (bp799 : gB p799 0 40) (bp800 : gB p800 0 200) (bp801 : gB p801 0 1) (bf802 : gF f802 0 200) (bf805 : gF f805 0 21) : Ct (gV D I) l yX0_openBlock cX0_openBlock 1 (some FieldType.boolean) 0 0 0 0 [.ref q789] [(q789, .inr (5, [.ref q790, .ref q791, .ref q792, .ref q793, .ref q794, .ref q795, .ref q796, .ref q797, .ref q798, .int p799, .int p800, .int p801])), (q790, .inl (I .int, 40, .inl f802)), (q791, .inl (I .int, 40, .inl f803)), (q792, .inl (I .int, 40, .inl f804)), (q793, .inl (I .int, 200, .inl f805)), (q794, .inl (I .int, 200, .inl f806)), (q795, .inl (I .int, 200, .inl f807)), (q796, .inl (I .int, 200, .inl f808)), (q797, .inl (I .int, 200, .inl f809)), (q798, .inl (I .int, 200, .inl f810))] (po_811_Code_openBlock I q789 q790 q791 q792 q793 q794 q795 q796 q797 q798 p799 p800 p801 f802 f803 f804 f805 f806 f807 f808 f809 f810) gN := by
  refine Ct_of hl0 (by decide) (Nat.le_of_ble_eq_true rfl) ?_
  refine G_aload_n 0 d_cX0_openBlock_0 rfl ?_
  refine G_getf 0 9 d_cX0_openBlock_1 rfl (gk_X0 D I) (Nat.le_of_ble_eq_true rfl) w_1_187 rfl ?_
  refine G_bipush 40 d_cX0_openBlock_4 (by decide +kernel) ?_
  refine G_icmp_lt 11 d_cX0_openBlock_6 (by decide +kernel) (fun hc812 => ?_) (fun hc812 => ?_)
  · have r813 : p799.toInt < 40 := gj_lt hc812 (show Int32.toInt 40 = 40 by decide)
    have bp799' : gB p799 0 39 := ⟨by omega, by omega⟩
    refine G_aload_n 0 d_cX0_openBlock_11 rfl ?_
    refine G_getf 0 0 d_cX0_openBlock_12 rfl (gk_X0 D I) (Nat.le_of_ble_eq_true rfl) w_1_142 rfl ?_
    refine G_aload_n 0 d_cX0_openBlock_15 rfl ?_
    refine G_getf 0 9 d_cX0_openBlock_16 rfl (gk_X0 D I) (Nat.le_of_ble_eq_true rfl) w_1_187 rfl ?_
    refine G_aload_n 0 d_cX0_openBlock_19 rfl ?_
    refine G_getf 0 10 d_cX0_openBlock_20 rfl (gk_X0 D I) (Nat.le_of_ble_eq_true rfl) w_1_197 rfl ?_
    refine G_iastN 1 0 d_cX0_openBlock_23 rfl rfl (gB_in bp799' (by decide) (by decide)) (fun f814 hf814 => ?_)
    refine G_ws (ws' := [(q789, .inr (5, [.ref q790, .ref q791, .ref q792, .ref q793, .ref q794, .ref q795, .ref q796, .ref q797, .ref q798, .int p799, .int p800, .int p801])), (q790, .inl (I .int, 40, .inl f814)), (q791, .inl (I .int, 40, .inl f803)), (q792, .inl (I .int, 40, .inl f804)), (q793, .inl (I .int, 200, .inl f805)), (q794, .inl (I .int, 200, .inl f806)), (q795, .inl (I .int, 200, .inl f807)), (q796, .inl (I .int, 200, .inl f808)), (q797, .inl (I .int, 200, .inl f809)), (q798, .inl (I .int, 200, .inl f810))]) (cs' := 0) (sl' := 0) rfl rfl rfl ?_
    have bf814 : gF f814 0 200 := gF_upd hf814 bf802 bp800
    refine G_aload_n 0 d_cX0_openBlock_24 rfl ?_
    refine G_getf 0 1 d_cX0_openBlock_25 rfl (gk_X0 D I) (Nat.le_of_ble_eq_true rfl) w_1_149 rfl ?_
    refine G_aload_n 0 d_cX0_openBlock_28 rfl ?_
    refine G_getf 0 9 d_cX0_openBlock_29 rfl (gk_X0 D I) (Nat.le_of_ble_eq_true rfl) w_1_187 rfl ?_
    refine G_iconst (-1) d_cX0_openBlock_32 (by decide +kernel) ?_
    refine G_iastN 2 0 d_cX0_openBlock_33 rfl rfl (gB_in bp799' (by decide) (by decide)) (fun f815 hf815 => ?_)
    refine G_ws (ws' := [(q789, .inr (5, [.ref q790, .ref q791, .ref q792, .ref q793, .ref q794, .ref q795, .ref q796, .ref q797, .ref q798, .int p799, .int p800, .int p801])), (q790, .inl (I .int, 40, .inl f814)), (q791, .inl (I .int, 40, .inl f815)), (q792, .inl (I .int, 40, .inl f804)), (q793, .inl (I .int, 200, .inl f805)), (q794, .inl (I .int, 200, .inl f806)), (q795, .inl (I .int, 200, .inl f807)), (q796, .inl (I .int, 200, .inl f808)), (q797, .inl (I .int, 200, .inl f809)), (q798, .inl (I .int, 200, .inl f810))]) (cs' := 0) (sl' := 0) rfl rfl rfl ?_
    refine G_aload_n 0 d_cX0_openBlock_34 rfl ?_
    refine G_getf 0 2 d_cX0_openBlock_35 rfl (gk_X0 D I) (Nat.le_of_ble_eq_true rfl) w_1_154 rfl ?_
    refine G_aload_n 0 d_cX0_openBlock_38 rfl ?_
    refine G_getf 0 9 d_cX0_openBlock_39 rfl (gk_X0 D I) (Nat.le_of_ble_eq_true rfl) w_1_187 rfl ?_
    refine G_iconst (-1) d_cX0_openBlock_42 (by decide +kernel) ?_
    refine G_iastN 3 0 d_cX0_openBlock_43 rfl rfl (gB_in bp799' (by decide) (by decide)) (fun f816 hf816 => ?_)
    refine G_ws (ws' := [(q789, .inr (5, [.ref q790, .ref q791, .ref q792, .ref q793, .ref q794, .ref q795, .ref q796, .ref q797, .ref q798, .int p799, .int p800, .int p801])), (q790, .inl (I .int, 40, .inl f814)), (q791, .inl (I .int, 40, .inl f815)), (q792, .inl (I .int, 40, .inl f816)), (q793, .inl (I .int, 200, .inl f805)), (q794, .inl (I .int, 200, .inl f806)), (q795, .inl (I .int, 200, .inl f807)), (q796, .inl (I .int, 200, .inl f808)), (q797, .inl (I .int, 200, .inl f809)), (q798, .inl (I .int, 200, .inl f810))]) (cs' := 0) (sl' := 0) rfl rfl rfl ?_
    refine G_aload_n 0 d_cX0_openBlock_44 rfl ?_
    refine G_dup d_cX0_openBlock_45 rfl ?_
    refine G_getf 0 9 d_cX0_openBlock_46 rfl (gk_X0 D I) (Nat.le_of_ble_eq_true rfl) w_1_187 rfl ?_
    refine G_iconst 1 d_cX0_openBlock_49 (by decide +kernel) ?_
    refine G_iadd d_cX0_openBlock_50 (G_nam fun z817 hz817 => ?_)
    have ez817 : z817.toInt = p799.toInt + 1 := by rw [gI_add hz817 bp799' (gBl (show Int32.toInt 1 = 1 by decide)) (by decide) (by decide), show Int32.toInt 1 = 1 from by decide]
    have bz817 : gB z817 1 40 := gB_add (gI_add hz817 bp799' (gBl (show Int32.toInt 1 = 1 by decide)) (by decide) (by decide)) bp799' (gBl (show Int32.toInt 1 = 1 by decide)) (by decide) (by decide)
    refine G_putf (ws' := [(q789, .inr (5, [.ref q790, .ref q791, .ref q792, .ref q793, .ref q794, .ref q795, .ref q796, .ref q797, .ref q798, .int z817, .int p800, .int p801])), (q790, .inl (I .int, 40, .inl f814)), (q791, .inl (I .int, 40, .inl f815)), (q792, .inl (I .int, 40, .inl f816)), (q793, .inl (I .int, 200, .inl f805)), (q794, .inl (I .int, 200, .inl f806)), (q795, .inl (I .int, 200, .inl f807)), (q796, .inl (I .int, 200, .inl f808)), (q797, .inl (I .int, 200, .inl f809)), (q798, .inl (I .int, 200, .inl f810))]) 0 9 d_cX0_openBlock_51 rfl (gk_X0 D I) (Nat.le_of_ble_eq_true rfl) w_1_187 rfl rfl rfl (Nat.le_of_ble_eq_true rfl) rfl ?_
    refine G_iconst 1 d_cX0_openBlock_54 (by decide +kernel) ?_
    exact G_zret FieldType.boolean d_cX0_openBlock_55 rfl rfl (Nat.le_of_ble_eq_true rfl) (Nat.le_of_ble_eq_true rfl) ⟨1, z817, f814, f815, f816, rfl, rfl, (gB_w (gBl (show Int32.toInt 1 = 1 by decide)) (by decide) (by decide)), bz817, bf814, (gF_any f815), (gF_any f816)⟩
  · have r818 : 40 ≤ p799.toInt := gj_nlt hc812 (show Int32.toInt 40 = 40 by decide)
    have bp799' : gB p799 40 40 := ⟨by omega, by omega⟩
    refine G_iconst 0 d_cX0_openBlock_9 (by decide +kernel) ?_
    exact G_zret FieldType.boolean d_cX0_openBlock_10 rfl rfl (Nat.le_of_ble_eq_true rfl) (Nat.le_of_ble_eq_true rfl) ⟨0, p799, f802, f803, f804, rfl, rfl, (gB_w (gBl (show Int32.toInt 0 = 0 by decide)) (by decide) (by decide)), (gB_w bp799' (by decide) (by decide)), bf802, (gF_any f803), (gF_any f804)⟩
abbrev ky_847_Code_addGoal : gKey := (cX0_addGoal, 5, yX0_addGoal.cls, (some FieldType.int), [], yX0_addGoal.name, fun _ _ => True)
abbrev po_847_Code_addGoal (I : FieldType → ClassId) (q824 : Nat) (q825 : Nat) (q826 : Nat) (q827 : Nat) (q828 : Nat) (q829 : Nat) (q830 : Nat) (q831 : Nat) (q832 : Nat) (q833 : Nat) (p834 : Int32) (p835 : Int32) (p836 : Int32) (p837 : Int32) (f838 : Nat → Int32) (f839 : Nat → Int32) (f840 : Nat → Int32) (f841 : Nat → Int32) (f842 : Nat → Int32) (f843 : Nat → Int32) (f844 : Nat → Int32) (f845 : Nat → Int32) (f846 : Nat → Int32) : Option Value → va_W → Prop := fun r w => ∃ (o863 : Int32) (f861 : Nat → Int32) (f862 : Nat → Int32), r = some (.int o863) ∧ w = [(q824, .inr (5, [.ref q825, .ref q826, .ref q827, .ref q828, .ref q829, .ref q830, .ref q831, .ref q832, .ref q833, .int p835, .int p836, .int p837])), (q825, .inl (I .int, 40, .inl f838)), (q826, .inl (I .int, 40, .inl f861)), (q827, .inl (I .int, 40, .inl f862)), (q828, .inl (I .int, 200, .inl f841)), (q829, .inl (I .int, 200, .inl f842)), (q830, .inl (I .int, 200, .inl f843)), (q831, .inl (I .int, 200, .inl f844)), (q832, .inl (I .int, 200, .inl f845)), (q833, .inl (I .int, 200, .inl f846))] ∧ gB o863 (-1) 79 ∧ gF f861 (-2147483648) 2147483647 ∧ gF f862 (-2147483648) 2147483647
set_option maxRecDepth 100000 in
set_option maxHeartbeats 4000000 in
theorem ct_847_Code_addGoal (l : Launch) (hl0 : l.stackTraces = false) (D : va_G) (I : FieldType → ClassId) (q824 : Nat) (q825 : Nat) (q826 : Nat) (q827 : Nat) (q828 : Nat) (q829 : Nat) (q830 : Nat) (q831 : Nat) (q832 : Nat) (q833 : Nat) (p834 : Int32) (p835 : Int32) (p836 : Int32) (p837 : Int32) (f838 : Nat → Int32) (f839 : Nat → Int32) (f840 : Nat → Int32) (f841 : Nat → Int32) (f842 : Nat → Int32) (f843 : Nat → Int32) (f844 : Nat → Int32) (f845 : Nat → Int32) (f846 : Nat → Int32) (bp835 : gB p835 0 40) (bp836 : gB p836 0 200) (bp837 : gB p837 0 1) (bf838 : gF f838 0 200) (bf841 : gF f841 0 21) : Ct (gV D I) l yX0_addGoal cX0_addGoal 5 (some FieldType.int) 0 0 0 0 [.ref q824, .int p834] [(q824, .inr (5, [.ref q825, .ref q826, .ref q827, .ref q828, .ref q829, .ref q830, .ref q831, .ref q832, .ref q833, .int p835, .int p836, .int p837])), (q825, .inl (I .int, 40, .inl f838)), (q826, .inl (I .int, 40, .inl f839)), (q827, .inl (I .int, 40, .inl f840)), (q828, .inl (I .int, 200, .inl f841)), (q829, .inl (I .int, 200, .inl f842)), (q830, .inl (I .int, 200, .inl f843)), (q831, .inl (I .int, 200, .inl f844)), (q832, .inl (I .int, 200, .inl f845)), (q833, .inl (I .int, 200, .inl f846))] (po_847_Code_addGoal I q824 q825 q826 q827 q828 q829 q830 q831 q832 q833 p834 p835 p836 p837 f838 f839 f840 f841 f842 f843 f844 f845 f846) gN := by
  refine Ct_of hl0 (by decide) (Nat.le_of_ble_eq_true rfl) ?_
  have bp834 := gB_any p834
  refine G_aload_n 0 d_cX0_addGoal_0 rfl ?_
  refine G_getf 0 9 d_cX0_addGoal_1 rfl (gk_X0 D I) (Nat.le_of_ble_eq_true rfl) w_1_187 rfl ?_
  refine G_iconst 1 d_cX0_addGoal_4 (by decide +kernel) ?_
  refine G_isub d_cX0_addGoal_5 (G_nam fun z848 hz848 => ?_)
  have ez848 : z848.toInt = p835.toInt - 1 := by rw [gI_sub hz848 bp835 (gBl (show Int32.toInt 1 = 1 by decide)) (by decide) (by decide), show Int32.toInt 1 = 1 from by decide]
  have bz848 : gB z848 (-1) 39 := gB_sub (gI_sub hz848 bp835 (gBl (show Int32.toInt 1 = 1 by decide)) (by decide) (by decide)) bp835 (gBl (show Int32.toInt 1 = 1 by decide)) (by decide) (by decide)
  refine G_istore_n (L' := [(2, .int z848), (0, .ref q824), (1, .int p834)]) d_cX0_addGoal_6 (Nat.le_of_ble_eq_true rfl) rfl ?_
  refine G_iload_n 0 d_cX0_addGoal_7 rfl ?_
  refine G_if_ge 13 d_cX0_addGoal_8 (by decide +kernel) (fun hc849 => ?_) (fun hc849 => ?_)
  · have r850 : 0 ≤ z848.toInt := gj_leL hc849 (show Int32.toInt 0 = 0 by decide)
    have bz848' : gB z848 0 39 := ⟨by omega, by omega⟩
    refine G_aload_n 1 d_cX0_addGoal_13 rfl ?_
    refine G_getf 0 1 d_cX0_addGoal_14 rfl (gk_X0 D I) (Nat.le_of_ble_eq_true rfl) w_1_149 rfl ?_
    refine G_iload_n 0 d_cX0_addGoal_17 rfl ?_
    refine G_iald 2 0 d_cX0_addGoal_18 rfl rfl (gB_in bz848' (by decide) (by decide)) (G_nam fun z851 hz851 => ?_)
    have bz851 : gB z851 (-2147483648) 2147483647 := gB_any z851
    refine G_iconst (-1) d_cX0_addGoal_19 (by decide +kernel) ?_
    refine G_icmp_eq 27 d_cX0_addGoal_20 (by decide +kernel) (fun hc852 => ?_) (fun hc852 => ?_)
    · have r853 : z851.toInt = (-1) := gj_eq hc852 (show Int32.toInt (-1) = (-1) by decide)
      have bz851' : gB z851 (-1) (-1) := ⟨by omega, by omega⟩
      refine G_iconst 0 d_cX0_addGoal_27 (by decide +kernel) ?_
      refine G_istore_n (L' := [(3, .int 0), (2, .int z848), (0, .ref q824), (1, .int p834)]) d_cX0_addGoal_28 (Nat.le_of_ble_eq_true rfl) rfl ?_
      refine G_iload_n 0 d_cX0_addGoal_29 rfl ?_
      refine G_if_eq 40 d_cX0_addGoal_30 (by decide +kernel) (fun _ => ?_) (fun hc => absurd hc (by decide))
      refine G_aload_n 2 d_cX0_addGoal_40 rfl ?_
      refine G_getf 0 1 d_cX0_addGoal_41 rfl (gk_X0 D I) (Nat.le_of_ble_eq_true rfl) w_1_149 rfl ?_
      refine G_astore (L' := [(4, .ref q826), (3, .int 0), (2, .int z848), (0, .ref q824), (1, .int p834)]) d_cX0_addGoal_44 (Nat.le_of_ble_eq_true rfl) rfl ?_
      refine G_aload 0 d_cX0_addGoal_46 rfl ?_
      refine G_iload_n 2 d_cX0_addGoal_48 rfl ?_
      refine G_iload_n 4 d_cX0_addGoal_49 rfl ?_
      refine G_iastN 2 0 d_cX0_addGoal_50 rfl rfl (gB_in bz848' (by decide) (by decide)) (fun f854 hf854 => ?_)
      refine G_ws (ws' := [(q824, .inr (5, [.ref q825, .ref q826, .ref q827, .ref q828, .ref q829, .ref q830, .ref q831, .ref q832, .ref q833, .int p835, .int p836, .int p837])), (q825, .inl (I .int, 40, .inl f838)), (q826, .inl (I .int, 40, .inl f854)), (q827, .inl (I .int, 40, .inl f840)), (q828, .inl (I .int, 200, .inl f841)), (q829, .inl (I .int, 200, .inl f842)), (q830, .inl (I .int, 200, .inl f843)), (q831, .inl (I .int, 200, .inl f844)), (q832, .inl (I .int, 200, .inl f845)), (q833, .inl (I .int, 200, .inl f846))]) (cs' := 0) (sl' := 0) rfl rfl rfl ?_
      refine G_iload_n 1 d_cX0_addGoal_51 rfl ?_
      refine G_if_eq 63 d_cX0_addGoal_52 (by decide +kernel) (fun _ => ?_) (fun hc => absurd hc (by decide))
      refine G_iconst 2 d_cX0_addGoal_63 (by decide +kernel) ?_
      refine G_iload_n 2 d_cX0_addGoal_64 rfl ?_
      refine G_imul d_cX0_addGoal_65 (G_nam fun z855 hz855 => ?_)
      have ez855 : z855.toInt = 2 * z848.toInt := by rw [gI_mul hz855 (gBl (show Int32.toInt 2 = 2 by decide)) bz848' (by decide) (by decide) (by decide), show Int32.toInt 2 = 2 from by decide]
      have bz855 : gB z855 0 78 := gB_mul hz855 (gBl (show Int32.toInt 2 = 2 by decide)) bz848' (by decide) (by decide) (by decide) (by decide)
      exact G_iret d_cX0_addGoal_66 rfl (Nat.le_of_ble_eq_true rfl) (Nat.le_of_ble_eq_true rfl) ⟨z855, f854, f840, rfl, rfl, (gB_w bz855 (by decide) (by decide)), (gF_any f854), (gF_any f840)⟩
    · have r856 : z851.toInt ≠ (-1) := gj_neq hc852 (show Int32.toInt (-1) = (-1) by decide)
      refine G_iconst 1 d_cX0_addGoal_23 (by decide +kernel) ?_
      refine G_goto 28 d_cX0_addGoal_24 (by decide +kernel) ?_
      refine G_istore_n (L' := [(3, .int 1), (2, .int z848), (0, .ref q824), (1, .int p834)]) d_cX0_addGoal_28 (Nat.le_of_ble_eq_true rfl) rfl ?_
      refine G_iload_n 0 d_cX0_addGoal_29 rfl ?_
      refine G_if_eq 40 d_cX0_addGoal_30 (by decide +kernel) (fun hc => absurd hc (by decide)) (fun _ => ?_)
      refine G_aload_n 2 d_cX0_addGoal_33 rfl ?_
      refine G_getf 0 2 d_cX0_addGoal_34 rfl (gk_X0 D I) (Nat.le_of_ble_eq_true rfl) w_1_154 rfl ?_
      refine G_goto 44 d_cX0_addGoal_37 (by decide +kernel) ?_
      refine G_astore (L' := [(4, .ref q827), (3, .int 1), (2, .int z848), (0, .ref q824), (1, .int p834)]) d_cX0_addGoal_44 (Nat.le_of_ble_eq_true rfl) rfl ?_
      refine G_aload 0 d_cX0_addGoal_46 rfl ?_
      refine G_iload_n 2 d_cX0_addGoal_48 rfl ?_
      refine G_iload_n 4 d_cX0_addGoal_49 rfl ?_
      refine G_iastN 3 0 d_cX0_addGoal_50 rfl rfl (gB_in bz848' (by decide) (by decide)) (fun f857 hf857 => ?_)
      refine G_ws (ws' := [(q824, .inr (5, [.ref q825, .ref q826, .ref q827, .ref q828, .ref q829, .ref q830, .ref q831, .ref q832, .ref q833, .int p835, .int p836, .int p837])), (q825, .inl (I .int, 40, .inl f838)), (q826, .inl (I .int, 40, .inl f839)), (q827, .inl (I .int, 40, .inl f857)), (q828, .inl (I .int, 200, .inl f841)), (q829, .inl (I .int, 200, .inl f842)), (q830, .inl (I .int, 200, .inl f843)), (q831, .inl (I .int, 200, .inl f844)), (q832, .inl (I .int, 200, .inl f845)), (q833, .inl (I .int, 200, .inl f846))]) (cs' := 0) (sl' := 0) rfl rfl rfl ?_
      refine G_iload_n 1 d_cX0_addGoal_51 rfl ?_
      refine G_if_eq 63 d_cX0_addGoal_52 (by decide +kernel) (fun hc => absurd hc (by decide)) (fun _ => ?_)
      refine G_iconst 2 d_cX0_addGoal_55 (by decide +kernel) ?_
      refine G_iload_n 2 d_cX0_addGoal_56 rfl ?_
      refine G_imul d_cX0_addGoal_57 (G_nam fun z858 hz858 => ?_)
      have ez858 : z858.toInt = 2 * z848.toInt := by rw [gI_mul hz858 (gBl (show Int32.toInt 2 = 2 by decide)) bz848' (by decide) (by decide) (by decide), show Int32.toInt 2 = 2 from by decide]
      have bz858 : gB z858 0 78 := gB_mul hz858 (gBl (show Int32.toInt 2 = 2 by decide)) bz848' (by decide) (by decide) (by decide) (by decide)
      refine G_iconst 1 d_cX0_addGoal_58 (by decide +kernel) ?_
      refine G_iadd d_cX0_addGoal_59 (G_nam fun z859 hz859 => ?_)
      have ez859 : z859.toInt = z858.toInt + 1 := by rw [gI_add hz859 bz858 (gBl (show Int32.toInt 1 = 1 by decide)) (by decide) (by decide), show Int32.toInt 1 = 1 from by decide]
      have bz859 : gB z859 1 79 := gB_add (gI_add hz859 bz858 (gBl (show Int32.toInt 1 = 1 by decide)) (by decide) (by decide)) bz858 (gBl (show Int32.toInt 1 = 1 by decide)) (by decide) (by decide)
      refine G_goto 66 d_cX0_addGoal_60 (by decide +kernel) ?_
      exact G_iret d_cX0_addGoal_66 rfl (Nat.le_of_ble_eq_true rfl) (Nat.le_of_ble_eq_true rfl) ⟨z859, f839, f857, rfl, rfl, (gB_w bz859 (by decide) (by decide)), (gF_any f839), (gF_any f857)⟩
  · have r860 : z848.toInt < 0 := gj_nleL hc849 (show Int32.toInt 0 = 0 by decide)
    have bz848' : gB z848 (-1) (-1) := ⟨by omega, by omega⟩
    refine G_iconst (-1) d_cX0_addGoal_11 (by decide +kernel) ?_
    exact G_iret d_cX0_addGoal_12 rfl (Nat.le_of_ble_eq_true rfl) (Nat.le_of_ble_eq_true rfl) ⟨(-1), f839, f840, rfl, rfl, (gB_w (gBl (show Int32.toInt (-1) = (-1) by decide)) (by decide) (by decide)), (gF_any f839), (gF_any f840)⟩
abbrev ky_892_Code_add : gKey := (cX0_add, 7, yX0_add.cls, none, [], yX0_add.name, fun _ _ => True)
abbrev po_892_Code_add (I : FieldType → ClassId) (q864 : Nat) (q865 : Nat) (q866 : Nat) (q867 : Nat) (q868 : Nat) (q869 : Nat) (q870 : Nat) (q871 : Nat) (q872 : Nat) (q873 : Nat) (p874 : Int32) (p875 : Int32) (p876 : Int32) (p877 : Int32) (p878 : Int32) (p879 : Int32) (p880 : Int32) (p881 : Int32) (p882 : Int32) (f883 : Nat → Int32) (f884 : Nat → Int32) (f885 : Nat → Int32) (f886 : Nat → Int32) (f887 : Nat → Int32) (f888 : Nat → Int32) (f889 : Nat → Int32) (f890 : Nat → Int32) (f891 : Nat → Int32) : Option Value → va_W → Prop := fun r w => ∃ (o903 : Int32) (f904 : Nat → Int32) (f905 : Nat → Int32) (f906 : Nat → Int32) (f907 : Nat → Int32) (f908 : Nat → Int32) (f909 : Nat → Int32) (o910 : Int32), r = none ∧ w = [(q864, .inr (5, [.ref q865, .ref q866, .ref q867, .ref q868, .ref q869, .ref q870, .ref q871, .ref q872, .ref q873, .int p880, .int o903, .int o910])), (q865, .inl (I .int, 40, .inl f883)), (q866, .inl (I .int, 40, .inl f884)), (q867, .inl (I .int, 40, .inl f885)), (q868, .inl (I .int, 200, .inl f904)), (q869, .inl (I .int, 200, .inl f905)), (q870, .inl (I .int, 200, .inl f906)), (q871, .inl (I .int, 200, .inl f907)), (q872, .inl (I .int, 200, .inl f908)), (q873, .inl (I .int, 200, .inl f909))] ∧ gB o903 1 200 ∧ gF f904 0 21 ∧ gF f905 (-2147483648) 2147483647 ∧ gF f906 (-2147483648) 2147483647 ∧ gF f907 (-2147483648) 2147483647 ∧ gF f908 (-2147483648) 2147483647 ∧ gF f909 (-2147483648) 2147483647 ∧ gB o910 0 1
set_option maxRecDepth 100000 in
set_option maxHeartbeats 4000000 in
theorem ct_892_Code_add (l : Launch) (hl0 : l.stackTraces = false) (D : va_G) (I : FieldType → ClassId) (q864 : Nat) (q865 : Nat) (q866 : Nat) (q867 : Nat) (q868 : Nat) (q869 : Nat) (q870 : Nat) (q871 : Nat) (q872 : Nat) (q873 : Nat) (p874 : Int32) (p875 : Int32) (p876 : Int32) (p877 : Int32) (p878 : Int32) (p879 : Int32) (p880 : Int32) (p881 : Int32) (p882 : Int32) (f883 : Nat → Int32) (f884 : Nat → Int32) (f885 : Nat → Int32) (f886 : Nat → Int32) (f887 : Nat → Int32) (f888 : Nat → Int32) (f889 : Nat → Int32) (f890 : Nat → Int32) (f891 : Nat → Int32) (bp874 : gB p874 0 21) (bp880 : gB p880 0 40) (bp881 : gB p881 0 200) (bp882 : gB p882 0 1) (bf883 : gF f883 0 200) (bf886 : gF f886 0 21) : Ct (gV D I) l yX0_add cX0_add 7 none 0 0 0 0 [.ref q864, .int p874, .int p875, .int p876, .int p877, .int p878, .int p879] [(q864, .inr (5, [.ref q865, .ref q866, .ref q867, .ref q868, .ref q869, .ref q870, .ref q871, .ref q872, .ref q873, .int p880, .int p881, .int p882])), (q865, .inl (I .int, 40, .inl f883)), (q866, .inl (I .int, 40, .inl f884)), (q867, .inl (I .int, 40, .inl f885)), (q868, .inl (I .int, 200, .inl f886)), (q869, .inl (I .int, 200, .inl f887)), (q870, .inl (I .int, 200, .inl f888)), (q871, .inl (I .int, 200, .inl f889)), (q872, .inl (I .int, 200, .inl f890)), (q873, .inl (I .int, 200, .inl f891))] (po_892_Code_add I q864 q865 q866 q867 q868 q869 q870 q871 q872 q873 p874 p875 p876 p877 p878 p879 p880 p881 p882 f883 f884 f885 f886 f887 f888 f889 f890 f891) gN := by
  refine Ct_of hl0 (by decide) (Nat.le_of_ble_eq_true rfl) ?_
  have bp875 := gB_any p875
  have bp876 := gB_any p876
  have bp877 := gB_any p877
  have bp878 := gB_any p878
  have bp879 := gB_any p879
  refine G_aload_n 0 d_cX0_add_0 rfl ?_
  refine G_getf 0 10 d_cX0_add_1 rfl (gk_X0 D I) (Nat.le_of_ble_eq_true rfl) w_1_197 rfl ?_
  refine G_aload_n 0 d_cX0_add_4 rfl ?_
  refine G_getf 0 3 d_cX0_add_5 rfl (gk_X0 D I) (Nat.le_of_ble_eq_true rfl) w_1_159 rfl ?_
  refine G_alen 200 4 0 d_cX0_add_8 rfl rfl rfl ?_
  refine G_icmp_lt 18 d_cX0_add_9 (by decide +kernel) (fun hc893 => ?_) (fun hc893 => ?_)
  · have r894 : p881.toInt < 200 := gj_lt hc893 (show Int32.toInt 200 = 200 by decide)
    have bp881' : gB p881 0 199 := ⟨by omega, by omega⟩
    refine G_aload_n 0 d_cX0_add_18 rfl ?_
    refine G_getf 0 3 d_cX0_add_19 rfl (gk_X0 D I) (Nat.le_of_ble_eq_true rfl) w_1_159 rfl ?_
    refine G_aload_n 0 d_cX0_add_22 rfl ?_
    refine G_getf 0 10 d_cX0_add_23 rfl (gk_X0 D I) (Nat.le_of_ble_eq_true rfl) w_1_197 rfl ?_
    refine G_iload_n 1 d_cX0_add_26 rfl ?_
    refine G_iastN 4 0 d_cX0_add_27 rfl rfl (gB_in bp881' (by decide) (by decide)) (fun f895 hf895 => ?_)
    refine G_ws (ws' := [(q864, .inr (5, [.ref q865, .ref q866, .ref q867, .ref q868, .ref q869, .ref q870, .ref q871, .ref q872, .ref q873, .int p880, .int p881, .int p882])), (q865, .inl (I .int, 40, .inl f883)), (q866, .inl (I .int, 40, .inl f884)), (q867, .inl (I .int, 40, .inl f885)), (q868, .inl (I .int, 200, .inl f895)), (q869, .inl (I .int, 200, .inl f887)), (q870, .inl (I .int, 200, .inl f888)), (q871, .inl (I .int, 200, .inl f889)), (q872, .inl (I .int, 200, .inl f890)), (q873, .inl (I .int, 200, .inl f891))]) (cs' := 0) (sl' := 0) rfl rfl rfl ?_
    have bf895 : gF f895 0 21 := gF_upd hf895 bf886 bp874
    refine G_aload_n 0 d_cX0_add_28 rfl ?_
    refine G_getf 0 4 d_cX0_add_29 rfl (gk_X0 D I) (Nat.le_of_ble_eq_true rfl) w_1_163 rfl ?_
    refine G_aload_n 0 d_cX0_add_32 rfl ?_
    refine G_getf 0 10 d_cX0_add_33 rfl (gk_X0 D I) (Nat.le_of_ble_eq_true rfl) w_1_197 rfl ?_
    refine G_iload_n 2 d_cX0_add_36 rfl ?_
    refine G_iastN 5 0 d_cX0_add_37 rfl rfl (gB_in bp881' (by decide) (by decide)) (fun f896 hf896 => ?_)
    refine G_ws (ws' := [(q864, .inr (5, [.ref q865, .ref q866, .ref q867, .ref q868, .ref q869, .ref q870, .ref q871, .ref q872, .ref q873, .int p880, .int p881, .int p882])), (q865, .inl (I .int, 40, .inl f883)), (q866, .inl (I .int, 40, .inl f884)), (q867, .inl (I .int, 40, .inl f885)), (q868, .inl (I .int, 200, .inl f895)), (q869, .inl (I .int, 200, .inl f896)), (q870, .inl (I .int, 200, .inl f888)), (q871, .inl (I .int, 200, .inl f889)), (q872, .inl (I .int, 200, .inl f890)), (q873, .inl (I .int, 200, .inl f891))]) (cs' := 0) (sl' := 0) rfl rfl rfl ?_
    refine G_aload_n 0 d_cX0_add_38 rfl ?_
    refine G_getf 0 5 d_cX0_add_39 rfl (gk_X0 D I) (Nat.le_of_ble_eq_true rfl) w_1_168 rfl ?_
    refine G_aload_n 0 d_cX0_add_42 rfl ?_
    refine G_getf 0 10 d_cX0_add_43 rfl (gk_X0 D I) (Nat.le_of_ble_eq_true rfl) w_1_197 rfl ?_
    refine G_iload_n 3 d_cX0_add_46 rfl ?_
    refine G_iastN 6 0 d_cX0_add_47 rfl rfl (gB_in bp881' (by decide) (by decide)) (fun f897 hf897 => ?_)
    refine G_ws (ws' := [(q864, .inr (5, [.ref q865, .ref q866, .ref q867, .ref q868, .ref q869, .ref q870, .ref q871, .ref q872, .ref q873, .int p880, .int p881, .int p882])), (q865, .inl (I .int, 40, .inl f883)), (q866, .inl (I .int, 40, .inl f884)), (q867, .inl (I .int, 40, .inl f885)), (q868, .inl (I .int, 200, .inl f895)), (q869, .inl (I .int, 200, .inl f896)), (q870, .inl (I .int, 200, .inl f897)), (q871, .inl (I .int, 200, .inl f889)), (q872, .inl (I .int, 200, .inl f890)), (q873, .inl (I .int, 200, .inl f891))]) (cs' := 0) (sl' := 0) rfl rfl rfl ?_
    refine G_aload_n 0 d_cX0_add_48 rfl ?_
    refine G_getf 0 6 d_cX0_add_49 rfl (gk_X0 D I) (Nat.le_of_ble_eq_true rfl) w_1_174 rfl ?_
    refine G_aload_n 0 d_cX0_add_52 rfl ?_
    refine G_getf 0 10 d_cX0_add_53 rfl (gk_X0 D I) (Nat.le_of_ble_eq_true rfl) w_1_197 rfl ?_
    refine G_iload 4 d_cX0_add_56 rfl ?_
    refine G_iastN 7 0 d_cX0_add_58 rfl rfl (gB_in bp881' (by decide) (by decide)) (fun f898 hf898 => ?_)
    refine G_ws (ws' := [(q864, .inr (5, [.ref q865, .ref q866, .ref q867, .ref q868, .ref q869, .ref q870, .ref q871, .ref q872, .ref q873, .int p880, .int p881, .int p882])), (q865, .inl (I .int, 40, .inl f883)), (q866, .inl (I .int, 40, .inl f884)), (q867, .inl (I .int, 40, .inl f885)), (q868, .inl (I .int, 200, .inl f895)), (q869, .inl (I .int, 200, .inl f896)), (q870, .inl (I .int, 200, .inl f897)), (q871, .inl (I .int, 200, .inl f898)), (q872, .inl (I .int, 200, .inl f890)), (q873, .inl (I .int, 200, .inl f891))]) (cs' := 0) (sl' := 0) rfl rfl rfl ?_
    refine G_aload_n 0 d_cX0_add_59 rfl ?_
    refine G_getf 0 7 d_cX0_add_60 rfl (gk_X0 D I) (Nat.le_of_ble_eq_true rfl) w_1_178 rfl ?_
    refine G_aload_n 0 d_cX0_add_63 rfl ?_
    refine G_getf 0 10 d_cX0_add_64 rfl (gk_X0 D I) (Nat.le_of_ble_eq_true rfl) w_1_197 rfl ?_
    refine G_iload 5 d_cX0_add_67 rfl ?_
    refine G_iastN 8 0 d_cX0_add_69 rfl rfl (gB_in bp881' (by decide) (by decide)) (fun f899 hf899 => ?_)
    refine G_ws (ws' := [(q864, .inr (5, [.ref q865, .ref q866, .ref q867, .ref q868, .ref q869, .ref q870, .ref q871, .ref q872, .ref q873, .int p880, .int p881, .int p882])), (q865, .inl (I .int, 40, .inl f883)), (q866, .inl (I .int, 40, .inl f884)), (q867, .inl (I .int, 40, .inl f885)), (q868, .inl (I .int, 200, .inl f895)), (q869, .inl (I .int, 200, .inl f896)), (q870, .inl (I .int, 200, .inl f897)), (q871, .inl (I .int, 200, .inl f898)), (q872, .inl (I .int, 200, .inl f899)), (q873, .inl (I .int, 200, .inl f891))]) (cs' := 0) (sl' := 0) rfl rfl rfl ?_
    refine G_aload_n 0 d_cX0_add_70 rfl ?_
    refine G_getf 0 8 d_cX0_add_71 rfl (gk_X0 D I) (Nat.le_of_ble_eq_true rfl) w_1_183 rfl ?_
    refine G_aload_n 0 d_cX0_add_74 rfl ?_
    refine G_getf 0 10 d_cX0_add_75 rfl (gk_X0 D I) (Nat.le_of_ble_eq_true rfl) w_1_197 rfl ?_
    refine G_iload 6 d_cX0_add_78 rfl ?_
    refine G_iastN 9 0 d_cX0_add_80 rfl rfl (gB_in bp881' (by decide) (by decide)) (fun f900 hf900 => ?_)
    refine G_ws (ws' := [(q864, .inr (5, [.ref q865, .ref q866, .ref q867, .ref q868, .ref q869, .ref q870, .ref q871, .ref q872, .ref q873, .int p880, .int p881, .int p882])), (q865, .inl (I .int, 40, .inl f883)), (q866, .inl (I .int, 40, .inl f884)), (q867, .inl (I .int, 40, .inl f885)), (q868, .inl (I .int, 200, .inl f895)), (q869, .inl (I .int, 200, .inl f896)), (q870, .inl (I .int, 200, .inl f897)), (q871, .inl (I .int, 200, .inl f898)), (q872, .inl (I .int, 200, .inl f899)), (q873, .inl (I .int, 200, .inl f900))]) (cs' := 0) (sl' := 0) rfl rfl rfl ?_
    refine G_aload_n 0 d_cX0_add_81 rfl ?_
    refine G_dup d_cX0_add_82 rfl ?_
    refine G_getf 0 10 d_cX0_add_83 rfl (gk_X0 D I) (Nat.le_of_ble_eq_true rfl) w_1_197 rfl ?_
    refine G_iconst 1 d_cX0_add_86 (by decide +kernel) ?_
    refine G_iadd d_cX0_add_87 (G_nam fun z901 hz901 => ?_)
    have ez901 : z901.toInt = p881.toInt + 1 := by rw [gI_add hz901 bp881' (gBl (show Int32.toInt 1 = 1 by decide)) (by decide) (by decide), show Int32.toInt 1 = 1 from by decide]
    have bz901 : gB z901 1 200 := gB_add (gI_add hz901 bp881' (gBl (show Int32.toInt 1 = 1 by decide)) (by decide) (by decide)) bp881' (gBl (show Int32.toInt 1 = 1 by decide)) (by decide) (by decide)
    refine G_putf (ws' := [(q864, .inr (5, [.ref q865, .ref q866, .ref q867, .ref q868, .ref q869, .ref q870, .ref q871, .ref q872, .ref q873, .int p880, .int z901, .int p882])), (q865, .inl (I .int, 40, .inl f883)), (q866, .inl (I .int, 40, .inl f884)), (q867, .inl (I .int, 40, .inl f885)), (q868, .inl (I .int, 200, .inl f895)), (q869, .inl (I .int, 200, .inl f896)), (q870, .inl (I .int, 200, .inl f897)), (q871, .inl (I .int, 200, .inl f898)), (q872, .inl (I .int, 200, .inl f899)), (q873, .inl (I .int, 200, .inl f900))]) 0 10 d_cX0_add_88 rfl (gk_X0 D I) (Nat.le_of_ble_eq_true rfl) w_1_197 rfl rfl rfl (Nat.le_of_ble_eq_true rfl) rfl ?_
    exact G_vret d_cX0_add_91 rfl (Nat.le_of_ble_eq_true rfl) (Nat.le_of_ble_eq_true rfl) ⟨z901, f895, f896, f897, f898, f899, f900, p882, rfl, rfl, bz901, bf895, (gF_any f896), (gF_any f897), (gF_any f898), (gF_any f899), (gF_any f900), bp882⟩
  · have r902 : 200 ≤ p881.toInt := gj_nlt hc893 (show Int32.toInt 200 = 200 by decide)
    have bp881' : gB p881 200 200 := ⟨by omega, by omega⟩
    refine G_aload_n 0 d_cX0_add_12 rfl ?_
    refine G_iconst 1 d_cX0_add_13 (by decide +kernel) ?_
    refine G_putf (ws' := [(q864, .inr (5, [.ref q865, .ref q866, .ref q867, .ref q868, .ref q869, .ref q870, .ref q871, .ref q872, .ref q873, .int p880, .int p881, .int 1])), (q865, .inl (I .int, 40, .inl f883)), (q866, .inl (I .int, 40, .inl f884)), (q867, .inl (I .int, 40, .inl f885)), (q868, .inl (I .int, 200, .inl f886)), (q869, .inl (I .int, 200, .inl f887)), (q870, .inl (I .int, 200, .inl f888)), (q871, .inl (I .int, 200, .inl f889)), (q872, .inl (I .int, 200, .inl f890)), (q873, .inl (I .int, 200, .inl f891))]) 0 11 d_cX0_add_14 rfl (gk_X0 D I) (Nat.le_of_ble_eq_true rfl) w_1_200 rfl rfl rfl (Nat.le_of_ble_eq_true rfl) rfl ?_
    exact G_vret d_cX0_add_17 rfl (Nat.le_of_ble_eq_true rfl) (Nat.le_of_ble_eq_true rfl) ⟨p881, f886, f887, f888, f889, f890, f891, 1, rfl, rfl, (gB_w bp881' (by decide) (by decide)), bf886, (gF_any f887), (gF_any f888), (gF_any f889), (gF_any f890), (gF_any f891), (gB_w (gBl (show Int32.toInt 1 = 1 by decide)) (by decide) (by decide))⟩
abbrev ky_933_Code_openLike : gKey := (cX0_openLike, 3, yX0_openLike.cls, none, [], yX0_openLike.name, fun _ _ => True)
abbrev po_933_Code_openLike (I : FieldType → ClassId) (q911 : Nat) (q912 : Nat) (q913 : Nat) (q914 : Nat) (q915 : Nat) (q916 : Nat) (q917 : Nat) (q918 : Nat) (q919 : Nat) (q920 : Nat) (p921 : Int32) (p922 : Int32) (p923 : Int32) (f924 : Nat → Int32) (f925 : Nat → Int32) (f926 : Nat → Int32) (f927 : Nat → Int32) (f928 : Nat → Int32) (f929 : Nat → Int32) (f930 : Nat → Int32) (f931 : Nat → Int32) (f932 : Nat → Int32) : Option Value → va_W → Prop := fun r w => r = none ∧ w = [(q911, .inr (5, [.ref q912, .ref q913, .ref q914, .ref q915, .ref q916, .ref q917, .ref q918, .ref q919, .ref q920, .int p921, .int p922, .int p923])), (q912, .inl (I .int, 40, .inl f924)), (q913, .inl (I .int, 40, .inl f925)), (q914, .inl (I .int, 40, .inl f926)), (q915, .inl (I .int, 200, .inl f927)), (q916, .inl (I .int, 200, .inl f928)), (q917, .inl (I .int, 200, .inl f929)), (q918, .inl (I .int, 200, .inl f930)), (q919, .inl (I .int, 200, .inl f931)), (q920, .inl (I .int, 200, .inl f932))]
set_option maxRecDepth 100000 in
set_option maxHeartbeats 4000000 in
theorem ct_933_Code_openLike (l : Launch) (hl0 : l.stackTraces = false) (D : va_G) (I : FieldType → ClassId) (q911 : Nat) (q912 : Nat) (q913 : Nat) (q914 : Nat) (q915 : Nat) (q916 : Nat) (q917 : Nat) (q918 : Nat) (q919 : Nat) (q920 : Nat) (p921 : Int32) (p922 : Int32) (p923 : Int32) (f924 : Nat → Int32) (f925 : Nat → Int32) (f926 : Nat → Int32) (f927 : Nat → Int32) (f928 : Nat → Int32) (f929 : Nat → Int32) (f930 : Nat → Int32) (f931 : Nat → Int32) (f932 : Nat → Int32) (bp921 : gB p921 0 40) (bp922 : gB p922 0 200) (bp923 : gB p923 0 1) (bf924 : gF f924 0 200) (bf927 : gF f927 0 21) : Ct (gV D I) l yX0_openLike cX0_openLike 3 none 0 0 0 0 [.ref q911, .ref q911] [(q911, .inr (5, [.ref q912, .ref q913, .ref q914, .ref q915, .ref q916, .ref q917, .ref q918, .ref q919, .ref q920, .int p921, .int p922, .int p923])), (q912, .inl (I .int, 40, .inl f924)), (q913, .inl (I .int, 40, .inl f925)), (q914, .inl (I .int, 40, .inl f926)), (q915, .inl (I .int, 200, .inl f927)), (q916, .inl (I .int, 200, .inl f928)), (q917, .inl (I .int, 200, .inl f929)), (q918, .inl (I .int, 200, .inl f930)), (q919, .inl (I .int, 200, .inl f931)), (q920, .inl (I .int, 200, .inl f932))] (po_933_Code_openLike I q911 q912 q913 q914 q915 q916 q917 q918 q919 q920 p921 p922 p923 f924 f925 f926 f927 f928 f929 f930 f931 f932) gN := by
  refine Ct_of hl0 (by decide) (Nat.le_of_ble_eq_true rfl) ?_
  refine G_aload_n 0 d_cX0_openLike_0 rfl ?_
  refine G_getf 0 9 d_cX0_openLike_1 rfl (gk_X0 D I) (Nat.le_of_ble_eq_true rfl) w_1_187 rfl ?_
  refine G_istore_n (L' := [(2, .int p921), (0, .ref q911), (1, .ref q911)]) d_cX0_openLike_4 (Nat.le_of_ble_eq_true rfl) rfl ?_
  refine G_iload_n 0 d_cX0_openLike_5 rfl ?_
  refine G_aload_n 2 d_cX0_openLike_6 rfl ?_
  refine G_getf 0 9 d_cX0_openLike_7 rfl (gk_X0 D I) (Nat.le_of_ble_eq_true rfl) w_1_187 rfl ?_
  refine G_icmp_ge 44 d_cX0_openLike_10 (by decide +kernel) (fun _ => ?_) (fun hc => absurd (show False by have := gC_nle hc; omega) not_false)
  exact G_vret d_cX0_openLike_44 rfl (Nat.le_of_ble_eq_true rfl) (Nat.le_of_ble_eq_true rfl) ⟨rfl, rfl⟩
abbrev ky_937_Code_nameIn : gKey := (cX0_nameIn, 2, yX0_nameIn.cls, (some FieldType.int), [], yX0_nameIn.name, fun _ _ => True)
abbrev po_937_Code_nameIn (I : FieldType → ClassId) (q934 : Nat) (p935 : Int32) (f936 : Nat → Int32) : Option Value → va_W → Prop := fun r w => (r = some (.int p935) ∧ w = [(q934, .inl (I .int, 720, .inl f936))] ∧ p935.toInt < 0) ∨ (r = some (.int p935) ∧ w = [(q934, .inl (I .int, 720, .inl f936))] ∧ 0 ≤ p935.toInt ∧ 720 ≤ p935.toInt) ∨ (∃ (z944 : Int32), r = some (.int z944) ∧ w = [(q934, .inl (I .int, 720, .inl f936))] ∧ 0 ≤ p935.toInt ∧ p935.toInt < 720 ∧ z944 = f936 p935.toNatClampNeg ∧ gB z944 (-2147483648) 2147483647)
set_option maxRecDepth 100000 in
set_option maxHeartbeats 4000000 in
theorem ct_937_Code_nameIn (l : Launch) (hl0 : l.stackTraces = false) (D : va_G) (I : FieldType → ClassId) (q934 : Nat) (p935 : Int32) (f936 : Nat → Int32)  : Ct (gV D I) l yX0_nameIn cX0_nameIn 2 (some FieldType.int) 0 0 0 0 [.ref q934, .int p935] [(q934, .inl (I .int, 720, .inl f936))] (po_937_Code_nameIn I q934 p935 f936) gN := by
  refine Ct_of hl0 (by decide) (Nat.le_of_ble_eq_true rfl) ?_
  have bp935 := gB_any p935
  refine G_iload_n 1 d_cX0_nameIn_0 rfl ?_
  refine G_if_lt 16 d_cX0_nameIn_1 (by decide +kernel) (fun hc938 => ?_) (fun hc938 => ?_)
  · have r939 : p935.toInt < 0 := gj_lt hc938 (show Int32.toInt 0 = 0 by decide)
    have bp935' : gB p935 (-2147483648) (-1) := ⟨by omega, by omega⟩
    refine G_iload_n 1 d_cX0_nameIn_16 rfl ?_
    exact G_iret d_cX0_nameIn_17 rfl (Nat.le_of_ble_eq_true rfl) (Nat.le_of_ble_eq_true rfl) (Or.inl ⟨rfl, rfl, r939⟩)
  · have r940 : 0 ≤ p935.toInt := gj_nlt hc938 (show Int32.toInt 0 = 0 by decide)
    have bp935' : gB p935 0 2147483647 := ⟨by omega, by omega⟩
    refine G_iload_n 1 d_cX0_nameIn_4 rfl ?_
    refine G_aload_n 0 d_cX0_nameIn_5 rfl ?_
    refine G_alen 720 0 0 d_cX0_nameIn_6 rfl rfl rfl ?_
    refine G_icmp_ge 16 d_cX0_nameIn_7 (by decide +kernel) (fun hc941 => ?_) (fun hc941 => ?_)
    · have r942 : 720 ≤ p935.toInt := gj_leL hc941 (show Int32.toInt 720 = 720 by decide)
      have bp935'' : gB p935 720 2147483647 := ⟨by omega, by omega⟩
      refine G_iload_n 1 d_cX0_nameIn_16 rfl ?_
      exact G_iret d_cX0_nameIn_17 rfl (Nat.le_of_ble_eq_true rfl) (Nat.le_of_ble_eq_true rfl) (Or.inr (Or.inl ⟨rfl, rfl, r940, r942⟩))
    · have r943 : p935.toInt < 720 := gj_nleL hc941 (show Int32.toInt 720 = 720 by decide)
      have bp935'' : gB p935 0 719 := ⟨by omega, by omega⟩
      refine G_aload_n 0 d_cX0_nameIn_10 rfl ?_
      refine G_iload_n 1 d_cX0_nameIn_11 rfl ?_
      refine G_iald 0 0 d_cX0_nameIn_12 rfl rfl (gB_in bp935'' (by decide) (by decide)) (G_nam fun z944 hz944 => ?_)
      have bz944 : gB z944 (-2147483648) 2147483647 := gB_any z944
      refine G_goto 17 d_cX0_nameIn_13 (by decide +kernel) ?_
      exact G_iret d_cX0_nameIn_17 rfl (Nat.le_of_ble_eq_true rfl) (Nat.le_of_ble_eq_true rfl) (Or.inr (Or.inr (⟨z944, rfl, rfl, r940, r943, hz944, bz944⟩)))
abbrev ky_968_Code_linesThat : gKey := (cX0_linesThat, 4, yX0_linesThat.cls, (some FieldType.int), [], yX0_linesThat.name, fun _ _ => True)
abbrev po_968_Code_linesThat (I : FieldType → ClassId) (q945 : Nat) (q946 : Nat) (q947 : Nat) (q948 : Nat) (q949 : Nat) (q950 : Nat) (q951 : Nat) (q952 : Nat) (q953 : Nat) (q954 : Nat) (p955 : Int32) (p956 : Int32) (p957 : Int32) (p958 : Int32) (f959 : Nat → Int32) (f960 : Nat → Int32) (f961 : Nat → Int32) (f962 : Nat → Int32) (f963 : Nat → Int32) (f964 : Nat → Int32) (f965 : Nat → Int32) (f966 : Nat → Int32) (f967 : Nat → Int32) : Option Value → va_W → Prop := fun r w => ∃ (o1067 : Int32), r = some (.int o1067) ∧ w = [(q945, .inr (5, [.ref q946, .ref q947, .ref q948, .ref q949, .ref q950, .ref q951, .ref q952, .ref q953, .ref q954, .int p956, .int p957, .int p958])), (q946, .inl (I .int, 40, .inl f959)), (q947, .inl (I .int, 40, .inl f960)), (q948, .inl (I .int, 40, .inl f961)), (q949, .inl (I .int, 200, .inl f962)), (q950, .inl (I .int, 200, .inl f963)), (q951, .inl (I .int, 200, .inl f964)), (q952, .inl (I .int, 200, .inl f965)), (q953, .inl (I .int, 200, .inl f966)), (q954, .inl (I .int, 200, .inl f967))] ∧ gB o1067 (-2147483648) 2147483647
set_option maxRecDepth 100000 in
set_option maxHeartbeats 4000000 in
theorem ct_968_Code_linesThat (l : Launch) (hl0 : l.stackTraces = false) (D : va_G) (I : FieldType → ClassId) (q945 : Nat) (q946 : Nat) (q947 : Nat) (q948 : Nat) (q949 : Nat) (q950 : Nat) (q951 : Nat) (q952 : Nat) (q953 : Nat) (q954 : Nat) (p955 : Int32) (p956 : Int32) (p957 : Int32) (p958 : Int32) (f959 : Nat → Int32) (f960 : Nat → Int32) (f961 : Nat → Int32) (f962 : Nat → Int32) (f963 : Nat → Int32) (f964 : Nat → Int32) (f965 : Nat → Int32) (f966 : Nat → Int32) (f967 : Nat → Int32) (bp956 : gB p956 0 40) (bp957 : gB p957 0 200) (bp958 : gB p958 0 1) (bf959 : gF f959 0 200) (bf962 : gF f962 0 21) : Ct (gV D I) l yX0_linesThat cX0_linesThat 4 (some FieldType.int) 0 0 0 0 [.ref q945, .int p955] [(q945, .inr (5, [.ref q946, .ref q947, .ref q948, .ref q949, .ref q950, .ref q951, .ref q952, .ref q953, .ref q954, .int p956, .int p957, .int p958])), (q946, .inl (I .int, 40, .inl f959)), (q947, .inl (I .int, 40, .inl f960)), (q948, .inl (I .int, 40, .inl f961)), (q949, .inl (I .int, 200, .inl f962)), (q950, .inl (I .int, 200, .inl f963)), (q951, .inl (I .int, 200, .inl f964)), (q952, .inl (I .int, 200, .inl f965)), (q953, .inl (I .int, 200, .inl f966)), (q954, .inl (I .int, 200, .inl f967))] (po_968_Code_linesThat I q945 q946 q947 q948 q949 q950 q951 q952 q953 q954 p955 p956 p957 p958 f959 f960 f961 f962 f963 f964 f965 f966 f967) gN := by
  refine Ct_of hl0 (by decide) (Nat.le_of_ble_eq_true rfl) ?_
  have bp955 := gB_any p955
  refine G_iconst 0 d_cX0_linesThat_0 (by decide +kernel) ?_
  refine G_istore_n (L' := [(2, .int 0), (0, .ref q945), (1, .int p955)]) d_cX0_linesThat_1 (Nat.le_of_ble_eq_true rfl) rfl ?_
  refine G_iconst 0 d_cX0_linesThat_2 (by decide +kernel) ?_
  refine G_istore_n (L' := [(3, .int 0), (2, .int 0), (0, .ref q945), (1, .int p955)]) d_cX0_linesThat_3 (Nat.le_of_ble_eq_true rfl) rfl ?_
  have hlp4_1055 : ∀ (n4_1055 : Nat) (g1054 : Int32) (g1055 : Int32), gB g1054 0 200 → gB g1055 (-2147483648) 2147483647 → ((201 : Int) - g1054.toInt).toNat < n4_1055 → G (gV D I) l (gRm 0 0 0 0) (gM (gV D I) (po_968_Code_linesThat I q945 q946 q947 q948 q949 q950 q951 q952 q953 q954 p955 p956 p957 p958 f959 f960 f961 f962 f963 f964 f965 f966 f967) gN 0 0) ky_968_Code_linesThat 4 [(3, .int g1054), (2, .int g1055), (0, .ref q945), (1, .int p955)] [] [(q945, .inr (5, [.ref q946, .ref q947, .ref q948, .ref q949, .ref q950, .ref q951, .ref q952, .ref q953, .ref q954, .int p956, .int p957, .int p958])), (q946, .inl (I .int, 40, .inl f959)), (q947, .inl (I .int, 40, .inl f960)), (q948, .inl (I .int, 40, .inl f961)), (q949, .inl (I .int, 200, .inl f962)), (q950, .inl (I .int, 200, .inl f963)), (q951, .inl (I .int, 200, .inl f964)), (q952, .inl (I .int, 200, .inl f965)), (q953, .inl (I .int, 200, .inl f966)), (q954, .inl (I .int, 200, .inl f967))] 0 0 := by
    intro n4_1055
    induction n4_1055 with
    | zero => intro g1054 g1055 bg1054 bg1055 hm4_1055; exact absurd hm4_1055 (Nat.not_lt_zero _)
    | succ n4_1055 ih4_1055 =>
      intro g1054 g1055 bg1054 bg1055 hm4_1055
      refine G_iload_n 0 d_cX0_linesThat_4 rfl ?_
      refine G_aload_n 2 d_cX0_linesThat_5 rfl ?_
      refine G_getf 0 10 d_cX0_linesThat_6 rfl (gk_X0 D I) (Nat.le_of_ble_eq_true rfl) w_1_197 rfl ?_
      refine G_icmp_ge 36 d_cX0_linesThat_9 (by decide +kernel) (fun hc1056 => ?_) (fun hc1056 => ?_)
      · have r1057 : p957.toInt ≤ g1054.toInt := gC_le hc1056
        refine G_iload_n 1 d_cX0_linesThat_36 rfl ?_
        exact G_iret d_cX0_linesThat_37 rfl (Nat.le_of_ble_eq_true rfl) (Nat.le_of_ble_eq_true rfl) ⟨g1055, rfl, rfl, bg1055⟩
      · have r1058 : g1054.toInt < p957.toInt := gC_nle hc1056
        have bg1054' : gB g1054 0 199 := ⟨by omega, by omega⟩
        have bp957' : gB p957 1 200 := ⟨by omega, by omega⟩
        refine G_iload_n 1 d_cX0_linesThat_12 rfl ?_
        refine G_aload_n 2 d_cX0_linesThat_13 rfl ?_
        refine G_getf 0 3 d_cX0_linesThat_14 rfl (gk_X0 D I) (Nat.le_of_ble_eq_true rfl) w_1_159 rfl ?_
        refine G_iload_n 0 d_cX0_linesThat_17 rfl ?_
        refine G_iald 4 0 d_cX0_linesThat_18 rfl rfl (gB_in bg1054' (by decide) (by decide)) (G_nam fun z1059 hz1059 => ?_)
        have bz1059 : gB z1059 0 21 := by rw [hz1059]; exact bf962 _
        refine G_iload_n 3 d_cX0_linesThat_19 rfl ?_
        refine G_icmp_ne 27 d_cX0_linesThat_20 (by decide +kernel) (fun hc1060 => ?_) (fun hc1060 => ?_)
        · have r1061 : z1059.toInt ≠ p955.toInt := gC_ne hc1060
          refine G_iconst 0 d_cX0_linesThat_27 (by decide +kernel) ?_
          refine G_iadd d_cX0_linesThat_28 (G_nam fun z1062 hz1062 => ?_)
          have ez1062 : z1062.toInt = g1055.toInt + 0 := by rw [gI_add hz1062 bg1055 (gBl (show Int32.toInt 0 = 0 by decide)) (by decide) (by decide), show Int32.toInt 0 = 0 from by decide]
          have bz1062 : gB z1062 (-2147483648) 2147483647 := gB_add (gI_add hz1062 bg1055 (gBl (show Int32.toInt 0 = 0 by decide)) (by decide) (by decide)) bg1055 (gBl (show Int32.toInt 0 = 0 by decide)) (by decide) (by decide)
          refine G_istore_n (L' := [(2, .int z1062), (3, .int g1054), (0, .ref q945), (1, .int p955)]) d_cX0_linesThat_29 (Nat.le_of_ble_eq_true rfl) rfl ?_
          obtain ⟨z1063, hz1063⟩ : ∃ z : Int32, z = g1054 + Int32.ofInt 1 := ⟨_, rfl⟩
          have ez1063 : z1063.toInt = g1054.toInt + 1 := gI_inc hz1063 (by decide) bg1054' (by decide) (by decide)
          have bz1063 : gB z1063 1 200 := ⟨by omega, by omega⟩
          refine G_iinc (L' := [(3, .int z1063), (2, .int z1062), (0, .ref q945), (1, .int p955)]) z1063 1 d_cX0_linesThat_30 rfl hz1063.symm (Nat.le_of_ble_eq_true rfl) rfl ?_
          refine G_goto 4 d_cX0_linesThat_33 (by decide +kernel) ?_
          exact ih4_1055 z1063 z1062 (gB_w bz1063 (by decide) (by decide)) bz1062 (by omega)
        · have r1064 : z1059.toInt = p955.toInt := gC_eq hc1060
          have bp955' : gB p955 0 21 := ⟨by omega, by omega⟩
          refine G_iconst 1 d_cX0_linesThat_23 (by decide +kernel) ?_
          refine G_goto 28 d_cX0_linesThat_24 (by decide +kernel) ?_
          refine G_iadd d_cX0_linesThat_28 (G_nam fun z1065 hz1065 => ?_)
          have bz1065 : gB z1065 (-2147483648) 2147483647 := gB_any z1065
          refine G_istore_n (L' := [(2, .int z1065), (3, .int g1054), (0, .ref q945), (1, .int p955)]) d_cX0_linesThat_29 (Nat.le_of_ble_eq_true rfl) rfl ?_
          obtain ⟨z1066, hz1066⟩ : ∃ z : Int32, z = g1054 + Int32.ofInt 1 := ⟨_, rfl⟩
          have ez1066 : z1066.toInt = g1054.toInt + 1 := gI_inc hz1066 (by decide) bg1054' (by decide) (by decide)
          have bz1066 : gB z1066 1 200 := ⟨by omega, by omega⟩
          refine G_iinc (L' := [(3, .int z1066), (2, .int z1065), (0, .ref q945), (1, .int p955)]) z1066 1 d_cX0_linesThat_30 rfl hz1066.symm (Nat.le_of_ble_eq_true rfl) rfl ?_
          refine G_goto 4 d_cX0_linesThat_33 (by decide +kernel) ?_
          exact ih4_1055 z1066 z1065 (gB_w bz1066 (by decide) (by decide)) bz1065 (by omega)
  exact hlp4_1055 (((201 : Int) - 0).toNat + 1) 0 0 (gB_w (gBl (show Int32.toInt 0 = 0 by decide)) (by decide) (by decide)) (gB_w (gBl (show Int32.toInt 0 = 0 by decide)) (by decide) (by decide)) (Nat.lt_succ_self _)
abbrev ky_1091_Code_copiesRegister : gKey := (cX0_copiesRegister, 2, yX0_copiesRegister.cls, (some FieldType.boolean), [], yX0_copiesRegister.name, fun _ _ => True)
abbrev po_1091_Code_copiesRegister (I : FieldType → ClassId) (q1068 : Nat) (q1069 : Nat) (q1070 : Nat) (q1071 : Nat) (q1072 : Nat) (q1073 : Nat) (q1074 : Nat) (q1075 : Nat) (q1076 : Nat) (q1077 : Nat) (p1078 : Int32) (p1079 : Int32) (p1080 : Int32) (p1081 : Int32) (f1082 : Nat → Int32) (f1083 : Nat → Int32) (f1084 : Nat → Int32) (f1085 : Nat → Int32) (f1086 : Nat → Int32) (f1087 : Nat → Int32) (f1088 : Nat → Int32) (f1089 : Nat → Int32) (f1090 : Nat → Int32) : Option Value → va_W → Prop := fun r w => (∃ (z1092 : Int32), r = some (.int 0) ∧ w = [(q1068, .inr (5, [.ref q1069, .ref q1070, .ref q1071, .ref q1072, .ref q1073, .ref q1074, .ref q1075, .ref q1076, .ref q1077, .int p1079, .int p1080, .int p1081])), (q1069, .inl (I .int, 40, .inl f1082)), (q1070, .inl (I .int, 40, .inl f1083)), (q1071, .inl (I .int, 40, .inl f1084)), (q1072, .inl (I .int, 200, .inl f1085)), (q1073, .inl (I .int, 200, .inl f1086)), (q1074, .inl (I .int, 200, .inl f1087)), (q1075, .inl (I .int, 200, .inl f1088)), (q1076, .inl (I .int, 200, .inl f1089)), (q1077, .inl (I .int, 200, .inl f1090))] ∧ z1092.toInt ≠ 14 ∧ z1092 = f1085 p1078.toNatClampNeg ∧ gB z1092 0 21) ∨ (∃ (z1092 : Int32) (z1096 : Int32), r = some (.int 0) ∧ w = [(q1068, .inr (5, [.ref q1069, .ref q1070, .ref q1071, .ref q1072, .ref q1073, .ref q1074, .ref q1075, .ref q1076, .ref q1077, .int p1079, .int p1080, .int p1081])), (q1069, .inl (I .int, 40, .inl f1082)), (q1070, .inl (I .int, 40, .inl f1083)), (q1071, .inl (I .int, 40, .inl f1084)), (q1072, .inl (I .int, 200, .inl f1085)), (q1073, .inl (I .int, 200, .inl f1086)), (q1074, .inl (I .int, 200, .inl f1087)), (q1075, .inl (I .int, 200, .inl f1088)), (q1076, .inl (I .int, 200, .inl f1089)), (q1077, .inl (I .int, 200, .inl f1090))] ∧ z1092.toInt = 14 ∧ z1096.toInt < 0 ∧ z1092 = f1085 p1078.toNatClampNeg ∧ z1096 = f1086 p1078.toNatClampNeg ∧ gB z1092 14 14 ∧ gB z1096 (-2147483648) (-1)) ∨ (∃ (z1092 : Int32) (z1096 : Int32) (z1100 : Int32), r = some (.int 0) ∧ w = [(q1068, .inr (5, [.ref q1069, .ref q1070, .ref q1071, .ref q1072, .ref q1073, .ref q1074, .ref q1075, .ref q1076, .ref q1077, .int p1079, .int p1080, .int p1081])), (q1069, .inl (I .int, 40, .inl f1082)), (q1070, .inl (I .int, 40, .inl f1083)), (q1071, .inl (I .int, 40, .inl f1084)), (q1072, .inl (I .int, 200, .inl f1085)), (q1073, .inl (I .int, 200, .inl f1086)), (q1074, .inl (I .int, 200, .inl f1087)), (q1075, .inl (I .int, 200, .inl f1088)), (q1076, .inl (I .int, 200, .inl f1089)), (q1077, .inl (I .int, 200, .inl f1090))] ∧ z1092.toInt = 14 ∧ 0 ≤ z1096.toInt ∧ z1100.toInt < 0 ∧ z1092 = f1085 p1078.toNatClampNeg ∧ z1096 = f1086 p1078.toNatClampNeg ∧ z1100 = f1087 p1078.toNatClampNeg ∧ gB z1092 14 14 ∧ gB z1096 0 2147483647 ∧ gB z1100 (-2147483648) (-1)) ∨ (∃ (z1092 : Int32) (z1096 : Int32) (z1100 : Int32), r = some (.int 1) ∧ w = [(q1068, .inr (5, [.ref q1069, .ref q1070, .ref q1071, .ref q1072, .ref q1073, .ref q1074, .ref q1075, .ref q1076, .ref q1077, .int p1079, .int p1080, .int p1081])), (q1069, .inl (I .int, 40, .inl f1082)), (q1070, .inl (I .int, 40, .inl f1083)), (q1071, .inl (I .int, 40, .inl f1084)), (q1072, .inl (I .int, 200, .inl f1085)), (q1073, .inl (I .int, 200, .inl f1086)), (q1074, .inl (I .int, 200, .inl f1087)), (q1075, .inl (I .int, 200, .inl f1088)), (q1076, .inl (I .int, 200, .inl f1089)), (q1077, .inl (I .int, 200, .inl f1090))] ∧ z1092.toInt = 14 ∧ 0 ≤ z1096.toInt ∧ 0 ≤ z1100.toInt ∧ z1092 = f1085 p1078.toNatClampNeg ∧ z1096 = f1086 p1078.toNatClampNeg ∧ z1100 = f1087 p1078.toNatClampNeg ∧ gB z1092 14 14 ∧ gB z1096 0 2147483647 ∧ gB z1100 0 2147483647)
set_option maxRecDepth 100000 in
set_option maxHeartbeats 4000000 in
theorem ct_1091_Code_copiesRegister (l : Launch) (hl0 : l.stackTraces = false) (D : va_G) (I : FieldType → ClassId) (q1068 : Nat) (q1069 : Nat) (q1070 : Nat) (q1071 : Nat) (q1072 : Nat) (q1073 : Nat) (q1074 : Nat) (q1075 : Nat) (q1076 : Nat) (q1077 : Nat) (p1078 : Int32) (p1079 : Int32) (p1080 : Int32) (p1081 : Int32) (f1082 : Nat → Int32) (f1083 : Nat → Int32) (f1084 : Nat → Int32) (f1085 : Nat → Int32) (f1086 : Nat → Int32) (f1087 : Nat → Int32) (f1088 : Nat → Int32) (f1089 : Nat → Int32) (f1090 : Nat → Int32) (bp1078 : gB p1078 0 199) (bp1079 : gB p1079 0 40) (bp1080 : gB p1080 0 200) (bp1081 : gB p1081 0 1) (bf1082 : gF f1082 0 200) (bf1085 : gF f1085 0 21) : Ct (gV D I) l yX0_copiesRegister cX0_copiesRegister 2 (some FieldType.boolean) 0 0 0 0 [.ref q1068, .int p1078] [(q1068, .inr (5, [.ref q1069, .ref q1070, .ref q1071, .ref q1072, .ref q1073, .ref q1074, .ref q1075, .ref q1076, .ref q1077, .int p1079, .int p1080, .int p1081])), (q1069, .inl (I .int, 40, .inl f1082)), (q1070, .inl (I .int, 40, .inl f1083)), (q1071, .inl (I .int, 40, .inl f1084)), (q1072, .inl (I .int, 200, .inl f1085)), (q1073, .inl (I .int, 200, .inl f1086)), (q1074, .inl (I .int, 200, .inl f1087)), (q1075, .inl (I .int, 200, .inl f1088)), (q1076, .inl (I .int, 200, .inl f1089)), (q1077, .inl (I .int, 200, .inl f1090))] (po_1091_Code_copiesRegister I q1068 q1069 q1070 q1071 q1072 q1073 q1074 q1075 q1076 q1077 p1078 p1079 p1080 p1081 f1082 f1083 f1084 f1085 f1086 f1087 f1088 f1089 f1090) gN := by
  refine Ct_of hl0 (by decide) (Nat.le_of_ble_eq_true rfl) ?_
  refine G_aload_n 0 d_cX0_copiesRegister_0 rfl ?_
  refine G_getf 0 3 d_cX0_copiesRegister_1 rfl (gk_X0 D I) (Nat.le_of_ble_eq_true rfl) w_1_159 rfl ?_
  refine G_iload_n 1 d_cX0_copiesRegister_4 rfl ?_
  refine G_iald 4 0 d_cX0_copiesRegister_5 rfl rfl (gB_in bp1078 (by decide) (by decide)) (G_nam fun z1092 hz1092 => ?_)
  have bz1092 : gB z1092 0 21 := by rw [hz1092]; exact bf1085 _
  refine G_bipush 14 d_cX0_copiesRegister_6 (by decide +kernel) ?_
  refine G_icmp_ne 33 d_cX0_copiesRegister_8 (by decide +kernel) (fun hc1093 => ?_) (fun hc1093 => ?_)
  · have r1094 : z1092.toInt ≠ 14 := gj_neq hc1093 (show Int32.toInt 14 = 14 by decide)
    refine G_iconst 0 d_cX0_copiesRegister_33 (by decide +kernel) ?_
    exact G_zret FieldType.boolean d_cX0_copiesRegister_34 rfl rfl (Nat.le_of_ble_eq_true rfl) (Nat.le_of_ble_eq_true rfl) (Or.inl ⟨z1092, rfl, rfl, r1094, hz1092, bz1092⟩)
  · have r1095 : z1092.toInt = 14 := gj_eq hc1093 (show Int32.toInt 14 = 14 by decide)
    have bz1092' : gB z1092 14 14 := ⟨by omega, by omega⟩
    refine G_aload_n 0 d_cX0_copiesRegister_11 rfl ?_
    refine G_getf 0 4 d_cX0_copiesRegister_12 rfl (gk_X0 D I) (Nat.le_of_ble_eq_true rfl) w_1_163 rfl ?_
    refine G_iload_n 1 d_cX0_copiesRegister_15 rfl ?_
    refine G_iald 5 0 d_cX0_copiesRegister_16 rfl rfl (gB_in bp1078 (by decide) (by decide)) (G_nam fun z1096 hz1096 => ?_)
    have bz1096 : gB z1096 (-2147483648) 2147483647 := gB_any z1096
    refine G_if_lt 33 d_cX0_copiesRegister_17 (by decide +kernel) (fun hc1097 => ?_) (fun hc1097 => ?_)
    · have r1098 : z1096.toInt < 0 := gj_lt hc1097 (show Int32.toInt 0 = 0 by decide)
      have bz1096' : gB z1096 (-2147483648) (-1) := ⟨by omega, by omega⟩
      refine G_iconst 0 d_cX0_copiesRegister_33 (by decide +kernel) ?_
      exact G_zret FieldType.boolean d_cX0_copiesRegister_34 rfl rfl (Nat.le_of_ble_eq_true rfl) (Nat.le_of_ble_eq_true rfl) (Or.inr (Or.inl ⟨z1092, z1096, rfl, rfl, r1095, r1098, hz1092, hz1096, bz1092', bz1096'⟩))
    · have r1099 : 0 ≤ z1096.toInt := gj_nlt hc1097 (show Int32.toInt 0 = 0 by decide)
      have bz1096' : gB z1096 0 2147483647 := ⟨by omega, by omega⟩
      refine G_aload_n 0 d_cX0_copiesRegister_20 rfl ?_
      refine G_getf 0 5 d_cX0_copiesRegister_21 rfl (gk_X0 D I) (Nat.le_of_ble_eq_true rfl) w_1_168 rfl ?_
      refine G_iload_n 1 d_cX0_copiesRegister_24 rfl ?_
      refine G_iald 6 0 d_cX0_copiesRegister_25 rfl rfl (gB_in bp1078 (by decide) (by decide)) (G_nam fun z1100 hz1100 => ?_)
      have bz1100 : gB z1100 (-2147483648) 2147483647 := gB_any z1100
      refine G_if_lt 33 d_cX0_copiesRegister_26 (by decide +kernel) (fun hc1101 => ?_) (fun hc1101 => ?_)
      · have r1102 : z1100.toInt < 0 := gj_lt hc1101 (show Int32.toInt 0 = 0 by decide)
        have bz1100' : gB z1100 (-2147483648) (-1) := ⟨by omega, by omega⟩
        refine G_iconst 0 d_cX0_copiesRegister_33 (by decide +kernel) ?_
        exact G_zret FieldType.boolean d_cX0_copiesRegister_34 rfl rfl (Nat.le_of_ble_eq_true rfl) (Nat.le_of_ble_eq_true rfl) (Or.inr (Or.inr (Or.inl ⟨z1092, z1096, z1100, rfl, rfl, r1095, r1099, r1102, hz1092, hz1096, hz1100, bz1092', bz1096', bz1100'⟩)))
      · have r1103 : 0 ≤ z1100.toInt := gj_nlt hc1101 (show Int32.toInt 0 = 0 by decide)
        have bz1100' : gB z1100 0 2147483647 := ⟨by omega, by omega⟩
        refine G_iconst 1 d_cX0_copiesRegister_29 (by decide +kernel) ?_
        refine G_goto 34 d_cX0_copiesRegister_30 (by decide +kernel) ?_
        exact G_zret FieldType.boolean d_cX0_copiesRegister_34 rfl rfl (Nat.le_of_ble_eq_true rfl) (Nat.le_of_ble_eq_true rfl) (Or.inr (Or.inr (Or.inr (⟨z1092, z1096, z1100, rfl, rfl, r1095, r1099, r1103, hz1092, hz1096, hz1100, bz1092', bz1096', bz1100'⟩))))
abbrev ky_1128_Code_setBy : gKey := (cX0_setBy, 3, yX0_setBy.cls, (some FieldType.int), [], yX0_setBy.name, fun _ _ => True)
abbrev po_1128_Code_setBy (I : FieldType → ClassId) (q1104 : Nat) (q1105 : Nat) (q1106 : Nat) (q1107 : Nat) (q1108 : Nat) (q1109 : Nat) (q1110 : Nat) (q1111 : Nat) (q1112 : Nat) (q1113 : Nat) (p1114 : Int32) (p1115 : Int32) (p1116 : Int32) (p1117 : Int32) (p1118 : Int32) (f1119 : Nat → Int32) (f1120 : Nat → Int32) (f1121 : Nat → Int32) (f1122 : Nat → Int32) (f1123 : Nat → Int32) (f1124 : Nat → Int32) (f1125 : Nat → Int32) (f1126 : Nat → Int32) (f1127 : Nat → Int32) : Option Value → va_W → Prop := fun r w => (∃ (z1131 : Int32), r = some (.int z1131) ∧ w = [(q1104, .inr (5, [.ref q1105, .ref q1106, .ref q1107, .ref q1108, .ref q1109, .ref q1110, .ref q1111, .ref q1112, .ref q1113, .int p1116, .int p1117, .int p1118])), (q1105, .inl (I .int, 40, .inl f1119)), (q1106, .inl (I .int, 40, .inl f1120)), (q1107, .inl (I .int, 40, .inl f1121)), (q1108, .inl (I .int, 200, .inl f1122)), (q1109, .inl (I .int, 200, .inl f1123)), (q1110, .inl (I .int, 200, .inl f1124)), (q1111, .inl (I .int, 200, .inl f1125)), (q1112, .inl (I .int, 200, .inl f1126)), (q1113, .inl (I .int, 200, .inl f1127))] ∧ p1115.toInt = 0 ∧ z1131 = f1123 p1114.toNatClampNeg ∧ gB z1131 (-2147483648) 2147483647) ∨ (∃ (z1133 : Int32), r = some (.int (-1)) ∧ w = [(q1104, .inr (5, [.ref q1105, .ref q1106, .ref q1107, .ref q1108, .ref q1109, .ref q1110, .ref q1111, .ref q1112, .ref q1113, .int p1116, .int p1117, .int p1118])), (q1105, .inl (I .int, 40, .inl f1119)), (q1106, .inl (I .int, 40, .inl f1120)), (q1107, .inl (I .int, 40, .inl f1121)), (q1108, .inl (I .int, 200, .inl f1122)), (q1109, .inl (I .int, 200, .inl f1123)), (q1110, .inl (I .int, 200, .inl f1124)), (q1111, .inl (I .int, 200, .inl f1125)), (q1112, .inl (I .int, 200, .inl f1126)), (q1113, .inl (I .int, 200, .inl f1127))] ∧ p1115.toInt ≠ 0 ∧ z1133.toInt ≠ 18 ∧ z1133 = f1122 p1114.toNatClampNeg ∧ gB z1133 0 21) ∨ (∃ (z1137 : Int32) (z1133 : Int32), r = some (.int z1137) ∧ w = [(q1104, .inr (5, [.ref q1105, .ref q1106, .ref q1107, .ref q1108, .ref q1109, .ref q1110, .ref q1111, .ref q1112, .ref q1113, .int p1116, .int p1117, .int p1118])), (q1105, .inl (I .int, 40, .inl f1119)), (q1106, .inl (I .int, 40, .inl f1120)), (q1107, .inl (I .int, 40, .inl f1121)), (q1108, .inl (I .int, 200, .inl f1122)), (q1109, .inl (I .int, 200, .inl f1123)), (q1110, .inl (I .int, 200, .inl f1124)), (q1111, .inl (I .int, 200, .inl f1125)), (q1112, .inl (I .int, 200, .inl f1126)), (q1113, .inl (I .int, 200, .inl f1127))] ∧ p1115.toInt ≠ 0 ∧ z1133.toInt = 18 ∧ z1133 = f1122 p1114.toNatClampNeg ∧ z1137 = f1127 p1114.toNatClampNeg ∧ gB z1137 (-2147483648) 2147483647 ∧ gB z1133 18 18)
set_option maxRecDepth 100000 in
set_option maxHeartbeats 4000000 in
theorem ct_1128_Code_setBy (l : Launch) (hl0 : l.stackTraces = false) (D : va_G) (I : FieldType → ClassId) (q1104 : Nat) (q1105 : Nat) (q1106 : Nat) (q1107 : Nat) (q1108 : Nat) (q1109 : Nat) (q1110 : Nat) (q1111 : Nat) (q1112 : Nat) (q1113 : Nat) (p1114 : Int32) (p1115 : Int32) (p1116 : Int32) (p1117 : Int32) (p1118 : Int32) (f1119 : Nat → Int32) (f1120 : Nat → Int32) (f1121 : Nat → Int32) (f1122 : Nat → Int32) (f1123 : Nat → Int32) (f1124 : Nat → Int32) (f1125 : Nat → Int32) (f1126 : Nat → Int32) (f1127 : Nat → Int32) (bp1114 : gB p1114 0 199) (bp1115 : gB p1115 0 1) (bp1116 : gB p1116 0 40) (bp1117 : gB p1117 0 200) (bp1118 : gB p1118 0 1) (bf1119 : gF f1119 0 200) (bf1122 : gF f1122 0 21) : Ct (gV D I) l yX0_setBy cX0_setBy 3 (some FieldType.int) 0 0 0 0 [.ref q1104, .int p1114, .int p1115] [(q1104, .inr (5, [.ref q1105, .ref q1106, .ref q1107, .ref q1108, .ref q1109, .ref q1110, .ref q1111, .ref q1112, .ref q1113, .int p1116, .int p1117, .int p1118])), (q1105, .inl (I .int, 40, .inl f1119)), (q1106, .inl (I .int, 40, .inl f1120)), (q1107, .inl (I .int, 40, .inl f1121)), (q1108, .inl (I .int, 200, .inl f1122)), (q1109, .inl (I .int, 200, .inl f1123)), (q1110, .inl (I .int, 200, .inl f1124)), (q1111, .inl (I .int, 200, .inl f1125)), (q1112, .inl (I .int, 200, .inl f1126)), (q1113, .inl (I .int, 200, .inl f1127))] (po_1128_Code_setBy I q1104 q1105 q1106 q1107 q1108 q1109 q1110 q1111 q1112 q1113 p1114 p1115 p1116 p1117 p1118 f1119 f1120 f1121 f1122 f1123 f1124 f1125 f1126 f1127) gN := by
  refine Ct_of hl0 (by decide) (Nat.le_of_ble_eq_true rfl) ?_
  refine G_iload_n 2 d_cX0_setBy_0 rfl ?_
  refine G_if_eq 26 d_cX0_setBy_1 (by decide +kernel) (fun hc1129 => ?_) (fun hc1129 => ?_)
  · have r1130 : p1115.toInt = 0 := gj_eq hc1129 (show Int32.toInt 0 = 0 by decide)
    have bp1115' : gB p1115 0 0 := ⟨by omega, by omega⟩
    refine G_aload_n 0 d_cX0_setBy_26 rfl ?_
    refine G_getf 0 4 d_cX0_setBy_27 rfl (gk_X0 D I) (Nat.le_of_ble_eq_true rfl) w_1_163 rfl ?_
    refine G_iload_n 1 d_cX0_setBy_30 rfl ?_
    refine G_iald 5 0 d_cX0_setBy_31 rfl rfl (gB_in bp1114 (by decide) (by decide)) (G_nam fun z1131 hz1131 => ?_)
    have bz1131 : gB z1131 (-2147483648) 2147483647 := gB_any z1131
    exact G_iret d_cX0_setBy_32 rfl (Nat.le_of_ble_eq_true rfl) (Nat.le_of_ble_eq_true rfl) (Or.inl ⟨z1131, rfl, rfl, r1130, hz1131, bz1131⟩)
  · have r1132 : p1115.toInt ≠ 0 := gj_neq hc1129 (show Int32.toInt 0 = 0 by decide)
    have bp1115' : gB p1115 1 1 := ⟨by omega, by omega⟩
    refine G_aload_n 0 d_cX0_setBy_4 rfl ?_
    refine G_getf 0 3 d_cX0_setBy_5 rfl (gk_X0 D I) (Nat.le_of_ble_eq_true rfl) w_1_159 rfl ?_
    refine G_iload_n 1 d_cX0_setBy_8 rfl ?_
    refine G_iald 4 0 d_cX0_setBy_9 rfl rfl (gB_in bp1114 (by decide) (by decide)) (G_nam fun z1133 hz1133 => ?_)
    have bz1133 : gB z1133 0 21 := by rw [hz1133]; exact bf1122 _
    refine G_bipush 18 d_cX0_setBy_10 (by decide +kernel) ?_
    refine G_icmp_ne 24 d_cX0_setBy_12 (by decide +kernel) (fun hc1134 => ?_) (fun hc1134 => ?_)
    · have r1135 : z1133.toInt ≠ 18 := gj_neq hc1134 (show Int32.toInt 18 = 18 by decide)
      refine G_iconst (-1) d_cX0_setBy_24 (by decide +kernel) ?_
      exact G_iret d_cX0_setBy_25 rfl (Nat.le_of_ble_eq_true rfl) (Nat.le_of_ble_eq_true rfl) (Or.inr (Or.inl ⟨z1133, rfl, rfl, r1132, r1135, hz1133, bz1133⟩))
    · have r1136 : z1133.toInt = 18 := gj_eq hc1134 (show Int32.toInt 18 = 18 by decide)
      have bz1133' : gB z1133 18 18 := ⟨by omega, by omega⟩
      refine G_aload_n 0 d_cX0_setBy_15 rfl ?_
      refine G_getf 0 8 d_cX0_setBy_16 rfl (gk_X0 D I) (Nat.le_of_ble_eq_true rfl) w_1_183 rfl ?_
      refine G_iload_n 1 d_cX0_setBy_19 rfl ?_
      refine G_iald 9 0 d_cX0_setBy_20 rfl rfl (gB_in bp1114 (by decide) (by decide)) (G_nam fun z1137 hz1137 => ?_)
      have bz1137 : gB z1137 (-2147483648) 2147483647 := gB_any z1137
      refine G_goto 25 d_cX0_setBy_21 (by decide +kernel) ?_
      exact G_iret d_cX0_setBy_25 rfl (Nat.le_of_ble_eq_true rfl) (Nat.le_of_ble_eq_true rfl) (Or.inr (Or.inr (⟨z1137, z1133, rfl, rfl, r1132, r1136, hz1133, hz1137, bz1137, bz1133'⟩)))
abbrev ky_1162_Code_firstUse : gKey := (cX0_firstUse, 3, yX0_firstUse.cls, (some FieldType.int), [], yX0_firstUse.name, fun _ _ => True)
abbrev po_1162_Code_firstUse (I : FieldType → ClassId) (q1138 : Nat) (q1139 : Nat) (q1140 : Nat) (q1141 : Nat) (q1142 : Nat) (q1143 : Nat) (q1144 : Nat) (q1145 : Nat) (q1146 : Nat) (q1147 : Nat) (p1148 : Int32) (p1149 : Int32) (p1150 : Int32) (p1151 : Int32) (p1152 : Int32) (f1153 : Nat → Int32) (f1154 : Nat → Int32) (f1155 : Nat → Int32) (f1156 : Nat → Int32) (f1157 : Nat → Int32) (f1158 : Nat → Int32) (f1159 : Nat → Int32) (f1160 : Nat → Int32) (f1161 : Nat → Int32) : Option Value → va_W → Prop := fun r w => (∃ (z1165 : Int32), r = some (.int z1165) ∧ w = [(q1138, .inr (5, [.ref q1139, .ref q1140, .ref q1141, .ref q1142, .ref q1143, .ref q1144, .ref q1145, .ref q1146, .ref q1147, .int p1150, .int p1151, .int p1152])), (q1139, .inl (I .int, 40, .inl f1153)), (q1140, .inl (I .int, 40, .inl f1154)), (q1141, .inl (I .int, 40, .inl f1155)), (q1142, .inl (I .int, 200, .inl f1156)), (q1143, .inl (I .int, 200, .inl f1157)), (q1144, .inl (I .int, 200, .inl f1158)), (q1145, .inl (I .int, 200, .inl f1159)), (q1146, .inl (I .int, 200, .inl f1160)), (q1147, .inl (I .int, 200, .inl f1161))] ∧ p1149.toInt = 0 ∧ z1165 = f1158 p1148.toNatClampNeg ∧ gB z1165 (-2147483648) 2147483647) ∨ (∃ (z1167 : Int32), r = some (.int (-1)) ∧ w = [(q1138, .inr (5, [.ref q1139, .ref q1140, .ref q1141, .ref q1142, .ref q1143, .ref q1144, .ref q1145, .ref q1146, .ref q1147, .int p1150, .int p1151, .int p1152])), (q1139, .inl (I .int, 40, .inl f1153)), (q1140, .inl (I .int, 40, .inl f1154)), (q1141, .inl (I .int, 40, .inl f1155)), (q1142, .inl (I .int, 200, .inl f1156)), (q1143, .inl (I .int, 200, .inl f1157)), (q1144, .inl (I .int, 200, .inl f1158)), (q1145, .inl (I .int, 200, .inl f1159)), (q1146, .inl (I .int, 200, .inl f1160)), (q1147, .inl (I .int, 200, .inl f1161))] ∧ p1149.toInt ≠ 0 ∧ z1167.toInt ≠ 17 ∧ z1167 = f1156 p1148.toNatClampNeg ∧ gB z1167 0 21) ∨ (∃ (z1171 : Int32) (z1167 : Int32), r = some (.int z1171) ∧ w = [(q1138, .inr (5, [.ref q1139, .ref q1140, .ref q1141, .ref q1142, .ref q1143, .ref q1144, .ref q1145, .ref q1146, .ref q1147, .int p1150, .int p1151, .int p1152])), (q1139, .inl (I .int, 40, .inl f1153)), (q1140, .inl (I .int, 40, .inl f1154)), (q1141, .inl (I .int, 40, .inl f1155)), (q1142, .inl (I .int, 200, .inl f1156)), (q1143, .inl (I .int, 200, .inl f1157)), (q1144, .inl (I .int, 200, .inl f1158)), (q1145, .inl (I .int, 200, .inl f1159)), (q1146, .inl (I .int, 200, .inl f1160)), (q1147, .inl (I .int, 200, .inl f1161))] ∧ p1149.toInt ≠ 0 ∧ z1167.toInt = 17 ∧ z1167 = f1156 p1148.toNatClampNeg ∧ z1171 = f1161 p1148.toNatClampNeg ∧ gB z1171 (-2147483648) 2147483647 ∧ gB z1167 17 17)
set_option maxRecDepth 100000 in
set_option maxHeartbeats 4000000 in
theorem ct_1162_Code_firstUse (l : Launch) (hl0 : l.stackTraces = false) (D : va_G) (I : FieldType → ClassId) (q1138 : Nat) (q1139 : Nat) (q1140 : Nat) (q1141 : Nat) (q1142 : Nat) (q1143 : Nat) (q1144 : Nat) (q1145 : Nat) (q1146 : Nat) (q1147 : Nat) (p1148 : Int32) (p1149 : Int32) (p1150 : Int32) (p1151 : Int32) (p1152 : Int32) (f1153 : Nat → Int32) (f1154 : Nat → Int32) (f1155 : Nat → Int32) (f1156 : Nat → Int32) (f1157 : Nat → Int32) (f1158 : Nat → Int32) (f1159 : Nat → Int32) (f1160 : Nat → Int32) (f1161 : Nat → Int32) (bp1148 : gB p1148 0 199) (bp1149 : gB p1149 0 1) (bp1150 : gB p1150 0 40) (bp1151 : gB p1151 0 200) (bp1152 : gB p1152 0 1) (bf1153 : gF f1153 0 200) (bf1156 : gF f1156 0 21) : Ct (gV D I) l yX0_firstUse cX0_firstUse 3 (some FieldType.int) 0 0 0 0 [.ref q1138, .int p1148, .int p1149] [(q1138, .inr (5, [.ref q1139, .ref q1140, .ref q1141, .ref q1142, .ref q1143, .ref q1144, .ref q1145, .ref q1146, .ref q1147, .int p1150, .int p1151, .int p1152])), (q1139, .inl (I .int, 40, .inl f1153)), (q1140, .inl (I .int, 40, .inl f1154)), (q1141, .inl (I .int, 40, .inl f1155)), (q1142, .inl (I .int, 200, .inl f1156)), (q1143, .inl (I .int, 200, .inl f1157)), (q1144, .inl (I .int, 200, .inl f1158)), (q1145, .inl (I .int, 200, .inl f1159)), (q1146, .inl (I .int, 200, .inl f1160)), (q1147, .inl (I .int, 200, .inl f1161))] (po_1162_Code_firstUse I q1138 q1139 q1140 q1141 q1142 q1143 q1144 q1145 q1146 q1147 p1148 p1149 p1150 p1151 p1152 f1153 f1154 f1155 f1156 f1157 f1158 f1159 f1160 f1161) gN := by
  refine Ct_of hl0 (by decide) (Nat.le_of_ble_eq_true rfl) ?_
  refine G_iload_n 2 d_cX0_firstUse_0 rfl ?_
  refine G_if_eq 26 d_cX0_firstUse_1 (by decide +kernel) (fun hc1163 => ?_) (fun hc1163 => ?_)
  · have r1164 : p1149.toInt = 0 := gj_eq hc1163 (show Int32.toInt 0 = 0 by decide)
    have bp1149' : gB p1149 0 0 := ⟨by omega, by omega⟩
    refine G_aload_n 0 d_cX0_firstUse_26 rfl ?_
    refine G_getf 0 5 d_cX0_firstUse_27 rfl (gk_X0 D I) (Nat.le_of_ble_eq_true rfl) w_1_168 rfl ?_
    refine G_iload_n 1 d_cX0_firstUse_30 rfl ?_
    refine G_iald 6 0 d_cX0_firstUse_31 rfl rfl (gB_in bp1148 (by decide) (by decide)) (G_nam fun z1165 hz1165 => ?_)
    have bz1165 : gB z1165 (-2147483648) 2147483647 := gB_any z1165
    exact G_iret d_cX0_firstUse_32 rfl (Nat.le_of_ble_eq_true rfl) (Nat.le_of_ble_eq_true rfl) (Or.inl ⟨z1165, rfl, rfl, r1164, hz1165, bz1165⟩)
  · have r1166 : p1149.toInt ≠ 0 := gj_neq hc1163 (show Int32.toInt 0 = 0 by decide)
    have bp1149' : gB p1149 1 1 := ⟨by omega, by omega⟩
    refine G_aload_n 0 d_cX0_firstUse_4 rfl ?_
    refine G_getf 0 3 d_cX0_firstUse_5 rfl (gk_X0 D I) (Nat.le_of_ble_eq_true rfl) w_1_159 rfl ?_
    refine G_iload_n 1 d_cX0_firstUse_8 rfl ?_
    refine G_iald 4 0 d_cX0_firstUse_9 rfl rfl (gB_in bp1148 (by decide) (by decide)) (G_nam fun z1167 hz1167 => ?_)
    have bz1167 : gB z1167 0 21 := by rw [hz1167]; exact bf1156 _
    refine G_bipush 17 d_cX0_firstUse_10 (by decide +kernel) ?_
    refine G_icmp_ne 24 d_cX0_firstUse_12 (by decide +kernel) (fun hc1168 => ?_) (fun hc1168 => ?_)
    · have r1169 : z1167.toInt ≠ 17 := gj_neq hc1168 (show Int32.toInt 17 = 17 by decide)
      refine G_iconst (-1) d_cX0_firstUse_24 (by decide +kernel) ?_
      exact G_iret d_cX0_firstUse_25 rfl (Nat.le_of_ble_eq_true rfl) (Nat.le_of_ble_eq_true rfl) (Or.inr (Or.inl ⟨z1167, rfl, rfl, r1166, r1169, hz1167, bz1167⟩))
    · have r1170 : z1167.toInt = 17 := gj_eq hc1168 (show Int32.toInt 17 = 17 by decide)
      have bz1167' : gB z1167 17 17 := ⟨by omega, by omega⟩
      refine G_aload_n 0 d_cX0_firstUse_15 rfl ?_
      refine G_getf 0 8 d_cX0_firstUse_16 rfl (gk_X0 D I) (Nat.le_of_ble_eq_true rfl) w_1_183 rfl ?_
      refine G_iload_n 1 d_cX0_firstUse_19 rfl ?_
      refine G_iald 9 0 d_cX0_firstUse_20 rfl rfl (gB_in bp1148 (by decide) (by decide)) (G_nam fun z1171 hz1171 => ?_)
      have bz1171 : gB z1171 (-2147483648) 2147483647 := gB_any z1171
      refine G_goto 25 d_cX0_firstUse_21 (by decide +kernel) ?_
      exact G_iret d_cX0_firstUse_25 rfl (Nat.le_of_ble_eq_true rfl) (Nat.le_of_ble_eq_true rfl) (Or.inr (Or.inr (⟨z1171, z1167, rfl, rfl, r1166, r1170, hz1167, hz1171, bz1171, bz1167'⟩)))
abbrev ky_1196_Code_secondUse : gKey := (cX0_secondUse, 3, yX0_secondUse.cls, (some FieldType.int), [], yX0_secondUse.name, fun _ _ => True)
abbrev po_1196_Code_secondUse (I : FieldType → ClassId) (q1172 : Nat) (q1173 : Nat) (q1174 : Nat) (q1175 : Nat) (q1176 : Nat) (q1177 : Nat) (q1178 : Nat) (q1179 : Nat) (q1180 : Nat) (q1181 : Nat) (p1182 : Int32) (p1183 : Int32) (p1184 : Int32) (p1185 : Int32) (p1186 : Int32) (f1187 : Nat → Int32) (f1188 : Nat → Int32) (f1189 : Nat → Int32) (f1190 : Nat → Int32) (f1191 : Nat → Int32) (f1192 : Nat → Int32) (f1193 : Nat → Int32) (f1194 : Nat → Int32) (f1195 : Nat → Int32) : Option Value → va_W → Prop := fun r w => (∃ (z1199 : Int32), r = some (.int z1199) ∧ w = [(q1172, .inr (5, [.ref q1173, .ref q1174, .ref q1175, .ref q1176, .ref q1177, .ref q1178, .ref q1179, .ref q1180, .ref q1181, .int p1184, .int p1185, .int p1186])), (q1173, .inl (I .int, 40, .inl f1187)), (q1174, .inl (I .int, 40, .inl f1188)), (q1175, .inl (I .int, 40, .inl f1189)), (q1176, .inl (I .int, 200, .inl f1190)), (q1177, .inl (I .int, 200, .inl f1191)), (q1178, .inl (I .int, 200, .inl f1192)), (q1179, .inl (I .int, 200, .inl f1193)), (q1180, .inl (I .int, 200, .inl f1194)), (q1181, .inl (I .int, 200, .inl f1195))] ∧ p1183.toInt = 0 ∧ z1199 = f1194 p1182.toNatClampNeg ∧ gB z1199 (-2147483648) 2147483647) ∨ (r = some (.int (-1)) ∧ w = [(q1172, .inr (5, [.ref q1173, .ref q1174, .ref q1175, .ref q1176, .ref q1177, .ref q1178, .ref q1179, .ref q1180, .ref q1181, .int p1184, .int p1185, .int p1186])), (q1173, .inl (I .int, 40, .inl f1187)), (q1174, .inl (I .int, 40, .inl f1188)), (q1175, .inl (I .int, 40, .inl f1189)), (q1176, .inl (I .int, 200, .inl f1190)), (q1177, .inl (I .int, 200, .inl f1191)), (q1178, .inl (I .int, 200, .inl f1192)), (q1179, .inl (I .int, 200, .inl f1193)), (q1180, .inl (I .int, 200, .inl f1194)), (q1181, .inl (I .int, 200, .inl f1195))] ∧ p1183.toInt ≠ 0)
set_option maxRecDepth 100000 in
set_option maxHeartbeats 4000000 in
theorem ct_1196_Code_secondUse (l : Launch) (hl0 : l.stackTraces = false) (D : va_G) (I : FieldType → ClassId) (q1172 : Nat) (q1173 : Nat) (q1174 : Nat) (q1175 : Nat) (q1176 : Nat) (q1177 : Nat) (q1178 : Nat) (q1179 : Nat) (q1180 : Nat) (q1181 : Nat) (p1182 : Int32) (p1183 : Int32) (p1184 : Int32) (p1185 : Int32) (p1186 : Int32) (f1187 : Nat → Int32) (f1188 : Nat → Int32) (f1189 : Nat → Int32) (f1190 : Nat → Int32) (f1191 : Nat → Int32) (f1192 : Nat → Int32) (f1193 : Nat → Int32) (f1194 : Nat → Int32) (f1195 : Nat → Int32) (bp1182 : gB p1182 0 199) (bp1183 : gB p1183 0 1) (bp1184 : gB p1184 0 40) (bp1185 : gB p1185 0 200) (bp1186 : gB p1186 0 1) (bf1187 : gF f1187 0 200) (bf1190 : gF f1190 0 21) : Ct (gV D I) l yX0_secondUse cX0_secondUse 3 (some FieldType.int) 0 0 0 0 [.ref q1172, .int p1182, .int p1183] [(q1172, .inr (5, [.ref q1173, .ref q1174, .ref q1175, .ref q1176, .ref q1177, .ref q1178, .ref q1179, .ref q1180, .ref q1181, .int p1184, .int p1185, .int p1186])), (q1173, .inl (I .int, 40, .inl f1187)), (q1174, .inl (I .int, 40, .inl f1188)), (q1175, .inl (I .int, 40, .inl f1189)), (q1176, .inl (I .int, 200, .inl f1190)), (q1177, .inl (I .int, 200, .inl f1191)), (q1178, .inl (I .int, 200, .inl f1192)), (q1179, .inl (I .int, 200, .inl f1193)), (q1180, .inl (I .int, 200, .inl f1194)), (q1181, .inl (I .int, 200, .inl f1195))] (po_1196_Code_secondUse I q1172 q1173 q1174 q1175 q1176 q1177 q1178 q1179 q1180 q1181 p1182 p1183 p1184 p1185 p1186 f1187 f1188 f1189 f1190 f1191 f1192 f1193 f1194 f1195) gN := by
  refine Ct_of hl0 (by decide) (Nat.le_of_ble_eq_true rfl) ?_
  refine G_iload_n 2 d_cX0_secondUse_0 rfl ?_
  refine G_if_eq 8 d_cX0_secondUse_1 (by decide +kernel) (fun hc1197 => ?_) (fun hc1197 => ?_)
  · have r1198 : p1183.toInt = 0 := gj_eq hc1197 (show Int32.toInt 0 = 0 by decide)
    have bp1183' : gB p1183 0 0 := ⟨by omega, by omega⟩
    refine G_aload_n 0 d_cX0_secondUse_8 rfl ?_
    refine G_getf 0 7 d_cX0_secondUse_9 rfl (gk_X0 D I) (Nat.le_of_ble_eq_true rfl) w_1_178 rfl ?_
    refine G_iload_n 1 d_cX0_secondUse_12 rfl ?_
    refine G_iald 8 0 d_cX0_secondUse_13 rfl rfl (gB_in bp1182 (by decide) (by decide)) (G_nam fun z1199 hz1199 => ?_)
    have bz1199 : gB z1199 (-2147483648) 2147483647 := gB_any z1199
    exact G_iret d_cX0_secondUse_14 rfl (Nat.le_of_ble_eq_true rfl) (Nat.le_of_ble_eq_true rfl) (Or.inl ⟨z1199, rfl, rfl, r1198, hz1199, bz1199⟩)
  · have r1200 : p1183.toInt ≠ 0 := gj_neq hc1197 (show Int32.toInt 0 = 0 by decide)
    have bp1183' : gB p1183 1 1 := ⟨by omega, by omega⟩
    refine G_iconst (-1) d_cX0_secondUse_4 (by decide +kernel) ?_
    refine G_goto 14 d_cX0_secondUse_5 (by decide +kernel) ?_
    exact G_iret d_cX0_secondUse_14 rfl (Nat.le_of_ble_eq_true rfl) (Nat.le_of_ble_eq_true rfl) (Or.inr (⟨rfl, rfl, r1200⟩))
abbrev ky_1234_Arrays_fill : gKey := (cJ7_fill_d0a16, 5, yJ7_fill_d0a16.cls, none, [], yJ7_fill_d0a16.name, fun _ _ => True)
abbrev po_1234_Arrays_fill (I : FieldType → ClassId) (q1231 : Nat) (pl1232 : Int64) (f1233 : Nat → Int64) : Option Value → va_W → Prop := fun r w => ∃ (f1269 : Nat → Int64), r = none ∧ w = [(q1231, .inl (I .long, 40, .inr (.inl f1269)))]
set_option maxRecDepth 100000 in
set_option maxHeartbeats 4000000 in
theorem ct_1234_Arrays_fill (l : Launch) (hl0 : l.stackTraces = false) (D : va_G) (I : FieldType → ClassId) (q1231 : Nat) (pl1232 : Int64) (f1233 : Nat → Int64)  : Ct (gV D I) l yJ7_fill_d0a16 cJ7_fill_d0a16 5 none 0 0 0 0 [.ref q1231, .long pl1232] [(q1231, .inl (I .long, 40, .inr (.inl f1233)))] (po_1234_Arrays_fill I q1231 pl1232 f1233) gN := by
  refine Ct_ofF hl0 (by decide +kernel) (Nat.le_of_ble_eq_true rfl) ?_
  refine G_iconst 0 d_cJ7_fill_d0a16_0 (by decide +kernel) ?_
  refine G_istore_n (L' := [(3, .int 0), (0, .ref q1231), (1, .long pl1232)]) d_cJ7_fill_d0a16_1 (Nat.le_of_ble_eq_true rfl) rfl ?_
  refine G_aload_n 1 d_cJ7_fill_d0a16_2 rfl ?_
  refine G_alen 40 0 2 d_cJ7_fill_d0a16_3 rfl rfl rfl ?_
  refine G_istore (L' := [(4, .int 40), (3, .int 0), (0, .ref q1231), (1, .long pl1232)]) d_cJ7_fill_d0a16_4 (Nat.le_of_ble_eq_true rfl) rfl ?_
  have hlp6_1263 : ∀ (n6_1263 : Nat) (g1262 : Int32) (f1263 : Nat → Int64), gB g1262 0 40 → ((41 : Int) - g1262.toInt).toNat < n6_1263 → G (gV D I) l (gRm 0 0 0 0) (gM (gV D I) (po_1234_Arrays_fill I q1231 pl1232 f1233) gN 0 0) ky_1234_Arrays_fill 6 [(4, .int 40), (3, .int g1262), (0, .ref q1231), (1, .long pl1232)] [] [(q1231, .inl (I .long, 40, .inr (.inl f1263)))] 0 0 := by
    intro n6_1263
    induction n6_1263 with
    | zero => intro g1262 f1263 bg1262 hm6_1263; exact absurd hm6_1263 (Nat.not_lt_zero _)
    | succ n6_1263 ih6_1263 =>
      intro g1262 f1263 bg1262 hm6_1263
      refine G_iload_n 1 d_cJ7_fill_d0a16_6 rfl ?_
      refine G_iload 0 d_cJ7_fill_d0a16_7 rfl ?_
      refine G_icmp_ge 22 d_cJ7_fill_d0a16_9 (by decide +kernel) (fun hc1264 => ?_) (fun hc1264 => ?_)
      · have r1265 : 40 ≤ g1262.toInt := gj_leL hc1264 (show Int32.toInt 40 = 40 by decide)
        have bg1262' : gB g1262 40 40 := ⟨by omega, by omega⟩
        exact G_vret d_cJ7_fill_d0a16_22 rfl (Nat.le_of_ble_eq_true rfl) (Nat.le_of_ble_eq_true rfl) ⟨f1263, rfl, rfl⟩
      · have r1266 : g1262.toInt < 40 := gj_nleL hc1264 (show Int32.toInt 40 = 40 by decide)
        have bg1262' : gB g1262 0 39 := ⟨by omega, by omega⟩
        refine G_aload_n 2 d_cJ7_fill_d0a16_12 rfl ?_
        refine G_iload_n 1 d_cJ7_fill_d0a16_13 rfl ?_
        refine G_lload_n 3 d_cJ7_fill_d0a16_14 rfl ?_
        refine G_lastN 0 2 d_cJ7_fill_d0a16_15 rfl rfl (gB_in bg1262' (by decide) (by decide)) (fun f1267 hf1267 => ?_)
        refine G_ws (ws' := [(q1231, .inl (I .long, 40, .inr (.inl f1267)))]) (cs' := 0) (sl' := 0) rfl rfl rfl ?_
        obtain ⟨z1268, hz1268⟩ : ∃ z : Int32, z = g1262 + Int32.ofInt 1 := ⟨_, rfl⟩
        have ez1268 : z1268.toInt = g1262.toInt + 1 := gI_inc hz1268 (by decide) bg1262' (by decide) (by decide)
        have bz1268 : gB z1268 1 40 := ⟨by omega, by omega⟩
        refine G_iinc (L' := [(3, .int z1268), (4, .int 40), (0, .ref q1231), (1, .long pl1232)]) z1268 1 d_cJ7_fill_d0a16_16 rfl hz1268.symm (Nat.le_of_ble_eq_true rfl) rfl ?_
        refine G_goto 6 d_cJ7_fill_d0a16_19 (by decide +kernel) ?_
        refine G_lv (L' := [(4, .int 40), (3, .int z1268), (0, .ref q1231), (1, .long pl1232)]) [1, 0, 2, 3] rfl ?_
        exact ih6_1263 z1268 f1267 (gB_w bz1268 (by decide) (by decide)) (by have qa0 : Int32.toInt 40 = 40 := (by decide); omega)
  exact hlp6_1263 (((41 : Int) - 0).toNat + 1) 0 f1233 (gB_w (gBl (show Int32.toInt 0 = 0 by decide)) (by decide) (by decide)) (Nat.lt_succ_self _)
abbrev ky_1275_Arrays_fill : gKey := (cJ7_fill_53178, 4, yJ7_fill_53178.cls, none, [], yJ7_fill_53178.name, fun _ _ => True)
abbrev po_1275_Arrays_fill (I : FieldType → ClassId) (q1272 : Nat) (p1273 : Int32) (f1274 : Nat → Int32) : Option Value → va_W → Prop := fun r w => ∃ (f1310 : Nat → Int32), r = none ∧ w = [(q1272, .inl (I .int, 40, .inl f1310))] ∧ gF f1310 (-2147483648) 2147483647
set_option maxRecDepth 100000 in
set_option maxHeartbeats 4000000 in
theorem ct_1275_Arrays_fill (l : Launch) (hl0 : l.stackTraces = false) (D : va_G) (I : FieldType → ClassId) (q1272 : Nat) (p1273 : Int32) (f1274 : Nat → Int32)  : Ct (gV D I) l yJ7_fill_53178 cJ7_fill_53178 4 none 0 0 0 0 [.ref q1272, .int p1273] [(q1272, .inl (I .int, 40, .inl f1274))] (po_1275_Arrays_fill I q1272 p1273 f1274) gN := by
  refine Ct_ofF hl0 (by decide +kernel) (Nat.le_of_ble_eq_true rfl) ?_
  have bp1273 := gB_any p1273
  refine G_iconst 0 d_cJ7_fill_53178_0 (by decide +kernel) ?_
  refine G_istore_n (L' := [(2, .int 0), (0, .ref q1272), (1, .int p1273)]) d_cJ7_fill_53178_1 (Nat.le_of_ble_eq_true rfl) rfl ?_
  refine G_aload_n 1 d_cJ7_fill_53178_2 rfl ?_
  refine G_alen 40 0 0 d_cJ7_fill_53178_3 rfl rfl rfl ?_
  refine G_istore_n (L' := [(3, .int 40), (2, .int 0), (0, .ref q1272), (1, .int p1273)]) d_cJ7_fill_53178_4 (Nat.le_of_ble_eq_true rfl) rfl ?_
  have hlp5_1304 : ∀ (n5_1304 : Nat) (g1303 : Int32) (f1304 : Nat → Int32), gB g1303 0 40 → gF f1304 (-2147483648) 2147483647 → ((41 : Int) - g1303.toInt).toNat < n5_1304 → G (gV D I) l (gRm 0 0 0 0) (gM (gV D I) (po_1275_Arrays_fill I q1272 p1273 f1274) gN 0 0) ky_1275_Arrays_fill 5 [(3, .int 40), (2, .int g1303), (0, .ref q1272), (1, .int p1273)] [] [(q1272, .inl (I .int, 40, .inl f1304))] 0 0 := by
    intro n5_1304
    induction n5_1304 with
    | zero => intro g1303 f1304 bg1303 bf1304 hm5_1304; exact absurd hm5_1304 (Nat.not_lt_zero _)
    | succ n5_1304 ih5_1304 =>
      intro g1303 f1304 bg1303 bf1304 hm5_1304
      refine G_iload_n 1 d_cJ7_fill_53178_5 rfl ?_
      refine G_iload_n 0 d_cJ7_fill_53178_6 rfl ?_
      refine G_icmp_ge 20 d_cJ7_fill_53178_7 (by decide +kernel) (fun hc1305 => ?_) (fun hc1305 => ?_)
      · have r1306 : 40 ≤ g1303.toInt := gj_leL hc1305 (show Int32.toInt 40 = 40 by decide)
        have bg1303' : gB g1303 40 40 := ⟨by omega, by omega⟩
        exact G_vret d_cJ7_fill_53178_20 rfl (Nat.le_of_ble_eq_true rfl) (Nat.le_of_ble_eq_true rfl) ⟨f1304, rfl, rfl, bf1304⟩
      · have r1307 : g1303.toInt < 40 := gj_nleL hc1305 (show Int32.toInt 40 = 40 by decide)
        have bg1303' : gB g1303 0 39 := ⟨by omega, by omega⟩
        refine G_aload_n 2 d_cJ7_fill_53178_10 rfl ?_
        refine G_iload_n 1 d_cJ7_fill_53178_11 rfl ?_
        refine G_iload_n 3 d_cJ7_fill_53178_12 rfl ?_
        refine G_iastN 0 0 d_cJ7_fill_53178_13 rfl rfl (gB_in bg1303' (by decide) (by decide)) (fun f1308 hf1308 => ?_)
        refine G_ws (ws' := [(q1272, .inl (I .int, 40, .inl f1308))]) (cs' := 0) (sl' := 0) rfl rfl rfl ?_
        obtain ⟨z1309, hz1309⟩ : ∃ z : Int32, z = g1303 + Int32.ofInt 1 := ⟨_, rfl⟩
        have ez1309 : z1309.toInt = g1303.toInt + 1 := gI_inc hz1309 (by decide) bg1303' (by decide) (by decide)
        have bz1309 : gB z1309 1 40 := ⟨by omega, by omega⟩
        refine G_iinc (L' := [(2, .int z1309), (3, .int 40), (0, .ref q1272), (1, .int p1273)]) z1309 1 d_cJ7_fill_53178_14 rfl hz1309.symm (Nat.le_of_ble_eq_true rfl) rfl ?_
        refine G_goto 5 d_cJ7_fill_53178_17 (by decide +kernel) ?_
        refine G_lv (L' := [(3, .int 40), (2, .int z1309), (0, .ref q1272), (1, .int p1273)]) [1, 0, 2, 3] rfl ?_
        exact ih5_1304 z1309 f1308 (gB_w bz1309 (by decide) (by decide)) (gF_any f1308) (by have qa0 : Int32.toInt 40 = 40 := (by decide); omega)
  exact hlp5_1304 (((41 : Int) - 0).toNat + 1) 0 f1274 (gB_w (gBl (show Int32.toInt 0 = 0 by decide)) (by decide) (by decide)) (gF_any f1274) (Nat.lt_succ_self _)
