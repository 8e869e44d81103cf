theorem d_cX17_word_28 : decode cX17_word 28 = .ok (.goto (-26), 3) := by decide +kernel
theorem d_cX17_word_31 : decode cX17_word 31 = .ok (.return_, 1) := by decide +kernel
theorem d_cX17_word__0 : decode cX17_word_ 0 = .ok (.aload_n 0, 1) := by decide +kernel
theorem d_cX17_word__1 : decode cX17_word_ 1 = .ok (.iconst 0, 1) := by decide +kernel
theorem d_cX17_word__2 : decode cX17_word_ 2 = .ok (.putfield 380, 3) := by decide +kernel
theorem d_cX17_word__5 : decode cX17_word_ 5 = .ok (.iload_n 1, 1) := by decide +kernel
theorem d_cX17_word__6 : decode cX17_word_ 6 = .ok (.ifCond .lt 11, 3) := by decide +kernel
theorem d_cX17_word__9 : decode cX17_word_ 9 = .ok (.iload_n 1, 1) := by decide +kernel
theorem d_cX17_word__10 : decode cX17_word_ 10 = .ok (.aload_n 0, 1) := by decide +kernel
theorem d_cX17_word__11 : decode cX17_word_ 11 = .ok (.getfield 426, 3) := by decide +kernel
theorem d_cX17_word__14 : decode cX17_word_ 14 = .ok (.if_icmp .lt 10, 3) := by decide +kernel
theorem d_cX17_word__17 : decode cX17_word_ 17 = .ok (.aload_n 0, 1) := by decide +kernel
theorem d_cX17_word__18 : decode cX17_word_ 18 = .ok (.iconst 1, 1) := by decide +kernel
theorem d_cX17_word__19 : decode cX17_word_ 19 = .ok (.invokevirtual 385, 3) := by decide +kernel
theorem d_cX17_word__22 : decode cX17_word_ 22 = .ok (.i2l, 1) := by decide +kernel
theorem d_cX17_word__23 : decode cX17_word_ 23 = .ok (.lreturn, 1) := by decide +kernel
theorem d_cX1_init_0 : decode cX1_init 0 = .ok (.aload_n 0, 1) := by decide +kernel
theorem d_cX1_init_1 : decode cX1_init 1 = .ok (.invokespecial 3, 3) := by decide +kernel
theorem d_cX1_init_4 : decode cX1_init 4 = .ok (.aload_n 0, 1) := by decide +kernel
theorem d_cX1_init_5 : decode cX1_init 5 = .ok (.sipush 720, 3) := by decide +kernel
theorem d_cX1_init_8 : decode cX1_init 8 = .ok (.newarray .int, 2) := by decide +kernel
theorem d_cX1_init_10 : decode cX1_init 10 = .ok (.putfield 9, 3) := by decide +kernel
theorem d_cX1_init_13 : decode cX1_init 13 = .ok (.aload_n 0, 1) := by decide +kernel
theorem d_cX1_init_14 : decode cX1_init 14 = .ok (.sipush 720, 3) := by decide +kernel
theorem d_cX1_init_17 : decode cX1_init 17 = .ok (.newarray .int, 2) := by decide +kernel
theorem d_cX1_init_19 : decode cX1_init 19 = .ok (.putfield 15, 3) := by decide +kernel
theorem d_cX1_init_22 : decode cX1_init 22 = .ok (.aload_n 0, 1) := by decide +kernel
theorem d_cX1_init_23 : decode cX1_init 23 = .ok (.sipush 720, 3) := by decide +kernel
theorem d_cX1_init_26 : decode cX1_init 26 = .ok (.newarray .int, 2) := by decide +kernel
theorem d_cX1_init_28 : decode cX1_init 28 = .ok (.putfield 18, 3) := by decide +kernel
theorem d_cX1_init_31 : decode cX1_init 31 = .ok (.aload_n 0, 1) := by decide +kernel
theorem d_cX1_init_32 : decode cX1_init 32 = .ok (.sipush 720, 3) := by decide +kernel
theorem d_cX1_init_35 : decode cX1_init 35 = .ok (.newarray .int, 2) := by decide +kernel
theorem d_cX1_init_37 : decode cX1_init 37 = .ok (.putfield 21, 3) := by decide +kernel
theorem d_cX1_init_40 : decode cX1_init 40 = .ok (.aload_n 0, 1) := by decide +kernel
theorem d_cX1_init_41 : decode cX1_init 41 = .ok (.sipush 720, 3) := by decide +kernel
theorem d_cX1_init_44 : decode cX1_init 44 = .ok (.newarray .int, 2) := by decide +kernel
theorem d_cX1_init_46 : decode cX1_init 46 = .ok (.putfield 24, 3) := by decide +kernel
theorem d_cX1_init_49 : decode cX1_init 49 = .ok (.aload_n 0, 1) := by decide +kernel
theorem d_cX1_init_50 : decode cX1_init 50 = .ok (.aload_n 1, 1) := by decide +kernel
theorem d_cX1_init_51 : decode cX1_init 51 = .ok (.putfield 27, 3) := by decide +kernel
theorem d_cX1_init_54 : decode cX1_init 54 = .ok (.return_, 1) := by decide +kernel
theorem d_cX2_init_0 : decode cX2_init 0 = .ok (.aload_n 0, 1) := by decide +kernel
theorem d_cX2_init_1 : decode cX2_init 1 = .ok (.invokespecial 3, 3) := by decide +kernel
theorem d_cX2_init_4 : decode cX2_init 4 = .ok (.aload_n 0, 1) := by decide +kernel
theorem d_cX2_init_5 : decode cX2_init 5 = .ok (.new 9, 3) := by decide +kernel
theorem d_cX2_init_8 : decode cX2_init 8 = .ok (.dup, 1) := by decide +kernel
theorem d_cX2_init_9 : decode cX2_init 9 = .ok (.invokespecial 11, 3) := by decide +kernel
theorem d_cX2_init_12 : decode cX2_init 12 = .ok (.putfield 12, 3) := by decide +kernel
theorem d_cX2_init_15 : decode cX2_init 15 = .ok (.aload_n 0, 1) := by decide +kernel
theorem d_cX2_init_16 : decode cX2_init 16 = .ok (.new 18, 3) := by decide +kernel
theorem d_cX2_init_19 : decode cX2_init 19 = .ok (.dup, 1) := by decide +kernel
theorem d_cX2_init_20 : decode cX2_init 20 = .ok (.aload_n 0, 1) := by decide +kernel
theorem d_cX2_init_21 : decode cX2_init 21 = .ok (.getfield 12, 3) := by decide +kernel
theorem d_cX2_init_24 : decode cX2_init 24 = .ok (.invokespecial 20, 3) := by decide +kernel
theorem d_cX2_init_27 : decode cX2_init 27 = .ok (.putfield 23, 3) := by decide +kernel
theorem d_cX2_init_30 : decode cX2_init 30 = .ok (.aload_n 0, 1) := by decide +kernel
theorem d_cX2_init_31 : decode cX2_init 31 = .ok (.bipush 100, 2) := by decide +kernel
theorem d_cX2_init_33 : decode cX2_init 33 = .ok (.newarray .int, 2) := by decide +kernel
theorem d_cX2_init_35 : decode cX2_init 35 = .ok (.putfield 27, 3) := by decide +kernel
theorem d_cX2_init_38 : decode cX2_init 38 = .ok (.aload_n 0, 1) := by decide +kernel
theorem d_cX2_init_39 : decode cX2_init 39 = .ok (.bipush 100, 2) := by decide +kernel
theorem d_cX2_init_41 : decode cX2_init 41 = .ok (.newarray .int, 2) := by decide +kernel
theorem d_cX2_init_43 : decode cX2_init 43 = .ok (.putfield 31, 3) := by decide +kernel
theorem d_cX2_init_46 : decode cX2_init 46 = .ok (.aload_n 0, 1) := by decide +kernel
theorem d_cX2_init_47 : decode cX2_init 47 = .ok (.bipush 40, 2) := by decide +kernel
theorem d_cX2_init_49 : decode cX2_init 49 = .ok (.newarray .int, 2) := by decide +kernel
theorem d_cX2_init_51 : decode cX2_init 51 = .ok (.putfield 34, 3) := by decide +kernel
theorem d_cX2_init_54 : decode cX2_init 54 = .ok (.aload_n 0, 1) := by decide +kernel
theorem d_cX2_init_55 : decode cX2_init 55 = .ok (.bipush 100, 2) := by decide +kernel
theorem d_cX2_init_57 : decode cX2_init 57 = .ok (.newarray .int, 2) := by decide +kernel
theorem d_cX2_init_59 : decode cX2_init 59 = .ok (.putfield 37, 3) := by decide +kernel
theorem d_cX2_init_62 : decode cX2_init 62 = .ok (.aload_n 0, 1) := by decide +kernel
theorem d_cX2_init_63 : decode cX2_init 63 = .ok (.bipush 100, 2) := by decide +kernel
theorem d_cX2_init_65 : decode cX2_init 65 = .ok (.newarray .int, 2) := by decide +kernel
theorem d_cX2_init_67 : decode cX2_init 67 = .ok (.putfield 40, 3) := by decide +kernel
theorem d_cX2_init_70 : decode cX2_init 70 = .ok (.aload_n 0, 1) := by decide +kernel
theorem d_cX2_init_71 : decode cX2_init 71 = .ok (.new 43, 3) := by decide +kernel
theorem d_cX2_init_74 : decode cX2_init 74 = .ok (.dup, 1) := by decide +kernel
theorem d_cX2_init_75 : decode cX2_init 75 = .ok (.sipush 920, 3) := by decide +kernel
theorem d_cX2_init_78 : decode cX2_init 78 = .ok (.invokespecial 45, 3) := by decide +kernel
theorem d_cX2_init_81 : decode cX2_init 81 = .ok (.putfield 48, 3) := by decide +kernel
theorem d_cX2_init_84 : decode cX2_init 84 = .ok (.aload_n 0, 1) := by decide +kernel
theorem d_cX2_init_85 : decode cX2_init 85 = .ok (.new 43, 3) := by decide +kernel
theorem d_cX2_init_88 : decode cX2_init 88 = .ok (.dup, 1) := by decide +kernel
theorem d_cX2_init_89 : decode cX2_init 89 = .ok (.sipush 920, 3) := by decide +kernel
theorem d_cX2_init_92 : decode cX2_init 92 = .ok (.invokespecial 45, 3) := by decide +kernel
theorem d_cX2_init_95 : decode cX2_init 95 = .ok (.putfield 52, 3) := by decide +kernel
theorem d_cX2_init_98 : decode cX2_init 98 = .ok (.aload_n 0, 1) := by decide +kernel
theorem d_cX2_init_99 : decode cX2_init 99 = .ok (.aload_n 1, 1) := by decide +kernel
theorem d_cX2_init_100 : decode cX2_init 100 = .ok (.putfield 55, 3) := by decide +kernel
theorem d_cX2_init_103 : decode cX2_init 103 = .ok (.return_, 1) := by decide +kernel
theorem d_cX2_isDone_0 : decode cX2_isDone 0 = .ok (.aload_n 0, 1) := by decide +kernel
theorem d_cX2_isDone_1 : decode cX2_isDone 1 = .ok (.getfield 59, 3) := by decide +kernel
theorem d_cX2_isDone_4 : decode cX2_isDone 4 = .ok (.ireturn, 1) := by decide +kernel
theorem d_cX3_init_0 : decode cX3_init 0 = .ok (.aload_n 0, 1) := by decide +kernel
theorem d_cX3_init_1 : decode cX3_init 1 = .ok (.invokespecial 3, 3) := by decide +kernel
theorem d_cX3_init_4 : decode cX3_init 4 = .ok (.aload_n 0, 1) := by decide +kernel
theorem d_cX3_init_5 : decode cX3_init 5 = .ok (.new 9, 3) := by decide +kernel
theorem d_cX3_init_8 : decode cX3_init 8 = .ok (.dup, 1) := by decide +kernel
theorem d_cX3_init_9 : decode cX3_init 9 = .ok (.invokespecial 11, 3) := by decide +kernel
theorem d_cX3_init_12 : decode cX3_init 12 = .ok (.putfield 12, 3) := by decide +kernel
theorem d_cX3_init_15 : decode cX3_init 15 = .ok (.aload_n 0, 1) := by decide +kernel
theorem d_cX3_init_16 : decode cX3_init 16 = .ok (.sipush 8640, 3) := by decide +kernel
theorem d_cX3_init_19 : decode cX3_init 19 = .ok (.newarray .long, 2) := by decide +kernel
theorem d_cX3_init_21 : decode cX3_init 21 = .ok (.putfield 18, 3) := by decide +kernel
theorem d_cX3_init_24 : decode cX3_init 24 = .ok (.aload_n 0, 1) := by decide +kernel
theorem d_cX3_init_25 : decode cX3_init 25 = .ok (.bipush 12, 2) := by decide +kernel
theorem d_cX3_init_27 : decode cX3_init 27 = .ok (.newarray .long, 2) := by decide +kernel
theorem d_cX3_init_29 : decode cX3_init 29 = .ok (.putfield 22, 3) := by decide +kernel
theorem d_cX3_init_32 : decode cX3_init 32 = .ok (.aload_n 0, 1) := by decide +kernel
theorem d_cX3_init_33 : decode cX3_init 33 = .ok (.sipush 720, 3) := by decide +kernel
theorem d_cX3_init_36 : decode cX3_init 36 = .ok (.newarray .int, 2) := by decide +kernel
theorem d_cX3_init_38 : decode cX3_init 38 = .ok (.putfield 25, 3) := by decide +kernel
theorem d_cX3_init_41 : decode cX3_init 41 = .ok (.return_, 1) := by decide +kernel
theorem d_cX4_init_0 : decode cX4_init 0 = .ok (.aload_n 0, 1) := by decide +kernel
theorem d_cX4_init_1 : decode cX4_init 1 = .ok (.invokespecial 3, 3) := by decide +kernel
theorem d_cX4_init_4 : decode cX4_init 4 = .ok (.aload_n 0, 1) := by decide +kernel
theorem d_cX4_init_5 : decode cX4_init 5 = .ok (.sipush 16384, 3) := by decide +kernel
theorem d_cX4_init_8 : decode cX4_init 8 = .ok (.newarray .byte, 2) := by decide +kernel
theorem d_cX4_init_10 : decode cX4_init 10 = .ok (.putfield 9, 3) := by decide +kernel
theorem d_cX4_init_13 : decode cX4_init 13 = .ok (.return_, 1) := by decide +kernel
theorem d_cX4_size_0 : decode cX4_size 0 = .ok (.aload_n 0, 1) := by decide +kernel
theorem d_cX4_size_1 : decode cX4_size 1 = .ok (.getfield 15, 3) := by decide +kernel
theorem d_cX4_size_4 : decode cX4_size 4 = .ok (.ireturn, 1) := by decide +kernel
theorem d_cX5_init_0 : decode cX5_init 0 = .ok (.aload_n 0, 1) := by decide +kernel
theorem d_cX5_init_1 : decode cX5_init 1 = .ok (.invokespecial 3, 3) := by decide +kernel
theorem d_cX5_init_4 : decode cX5_init 4 = .ok (.aload_n 0, 1) := by decide +kernel
theorem d_cX5_init_5 : decode cX5_init 5 = .ok (.sipush 480, 3) := by decide +kernel
theorem d_cX5_init_8 : decode cX5_init 8 = .ok (.newarray .long, 2) := by decide +kernel
theorem d_cX5_init_10 : decode cX5_init 10 = .ok (.putfield 9, 3) := by decide +kernel
theorem d_cX5_init_13 : decode cX5_init 13 = .ok (.aload_n 0, 1) := by decide +kernel
theorem d_cX5_init_14 : decode cX5_init 14 = .ok (.sipush 480, 3) := by decide +kernel
theorem d_cX5_init_17 : decode cX5_init 17 = .ok (.newarray .long, 2) := by decide +kernel
theorem d_cX5_init_19 : decode cX5_init 19 = .ok (.putfield 15, 3) := by decide +kernel
theorem d_cX5_init_22 : decode cX5_init 22 = .ok (.aload_n 0, 1) := by decide +kernel
theorem d_cX5_init_23 : decode cX5_init 23 = .ok (.sipush 480, 3) := by decide +kernel
theorem d_cX5_init_26 : decode cX5_init 26 = .ok (.newarray .long, 2) := by decide +kernel
theorem d_cX5_init_28 : decode cX5_init 28 = .ok (.putfield 18, 3) := by decide +kernel
theorem d_cX5_init_31 : decode cX5_init 31 = .ok (.aload_n 0, 1) := by decide +kernel
theorem d_cX5_init_32 : decode cX5_init 32 = .ok (.bipush 12, 2) := by decide +kernel
theorem d_cX5_init_34 : decode cX5_init 34 = .ok (.newarray .long, 2) := by decide +kernel
theorem d_cX5_init_36 : decode cX5_init 36 = .ok (.putfield 21, 3) := by decide +kernel
theorem d_cX5_init_39 : decode cX5_init 39 = .ok (.return_, 1) := by decide +kernel
theorem d_cX6_init_0 : decode cX6_init 0 = .ok (.aload_n 0, 1) := by decide +kernel
theorem d_cX6_init_1 : decode cX6_init 1 = .ok (.invokespecial 3, 3) := by decide +kernel
theorem d_cX6_init_4 : decode cX6_init 4 = .ok (.aload_n 0, 1) := by decide +kernel
theorem d_cX6_init_5 : decode cX6_init 5 = .ok (.bipush 40, 2) := by decide +kernel
theorem d_cX6_init_7 : decode cX6_init 7 = .ok (.newarray .long, 2) := by decide +kernel
theorem d_cX6_init_9 : decode cX6_init 9 = .ok (.putfield 9, 3) := by decide +kernel
theorem d_cX6_init_12 : decode cX6_init 12 = .ok (.aload_n 0, 1) := by decide +kernel
theorem d_cX6_init_13 : decode cX6_init 13 = .ok (.bipush 40, 2) := by decide +kernel
theorem d_cX6_init_15 : decode cX6_init 15 = .ok (.newarray .long, 2) := by decide +kernel
theorem d_cX6_init_17 : decode cX6_init 17 = .ok (.putfield 15, 3) := by decide +kernel
theorem d_cX6_init_20 : decode cX6_init 20 = .ok (.aload_n 0, 1) := by decide +kernel
theorem d_cX6_init_21 : decode cX6_init 21 = .ok (.bipush 40, 2) := by decide +kernel
theorem d_cX6_init_23 : decode cX6_init 23 = .ok (.newarray .int, 2) := by decide +kernel
theorem d_cX6_init_25 : decode cX6_init 25 = .ok (.putfield 18, 3) := by decide +kernel
theorem d_cX6_init_28 : decode cX6_init 28 = .ok (.return_, 1) := by decide +kernel
theorem d_cX7_answer_0 : decode cX7_answer 0 = .ok (.aload_n 0, 1) := by decide +kernel
theorem d_cX7_answer_1 : decode cX7_answer 1 = .ok (.getfield 47, 3) := by decide +kernel
theorem d_cX7_answer_4 : decode cX7_answer 4 = .ok (.ireturn, 1) := by decide +kernel
theorem d_cX7_ending_0 : decode cX7_ending 0 = .ok (.aload_n 0, 1) := by decide +kernel
theorem d_cX7_ending_1 : decode cX7_ending 1 = .ok (.getfield 24, 3) := by decide +kernel
theorem d_cX7_ending_4 : decode cX7_ending 4 = .ok (.ireturn, 1) := by decide +kernel
theorem d_cX7_init_0 : decode cX7_init 0 = .ok (.aload_n 0, 1) := by decide +kernel
theorem d_cX7_init_1 : decode cX7_init 1 = .ok (.invokespecial 3, 3) := by decide +kernel
theorem d_cX7_init_4 : decode cX7_init 4 = .ok (.aload_n 0, 1) := by decide +kernel
theorem d_cX7_init_5 : decode cX7_init 5 = .ok (.sipush 2048, 3) := by decide +kernel
theorem d_cX7_init_8 : decode cX7_init 8 = .ok (.newarray .int, 2) := by decide +kernel
theorem d_cX7_init_10 : decode cX7_init 10 = .ok (.putfield 9, 3) := by decide +kernel
theorem d_cX7_init_13 : decode cX7_init 13 = .ok (.aload_n 0, 1) := by decide +kernel
theorem d_cX7_init_14 : decode cX7_init 14 = .ok (.bipush 100, 2) := by decide +kernel
theorem d_cX7_init_16 : decode cX7_init 16 = .ok (.newarray .int, 2) := by decide +kernel
theorem d_cX7_init_18 : decode cX7_init 18 = .ok (.putfield 15, 3) := by decide +kernel
theorem d_cX7_init_21 : decode cX7_init 21 = .ok (.aload_n 0, 1) := by decide +kernel
theorem d_cX7_init_22 : decode cX7_init 22 = .ok (.bipush 100, 2) := by decide +kernel
theorem d_cX7_init_24 : decode cX7_init 24 = .ok (.newarray .int, 2) := by decide +kernel
theorem d_cX7_init_26 : decode cX7_init 26 = .ok (.putfield 18, 3) := by decide +kernel
theorem d_cX7_init_29 : decode cX7_init 29 = .ok (.aload_n 0, 1) := by decide +kernel
theorem d_cX7_init_30 : decode cX7_init 30 = .ok (.sipush 512, 3) := by decide +kernel
theorem d_cX7_init_33 : decode cX7_init 33 = .ok (.newarray .int, 2) := by decide +kernel
theorem d_cX7_init_35 : decode cX7_init 35 = .ok (.putfield 21, 3) := by decide +kernel
theorem d_cX7_init_38 : decode cX7_init 38 = .ok (.aload_n 0, 1) := by decide +kernel
theorem d_cX7_init_39 : decode cX7_init 39 = .ok (.iconst (-1), 1) := by decide +kernel
theorem d_cX7_init_40 : decode cX7_init 40 = .ok (.putfield 24, 3) := by decide +kernel
theorem d_cX7_init_43 : decode cX7_init 43 = .ok (.return_, 1) := by decide +kernel
theorem d_cX7_shows_0 : decode cX7_shows 0 = .ok (.aload_n 0, 1) := by decide +kernel
theorem d_cX7_shows_1 : decode cX7_shows 1 = .ok (.getfield 50, 3) := by decide +kernel
theorem d_cX7_shows_4 : decode cX7_shows 4 = .ok (.ireturn, 1) := by decide +kernel
theorem d_cX7_steps_0 : decode cX7_steps 0 = .ok (.aload_n 0, 1) := by decide +kernel
theorem d_cX7_steps_1 : decode cX7_steps 1 = .ok (.getfield 53, 3) := by decide +kernel
theorem d_cX7_steps_4 : decode cX7_steps 4 = .ok (.ireturn, 1) := by decide +kernel
theorem d_cX7_takeInput_0 : decode cX7_takeInput 0 = .ok (.aload_n 0, 1) := by decide +kernel
theorem d_cX7_takeInput_1 : decode cX7_takeInput 1 = .ok (.aload_n 1, 1) := by decide +kernel
theorem d_cX7_takeInput_2 : decode cX7_takeInput 2 = .ok (.invokevirtual 28, 3) := by decide +kernel
theorem d_cX7_takeInput_5 : decode cX7_takeInput 5 = .ok (.iconst 4, 1) := by decide +kernel
theorem d_cX7_takeInput_6 : decode cX7_takeInput 6 = .ok (.idiv, 1) := by decide +kernel
theorem d_cX7_takeInput_7 : decode cX7_takeInput 7 = .ok (.aload_n 0, 1) := by decide +kernel
theorem d_cX7_takeInput_8 : decode cX7_takeInput 8 = .ok (.getfield 9, 3) := by decide +kernel
theorem d_cX7_takeInput_11 : decode cX7_takeInput 11 = .ok (.arraylength, 1) := by decide +kernel
theorem d_cX7_takeInput_12 : decode cX7_takeInput 12 = .ok (.invokestatic 34, 3) := by decide +kernel
theorem d_cX7_takeInput_15 : decode cX7_takeInput 15 = .ok (.putfield 40, 3) := by decide +kernel
theorem d_cX7_takeInput_18 : decode cX7_takeInput 18 = .ok (.iconst 0, 1) := by decide +kernel
theorem d_cX7_takeInput_19 : decode cX7_takeInput 19 = .ok (.istore_n 2, 1) := by decide +kernel
theorem d_cX7_takeInput_20 : decode cX7_takeInput 20 = .ok (.iload_n 2, 1) := by decide +kernel
theorem d_cX7_takeInput_21 : decode cX7_takeInput 21 = .ok (.aload_n 0, 1) := by decide +kernel
theorem d_cX7_takeInput_22 : decode cX7_takeInput 22 = .ok (.getfield 40, 3) := by decide +kernel
theorem d_cX7_takeInput_25 : decode cX7_takeInput 25 = .ok (.if_icmp .ge 22, 3) := by decide +kernel
theorem d_cX7_takeInput_47 : decode cX7_takeInput 47 = .ok (.aload_n 0, 1) := by decide +kernel
theorem d_cX7_takeInput_48 : decode cX7_takeInput 48 = .ok (.getfield 40, 3) := by decide +kernel
theorem d_cX7_takeInput_51 : decode cX7_takeInput 51 = .ok (.ireturn, 1) := by decide +kernel
theorem d_cX7_taken_0 : decode cX7_taken 0 = .ok (.aload_n 0, 1) := by decide +kernel
theorem d_cX7_taken_1 : decode cX7_taken 1 = .ok (.getfield 56, 3) := by decide +kernel
theorem d_cX7_taken_4 : decode cX7_taken 4 = .ok (.ireturn, 1) := by decide +kernel
theorem d_cX8_init_0 : decode cX8_init 0 = .ok (.aload_n 0, 1) := by decide +kernel
theorem d_cX8_init_1 : decode cX8_init 1 = .ok (.invokespecial 3, 3) := by decide +kernel
theorem d_cX8_init_4 : decode cX8_init 4 = .ok (.aload_n 0, 1) := by decide +kernel
theorem d_cX8_init_5 : decode cX8_init 5 = .ok (.bipush 80, 2) := by decide +kernel
theorem d_cX8_init_7 : decode cX8_init 7 = .ok (.newarray .int, 2) := by decide +kernel
theorem d_cX8_init_9 : decode cX8_init 9 = .ok (.putfield 9, 3) := by decide +kernel
theorem d_cX8_init_12 : decode cX8_init 12 = .ok (.aload_n 0, 1) := by decide +kernel
theorem d_cX8_init_13 : decode cX8_init 13 = .ok (.new 15, 3) := by decide +kernel
theorem d_cX8_init_16 : decode cX8_init 16 = .ok (.dup, 1) := by decide +kernel
theorem d_cX8_init_17 : decode cX8_init 17 = .ok (.aload_n 1, 1) := by decide +kernel
theorem d_cX8_init_18 : decode cX8_init 18 = .ok (.invokespecial 17, 3) := by decide +kernel
theorem d_cX8_init_21 : decode cX8_init 21 = .ok (.putfield 20, 3) := by decide +kernel
theorem d_cX8_init_24 : decode cX8_init 24 = .ok (.return_, 1) := by decide +kernel
theorem d_cX8_readInto_0 : decode cX8_readInto 0 = .ok (.aload_n 1, 1) := by decide +kernel
theorem d_cX8_readInto_1 : decode cX8_readInto 1 = .ok (.invokevirtual 28, 3) := by decide +kernel
theorem d_cX8_readInto_4 : decode cX8_readInto 4 = .ok (.aload_n 0, 1) := by decide +kernel
theorem d_cX8_readInto_5 : decode cX8_readInto 5 = .ok (.lconst 0, 1) := by decide +kernel
theorem d_cX8_readInto_6 : decode cX8_readInto 6 = .ok (.putfield 33, 3) := by decide +kernel
theorem d_cX8_readInto_9 : decode cX8_readInto 9 = .ok (.aload_n 0, 1) := by decide +kernel
theorem d_cX8_readInto_10 : decode cX8_readInto 10 = .ok (.iconst 0, 1) := by decide +kernel
theorem d_cX8_readInto_11 : decode cX8_readInto 11 = .ok (.putfield 37, 3) := by decide +kernel
theorem d_cX8_readInto_14 : decode cX8_readInto 14 = .ok (.aload_n 0, 1) := by decide +kernel
theorem d_cX8_readInto_15 : decode cX8_readInto 15 = .ok (.iconst (-1), 1) := by decide +kernel
theorem d_cX8_readInto_16 : decode cX8_readInto 16 = .ok (.putfield 40, 3) := by decide +kernel
theorem d_cX8_readInto_19 : decode cX8_readInto 19 = .ok (.aload_n 0, 1) := by decide +kernel
theorem d_cX8_readInto_20 : decode cX8_readInto 20 = .ok (.iconst 0, 1) := by decide +kernel
theorem d_cX8_readInto_21 : decode cX8_readInto 21 = .ok (.putfield 43, 3) := by decide +kernel
theorem d_cX8_readInto_24 : decode cX8_readInto 24 = .ok (.aload_n 0, 1) := by decide +kernel
theorem d_cX8_readInto_25 : decode cX8_readInto 25 = .ok (.iconst 0, 1) := by decide +kernel
theorem d_cX8_readInto_26 : decode cX8_readInto 26 = .ok (.putfield 46, 3) := by decide +kernel
theorem d_cX8_readInto_29 : decode cX8_readInto 29 = .ok (.aload_n 0, 1) := by decide +kernel
theorem d_cX8_readInto_30 : decode cX8_readInto 30 = .ok (.getfield 20, 3) := by decide +kernel
theorem d_cX8_readInto_33 : decode cX8_readInto 33 = .ok (.invokevirtual 49, 3) := by decide +kernel
theorem d_cX8_readInto_36 : decode cX8_readInto 36 = .ok (.iconst 1, 1) := by decide +kernel
theorem d_cX8_readInto_37 : decode cX8_readInto 37 = .ok (.istore_n 2, 1) := by decide +kernel
theorem d_cX8_readInto_38 : decode cX8_readInto 38 = .ok (.iconst 0, 1) := by decide +kernel
theorem d_cX8_readInto_39 : decode cX8_readInto 39 = .ok (.istore_n 3, 1) := by decide +kernel
theorem d_cX8_readInto_40 : decode cX8_readInto 40 = .ok (.iload_n 3, 1) := by decide +kernel
theorem d_cX8_readInto_41 : decode cX8_readInto 41 = .ok (.sipush 8192, 3) := by decide +kernel
theorem d_cX8_readInto_44 : decode cX8_readInto 44 = .ok (.if_icmp .ge 41, 3) := by decide +kernel
theorem d_cX8_readInto_47 : decode cX8_readInto 47 = .ok (.iload_n 2, 1) := by decide +kernel
theorem d_cX8_readInto_48 : decode cX8_readInto 48 = .ok (.ifCond .eq 37, 3) := by decide +kernel
theorem d_cX8_readInto_51 : decode cX8_readInto 51 = .ok (.aload_n 0, 1) := by decide +kernel
theorem d_cX8_readInto_52 : decode cX8_readInto 52 = .ok (.getfield 20, 3) := by decide +kernel
theorem d_cX8_readInto_55 : decode cX8_readInto 55 = .ok (.invokevirtual 52, 3) := by decide +kernel
theorem d_cX8_readInto_58 : decode cX8_readInto 58 = .ok (.iconst 1, 1) := by decide +kernel
theorem d_cX8_readInto_59 : decode cX8_readInto 59 = .ok (.if_icmp .eq 26, 3) := by decide +kernel
theorem d_cX8_readInto_85 : decode cX8_readInto 85 = .ok (.iload_n 2, 1) := by decide +kernel
theorem d_cX8_readInto_86 : decode cX8_readInto 86 = .ok (.ifCond .eq 11, 3) := by decide +kernel
theorem d_cX8_readInto_89 : decode cX8_readInto 89 = .ok (.aload_n 0, 1) := by decide +kernel
theorem d_cX8_readInto_90 : decode cX8_readInto 90 = .ok (.getfield 46, 3) := by decide +kernel
theorem d_cX8_readInto_93 : decode cX8_readInto 93 = .ok (.iconst 1, 1) := by decide +kernel
theorem d_cX8_readInto_94 : decode cX8_readInto 94 = .ok (.if_icmp .eq 16, 3) := by decide +kernel
theorem d_cX8_readInto_97 : decode cX8_readInto 97 = .ok (.aload_n 0, 1) := by decide +kernel
theorem d_cX8_readInto_98 : decode cX8_readInto 98 = .ok (.iconst 1, 1) := by decide +kernel
theorem d_cX8_readInto_99 : decode cX8_readInto 99 = .ok (.putfield 24, 3) := by decide +kernel
theorem d_cX8_readInto_102 : decode cX8_readInto 102 = .ok (.aload_n 0, 1) := by decide +kernel
theorem d_cX8_readInto_103 : decode cX8_readInto 103 = .ok (.getfield 20, 3) := by decide +kernel
theorem d_cX8_readInto_106 : decode cX8_readInto 106 = .ok (.invokevirtual 63, 3) := by decide +kernel
theorem d_cX8_readInto_109 : decode cX8_readInto 109 = .ok (.ireturn, 1) := by decide +kernel
theorem d_cX8_reason_0 : decode cX8_reason 0 = .ok (.aload_n 0, 1) := by decide +kernel
theorem d_cX8_reason_1 : decode cX8_reason 1 = .ok (.getfield 24, 3) := by decide +kernel
theorem d_cX8_reason_4 : decode cX8_reason 4 = .ok (.ireturn, 1) := by decide +kernel
theorem d_cX9_advance_0 : decode cX9_advance 0 = .ok (.aload_n 0, 1) := by decide +kernel
theorem d_cX9_advance_1 : decode cX9_advance 1 = .ok (.getfield 15, 3) := by decide +kernel
theorem d_cX9_advance_4 : decode cX9_advance 4 = .ok (.iconst 2, 1) := by decide +kernel
theorem d_cX9_advance_5 : decode cX9_advance 5 = .ok (.if_icmp .eq 11, 3) := by decide +kernel
theorem d_cX9_advance_8 : decode cX9_advance 8 = .ok (.aload_n 0, 1) := by decide +kernel
theorem d_cX9_advance_9 : decode cX9_advance 9 = .ok (.getfield 15, 3) := by decide +kernel
theorem d_cX9_advance_12 : decode cX9_advance 12 = .ok (.iconst 4, 1) := by decide +kernel
theorem d_cX9_advance_13 : decode cX9_advance 13 = .ok (.if_icmp .ne 7, 3) := by decide +kernel
theorem d_cX9_advance_20 : decode cX9_advance 20 = .ok (.iconst 0, 1) := by decide +kernel
theorem d_cX9_advance_21 : decode cX9_advance 21 = .ok (.istore_n 1, 1) := by decide +kernel
theorem d_cX9_advance_22 : decode cX9_advance 22 = .ok (.aload_n 0, 1) := by decide +kernel
theorem d_cX9_advance_23 : decode cX9_advance 23 = .ok (.aload_n 0, 1) := by decide +kernel
theorem d_cX9_advance_24 : decode cX9_advance 24 = .ok (.aload_n 0, 1) := by decide +kernel
theorem d_cX9_advance_25 : decode cX9_advance 25 = .ok (.getfield 25, 3) := by decide +kernel
theorem d_cX9_advance_28 : decode cX9_advance 28 = .ok (.invokevirtual 31, 3) := by decide +kernel
theorem d_cX9_advance_31 : decode cX9_advance 31 = .ok (.putfield 22, 3) := by decide +kernel
theorem d_cX9_advance_34 : decode cX9_advance 34 = .ok (.aload_n 0, 1) := by decide +kernel
theorem d_cX9_advance_35 : decode cX9_advance 35 = .ok (.getfield 9, 3) := by decide +kernel
theorem d_cX9_advance_38 : decode cX9_advance 38 = .ok (.aload_n 0, 1) := by decide +kernel
theorem d_cX9_advance_39 : decode cX9_advance 39 = .ok (.getfield 22, 3) := by decide +kernel
theorem d_cX9_advance_42 : decode cX9_advance 42 = .ok (.invokevirtual 35, 3) := by decide +kernel
theorem d_cX9_advance_45 : decode cX9_advance 45 = .ok (.istore_n 2, 1) := by decide +kernel
