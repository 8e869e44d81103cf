theorem d_cX17_feed_97 : decode cX17_feed 97 = .ok (.ireturn, 1) := by decide +kernel
theorem d_cX17_give_0 : decode cX17_give 0 = .ok (.aload_n 0, 1) := by decide +kernel
theorem d_cX17_give_1 : decode cX17_give 1 = .ok (.iconst 0, 1) := by decide +kernel
theorem d_cX17_give_2 : decode cX17_give 2 = .ok (.putfield 380, 3) := by decide +kernel
theorem d_cX17_give_5 : decode cX17_give 5 = .ok (.iload_n 1, 1) := by decide +kernel
theorem d_cX17_give_6 : decode cX17_give 6 = .ok (.iconst 1, 1) := by decide +kernel
theorem d_cX17_give_7 : decode cX17_give 7 = .ok (.if_icmp .lt 9, 3) := by decide +kernel
theorem d_cX17_give_10 : decode cX17_give 10 = .ok (.iload_n 1, 1) := by decide +kernel
theorem d_cX17_give_11 : decode cX17_give 11 = .ok (.bipush 32, 2) := by decide +kernel
theorem d_cX17_give_13 : decode cX17_give 13 = .ok (.if_icmp .le 9, 3) := by decide +kernel
theorem d_cX17_give_16 : decode cX17_give 16 = .ok (.aload_n 0, 1) := by decide +kernel
theorem d_cX17_give_17 : decode cX17_give 17 = .ok (.iconst 1, 1) := by decide +kernel
theorem d_cX17_give_18 : decode cX17_give 18 = .ok (.invokevirtual 385, 3) := by decide +kernel
theorem d_cX17_give_21 : decode cX17_give 21 = .ok (.ireturn, 1) := by decide +kernel
theorem d_cX17_give_22 : decode cX17_give 22 = .ok (.aload_n 0, 1) := by decide +kernel
theorem d_cX17_give_23 : decode cX17_give 23 = .ok (.getfield 414, 3) := by decide +kernel
theorem d_cX17_give_26 : decode cX17_give 26 = .ok (.ifCond .ne 9, 3) := by decide +kernel
theorem d_cX17_give_29 : decode cX17_give 29 = .ok (.aload_n 0, 1) := by decide +kernel
theorem d_cX17_give_30 : decode cX17_give 30 = .ok (.iconst 2, 1) := by decide +kernel
theorem d_cX17_give_31 : decode cX17_give 31 = .ok (.invokevirtual 385, 3) := by decide +kernel
theorem d_cX17_give_34 : decode cX17_give 34 = .ok (.ireturn, 1) := by decide +kernel
theorem d_cX17_init_0 : decode cX17_init 0 = .ok (.aload_n 0, 1) := by decide +kernel
theorem d_cX17_init_1 : decode cX17_init 1 = .ok (.invokespecial 356, 3) := by decide +kernel
theorem d_cX17_init_4 : decode cX17_init 4 = .ok (.aload_n 0, 1) := by decide +kernel
theorem d_cX17_init_5 : decode cX17_init 5 = .ok (.bipush 40, 2) := by decide +kernel
theorem d_cX17_init_7 : decode cX17_init 7 = .ok (.bipush 32, 2) := by decide +kernel
theorem d_cX17_init_9 : decode cX17_init 9 = .ok (.multianewarray 359 2, 4) := by decide +kernel
theorem d_cX17_init_13 : decode cX17_init 13 = .ok (.putfield 88, 3) := by decide +kernel
theorem d_cX17_init_16 : decode cX17_init 16 = .ok (.aload_n 0, 1) := by decide +kernel
theorem d_cX17_init_17 : decode cX17_init 17 = .ok (.sipush 2000, 3) := by decide +kernel
theorem d_cX17_init_20 : decode cX17_init 20 = .ok (.bipush 32, 2) := by decide +kernel
theorem d_cX17_init_22 : decode cX17_init 22 = .ok (.multianewarray 359 2, 4) := by decide +kernel
theorem d_cX17_init_26 : decode cX17_init 26 = .ok (.putfield 135, 3) := by decide +kernel
theorem d_cX17_init_29 : decode cX17_init 29 = .ok (.aload_n 0, 1) := by decide +kernel
theorem d_cX17_init_30 : decode cX17_init 30 = .ok (.bipush 32, 2) := by decide +kernel
theorem d_cX17_init_32 : decode cX17_init 32 = .ok (.newarray .long, 2) := by decide +kernel
theorem d_cX17_init_34 : decode cX17_init 34 = .ok (.putfield 59, 3) := by decide +kernel
theorem d_cX17_init_37 : decode cX17_init 37 = .ok (.aload_n 0, 1) := by decide +kernel
theorem d_cX17_init_38 : decode cX17_init 38 = .ok (.sipush 2000, 3) := by decide +kernel
theorem d_cX17_init_41 : decode cX17_init 41 = .ok (.newarray .boolean, 2) := by decide +kernel
theorem d_cX17_init_43 : decode cX17_init 43 = .ok (.putfield 131, 3) := by decide +kernel
theorem d_cX17_init_46 : decode cX17_init 46 = .ok (.aload_n 0, 1) := by decide +kernel
theorem d_cX17_init_47 : decode cX17_init 47 = .ok (.bipush 40, 2) := by decide +kernel
theorem d_cX17_init_49 : decode cX17_init 49 = .ok (.newarray .int, 2) := by decide +kernel
theorem d_cX17_init_51 : decode cX17_init 51 = .ok (.putfield 152, 3) := by decide +kernel
theorem d_cX17_init_54 : decode cX17_init 54 = .ok (.aload_n 0, 1) := by decide +kernel
theorem d_cX17_init_55 : decode cX17_init 55 = .ok (.sipush 2000, 3) := by decide +kernel
theorem d_cX17_init_58 : decode cX17_init 58 = .ok (.newarray .int, 2) := by decide +kernel
theorem d_cX17_init_60 : decode cX17_init 60 = .ok (.putfield 174, 3) := by decide +kernel
theorem d_cX17_init_63 : decode cX17_init 63 = .ok (.aload_n 0, 1) := by decide +kernel
theorem d_cX17_init_64 : decode cX17_init 64 = .ok (.new 97, 3) := by decide +kernel
theorem d_cX17_init_67 : decode cX17_init 67 = .ok (.dup, 1) := by decide +kernel
theorem d_cX17_init_68 : decode cX17_init 68 = .ok (.invokespecial 360, 3) := by decide +kernel
theorem d_cX17_init_71 : decode cX17_init 71 = .ok (.putfield 361, 3) := by decide +kernel
theorem d_cX17_init_74 : decode cX17_init 74 = .ok (.aload_n 0, 1) := by decide +kernel
theorem d_cX17_init_75 : decode cX17_init 75 = .ok (.new 97, 3) := by decide +kernel
theorem d_cX17_init_78 : decode cX17_init 78 = .ok (.dup, 1) := by decide +kernel
theorem d_cX17_init_79 : decode cX17_init 79 = .ok (.invokespecial 360, 3) := by decide +kernel
theorem d_cX17_init_82 : decode cX17_init 82 = .ok (.putfield 365, 3) := by decide +kernel
theorem d_cX17_init_85 : decode cX17_init 85 = .ok (.aload_n 0, 1) := by decide +kernel
theorem d_cX17_init_86 : decode cX17_init 86 = .ok (.new 97, 3) := by decide +kernel
theorem d_cX17_init_89 : decode cX17_init 89 = .ok (.dup, 1) := by decide +kernel
theorem d_cX17_init_90 : decode cX17_init 90 = .ok (.invokespecial 360, 3) := by decide +kernel
theorem d_cX17_init_93 : decode cX17_init 93 = .ok (.putfield 368, 3) := by decide +kernel
theorem d_cX17_init_96 : decode cX17_init 96 = .ok (.aload_n 0, 1) := by decide +kernel
theorem d_cX17_init_97 : decode cX17_init 97 = .ok (.sipush 2000, 3) := by decide +kernel
theorem d_cX17_init_100 : decode cX17_init 100 = .ok (.newarray .int, 2) := by decide +kernel
theorem d_cX17_init_102 : decode cX17_init 102 = .ok (.putfield 218, 3) := by decide +kernel
theorem d_cX17_init_105 : decode cX17_init 105 = .ok (.aload_n 0, 1) := by decide +kernel
theorem d_cX17_init_106 : decode cX17_init 106 = .ok (.sipush 2000, 3) := by decide +kernel
theorem d_cX17_init_109 : decode cX17_init 109 = .ok (.newarray .int, 2) := by decide +kernel
theorem d_cX17_init_111 : decode cX17_init 111 = .ok (.putfield 209, 3) := by decide +kernel
theorem d_cX17_init_114 : decode cX17_init 114 = .ok (.aload_n 0, 1) := by decide +kernel
theorem d_cX17_init_115 : decode cX17_init 115 = .ok (.sipush 2000, 3) := by decide +kernel
theorem d_cX17_init_118 : decode cX17_init 118 = .ok (.newarray .int, 2) := by decide +kernel
theorem d_cX17_init_120 : decode cX17_init 120 = .ok (.putfield 212, 3) := by decide +kernel
theorem d_cX17_init_123 : decode cX17_init 123 = .ok (.aload_n 0, 1) := by decide +kernel
theorem d_cX17_init_124 : decode cX17_init 124 = .ok (.sipush 2000, 3) := by decide +kernel
theorem d_cX17_init_127 : decode cX17_init 127 = .ok (.newarray .boolean, 2) := by decide +kernel
theorem d_cX17_init_129 : decode cX17_init 129 = .ok (.putfield 206, 3) := by decide +kernel
theorem d_cX17_init_132 : decode cX17_init 132 = .ok (.aload_n 0, 1) := by decide +kernel
theorem d_cX17_init_133 : decode cX17_init 133 = .ok (.sipush 2000, 3) := by decide +kernel
theorem d_cX17_init_136 : decode cX17_init 136 = .ok (.newarray .int, 2) := by decide +kernel
theorem d_cX17_init_138 : decode cX17_init 138 = .ok (.putfield 221, 3) := by decide +kernel
theorem d_cX17_init_141 : decode cX17_init 141 = .ok (.aload_n 0, 1) := by decide +kernel
theorem d_cX17_init_142 : decode cX17_init 142 = .ok (.sipush 2000, 3) := by decide +kernel
theorem d_cX17_init_145 : decode cX17_init 145 = .ok (.newarray .int, 2) := by decide +kernel
theorem d_cX17_init_147 : decode cX17_init 147 = .ok (.putfield 271, 3) := by decide +kernel
theorem d_cX17_init_150 : decode cX17_init 150 = .ok (.aload_n 0, 1) := by decide +kernel
theorem d_cX17_init_151 : decode cX17_init 151 = .ok (.sipush 2000, 3) := by decide +kernel
theorem d_cX17_init_154 : decode cX17_init 154 = .ok (.newarray .int, 2) := by decide +kernel
theorem d_cX17_init_156 : decode cX17_init 156 = .ok (.putfield 274, 3) := by decide +kernel
theorem d_cX17_init_159 : decode cX17_init 159 = .ok (.aload_n 0, 1) := by decide +kernel
theorem d_cX17_init_160 : decode cX17_init 160 = .ok (.sipush 512, 3) := by decide +kernel
theorem d_cX17_init_163 : decode cX17_init 163 = .ok (.newarray .int, 2) := by decide +kernel
theorem d_cX17_init_165 : decode cX17_init 165 = .ok (.putfield 306, 3) := by decide +kernel
theorem d_cX17_init_168 : decode cX17_init 168 = .ok (.aload_n 0, 1) := by decide +kernel
theorem d_cX17_init_169 : decode cX17_init 169 = .ok (.iconst (-1), 1) := by decide +kernel
theorem d_cX17_init_170 : decode cX17_init 170 = .ok (.putfield 371, 3) := by decide +kernel
theorem d_cX17_init_173 : decode cX17_init 173 = .ok (.aload_n 0, 1) := by decide +kernel
theorem d_cX17_init_174 : decode cX17_init 174 = .ok (.iconst 0, 1) := by decide +kernel
theorem d_cX17_init_175 : decode cX17_init 175 = .ok (.newarray .int, 2) := by decide +kernel
theorem d_cX17_init_177 : decode cX17_init 177 = .ok (.putfield 303, 3) := by decide +kernel
theorem d_cX17_init_180 : decode cX17_init 180 = .ok (.aload_n 0, 1) := by decide +kernel
theorem d_cX17_init_181 : decode cX17_init 181 = .ok (.new 5, 3) := by decide +kernel
theorem d_cX17_init_184 : decode cX17_init 184 = .ok (.dup, 1) := by decide +kernel
theorem d_cX17_init_185 : decode cX17_init 185 = .ok (.invokespecial 7, 3) := by decide +kernel
theorem d_cX17_init_188 : decode cX17_init 188 = .ok (.putfield 316, 3) := by decide +kernel
theorem d_cX17_init_191 : decode cX17_init 191 = .ok (.aload_n 0, 1) := by decide +kernel
theorem d_cX17_init_192 : decode cX17_init 192 = .ok (.sipush 8192, 3) := by decide +kernel
theorem d_cX17_init_195 : decode cX17_init 195 = .ok (.newarray .byte, 2) := by decide +kernel
theorem d_cX17_init_197 : decode cX17_init 197 = .ok (.putfield 374, 3) := by decide +kernel
theorem d_cX17_init_200 : decode cX17_init 200 = .ok (.aload_n 0, 1) := by decide +kernel
theorem d_cX17_init_201 : decode cX17_init 201 = .ok (.bipush 64, 2) := by decide +kernel
theorem d_cX17_init_203 : decode cX17_init 203 = .ok (.newarray .byte, 2) := by decide +kernel
theorem d_cX17_init_205 : decode cX17_init 205 = .ok (.putfield 378, 3) := by decide +kernel
theorem d_cX17_init_208 : decode cX17_init 208 = .ok (.return_, 1) := by decide +kernel
theorem d_cX17_input_0 : decode cX17_input 0 = .ok (.aload_n 0, 1) := by decide +kernel
theorem d_cX17_input_1 : decode cX17_input 1 = .ok (.iconst 0, 1) := by decide +kernel
theorem d_cX17_input_2 : decode cX17_input 2 = .ok (.putfield 380, 3) := by decide +kernel
theorem d_cX17_input_5 : decode cX17_input 5 = .ok (.aload_n 0, 1) := by decide +kernel
theorem d_cX17_input_6 : decode cX17_input 6 = .ok (.aload_n 0, 1) := by decide +kernel
theorem d_cX17_input_7 : decode cX17_input 7 = .ok (.getfield 383, 3) := by decide +kernel
theorem d_cX17_input_10 : decode cX17_input 10 = .ok (.iconst 4, 1) := by decide +kernel
theorem d_cX17_input_11 : decode cX17_input 11 = .ok (.idiv, 1) := by decide +kernel
theorem d_cX17_input_12 : decode cX17_input 12 = .ok (.newarray .int, 2) := by decide +kernel
theorem d_cX17_input_14 : decode cX17_input 14 = .ok (.putfield 303, 3) := by decide +kernel
theorem d_cX17_input_17 : decode cX17_input 17 = .ok (.iconst 0, 1) := by decide +kernel
theorem d_cX17_input_18 : decode cX17_input 18 = .ok (.istore_n 1, 1) := by decide +kernel
theorem d_cX17_input_19 : decode cX17_input 19 = .ok (.iload_n 1, 1) := by decide +kernel
theorem d_cX17_input_20 : decode cX17_input 20 = .ok (.aload_n 0, 1) := by decide +kernel
theorem d_cX17_input_21 : decode cX17_input 21 = .ok (.getfield 303, 3) := by decide +kernel
theorem d_cX17_input_24 : decode cX17_input 24 = .ok (.arraylength, 1) := by decide +kernel
theorem d_cX17_input_25 : decode cX17_input 25 = .ok (.if_icmp .ge 52, 3) := by decide +kernel
theorem d_cX17_input_77 : decode cX17_input 77 = .ok (.aload_n 0, 1) := by decide +kernel
theorem d_cX17_input_78 : decode cX17_input 78 = .ok (.iconst 0, 1) := by decide +kernel
theorem d_cX17_input_79 : decode cX17_input 79 = .ok (.putfield 383, 3) := by decide +kernel
theorem d_cX17_input_82 : decode cX17_input 82 = .ok (.aload_n 0, 1) := by decide +kernel
theorem d_cX17_input_83 : decode cX17_input 83 = .ok (.getfield 303, 3) := by decide +kernel
theorem d_cX17_input_86 : decode cX17_input 86 = .ok (.arraylength, 1) := by decide +kernel
theorem d_cX17_input_87 : decode cX17_input 87 = .ok (.ireturn, 1) := by decide +kernel
theorem d_cX17_list___0 : decode cX17_list__ 0 = .ok (.aload_n 0, 1) := by decide +kernel
theorem d_cX17_list___1 : decode cX17_list__ 1 = .ok (.iconst 0, 1) := by decide +kernel
theorem d_cX17_list___2 : decode cX17_list__ 2 = .ok (.putfield 380, 3) := by decide +kernel
theorem d_cX17_list___5 : decode cX17_list__ 5 = .ok (.iload_n 1, 1) := by decide +kernel
theorem d_cX17_list___6 : decode cX17_list__ 6 = .ok (.ifCond .eq 13, 3) := by decide +kernel
theorem d_cX17_list___9 : decode cX17_list__ 9 = .ok (.aload_n 0, 1) := by decide +kernel
theorem d_cX17_list___10 : decode cX17_list__ 10 = .ok (.getfield 416, 3) := by decide +kernel
theorem d_cX17_list___13 : decode cX17_list__ 13 = .ok (.ifCond .ne 19, 3) := by decide +kernel
theorem d_cX17_list___16 : decode cX17_list__ 16 = .ok (.goto 10, 3) := by decide +kernel
theorem d_cX17_list___19 : decode cX17_list__ 19 = .ok (.aload_n 0, 1) := by decide +kernel
theorem d_cX17_list___20 : decode cX17_list__ 20 = .ok (.getfield 414, 3) := by decide +kernel
theorem d_cX17_list___23 : decode cX17_list__ 23 = .ok (.ifCond .ne 9, 3) := by decide +kernel
theorem d_cX17_list___26 : decode cX17_list__ 26 = .ok (.aload_n 0, 1) := by decide +kernel
theorem d_cX17_list___27 : decode cX17_list__ 27 = .ok (.iconst 1, 1) := by decide +kernel
theorem d_cX17_list___28 : decode cX17_list__ 28 = .ok (.invokevirtual 385, 3) := by decide +kernel
theorem d_cX17_list___31 : decode cX17_list__ 31 = .ok (.ireturn, 1) := by decide +kernel
theorem d_cX17_look_0 : decode cX17_look 0 = .ok (.aload_n 0, 1) := by decide +kernel
theorem d_cX17_look_1 : decode cX17_look 1 = .ok (.iconst 0, 1) := by decide +kernel
theorem d_cX17_look_2 : decode cX17_look 2 = .ok (.putfield 380, 3) := by decide +kernel
theorem d_cX17_look_5 : decode cX17_look 5 = .ok (.aload_n 0, 1) := by decide +kernel
theorem d_cX17_look_6 : decode cX17_look 6 = .ok (.getfield 414, 3) := by decide +kernel
theorem d_cX17_look_9 : decode cX17_look 9 = .ok (.ifCond .ne 9, 3) := by decide +kernel
theorem d_cX17_look_12 : decode cX17_look 12 = .ok (.aload_n 0, 1) := by decide +kernel
theorem d_cX17_look_13 : decode cX17_look 13 = .ok (.iconst 1, 1) := by decide +kernel
theorem d_cX17_look_14 : decode cX17_look 14 = .ok (.invokevirtual 385, 3) := by decide +kernel
theorem d_cX17_look_17 : decode cX17_look 17 = .ok (.ireturn, 1) := by decide +kernel
theorem d_cX17_no_0 : decode cX17_no 0 = .ok (.aload_n 0, 1) := by decide +kernel
theorem d_cX17_no_1 : decode cX17_no 1 = .ok (.iload_n 1, 1) := by decide +kernel
theorem d_cX17_no_2 : decode cX17_no 2 = .ok (.putfield 380, 3) := by decide +kernel
theorem d_cX17_no_5 : decode cX17_no 5 = .ok (.iconst 0, 1) := by decide +kernel
theorem d_cX17_no_6 : decode cX17_no 6 = .ok (.ireturn, 1) := by decide +kernel
theorem d_cX17_run__0 : decode cX17_run_ 0 = .ok (.aload_n 0, 1) := by decide +kernel
theorem d_cX17_run__1 : decode cX17_run_ 1 = .ok (.iconst 0, 1) := by decide +kernel
theorem d_cX17_run__2 : decode cX17_run_ 2 = .ok (.putfield 380, 3) := by decide +kernel
theorem d_cX17_run__5 : decode cX17_run_ 5 = .ok (.iload_n 2, 1) := by decide +kernel
theorem d_cX17_run__6 : decode cX17_run_ 6 = .ok (.iconst 1, 1) := by decide +kernel
theorem d_cX17_run__7 : decode cX17_run_ 7 = .ok (.if_icmp .lt 10, 3) := by decide +kernel
theorem d_cX17_run__10 : decode cX17_run_ 10 = .ok (.iload_n 2, 1) := by decide +kernel
theorem d_cX17_run__11 : decode cX17_run_ 11 = .ok (.ldc_w 434, 3) := by decide +kernel
theorem d_cX17_run__14 : decode cX17_run_ 14 = .ok (.if_icmp .le 9, 3) := by decide +kernel
theorem d_cX17_run__17 : decode cX17_run_ 17 = .ok (.aload_n 0, 1) := by decide +kernel
theorem d_cX17_run__18 : decode cX17_run_ 18 = .ok (.iconst 1, 1) := by decide +kernel
theorem d_cX17_run__19 : decode cX17_run_ 19 = .ok (.invokevirtual 385, 3) := by decide +kernel
theorem d_cX17_run__22 : decode cX17_run_ 22 = .ok (.ireturn, 1) := by decide +kernel
theorem d_cX17_run__23 : decode cX17_run_ 23 = .ok (.iload_n 1, 1) := by decide +kernel
theorem d_cX17_run__24 : decode cX17_run_ 24 = .ok (.ifCond .eq 13, 3) := by decide +kernel
theorem d_cX17_run__27 : decode cX17_run_ 27 = .ok (.aload_n 0, 1) := by decide +kernel
theorem d_cX17_run__28 : decode cX17_run_ 28 = .ok (.getfield 416, 3) := by decide +kernel
theorem d_cX17_run__31 : decode cX17_run_ 31 = .ok (.ifCond .ne 19, 3) := by decide +kernel
theorem d_cX17_run__34 : decode cX17_run_ 34 = .ok (.goto 10, 3) := by decide +kernel
theorem d_cX17_run__37 : decode cX17_run_ 37 = .ok (.aload_n 0, 1) := by decide +kernel
theorem d_cX17_run__38 : decode cX17_run_ 38 = .ok (.getfield 414, 3) := by decide +kernel
theorem d_cX17_run__41 : decode cX17_run_ 41 = .ok (.ifCond .ne 9, 3) := by decide +kernel
theorem d_cX17_run__44 : decode cX17_run_ 44 = .ok (.aload_n 0, 1) := by decide +kernel
theorem d_cX17_run__45 : decode cX17_run_ 45 = .ok (.iconst 2, 1) := by decide +kernel
theorem d_cX17_run__46 : decode cX17_run_ 46 = .ok (.invokevirtual 385, 3) := by decide +kernel
theorem d_cX17_run__49 : decode cX17_run_ 49 = .ok (.ireturn, 1) := by decide +kernel
theorem d_cX17_shown_0 : decode cX17_shown 0 = .ok (.aload_n 0, 1) := by decide +kernel
theorem d_cX17_shown_1 : decode cX17_shown 1 = .ok (.iconst 0, 1) := by decide +kernel
theorem d_cX17_shown_2 : decode cX17_shown 2 = .ok (.putfield 380, 3) := by decide +kernel
theorem d_cX17_shown_5 : decode cX17_shown 5 = .ok (.iload_n 1, 1) := by decide +kernel
theorem d_cX17_shown_6 : decode cX17_shown 6 = .ok (.ifCond .lt 20, 3) := by decide +kernel
theorem d_cX17_shown_9 : decode cX17_shown 9 = .ok (.iload_n 1, 1) := by decide +kernel
theorem d_cX17_shown_10 : decode cX17_shown 10 = .ok (.aload_n 0, 1) := by decide +kernel
theorem d_cX17_shown_11 : decode cX17_shown 11 = .ok (.getfield 280, 3) := by decide +kernel
theorem d_cX17_shown_14 : decode cX17_shown 14 = .ok (.if_icmp .ge 12, 3) := by decide +kernel
theorem d_cX17_shown_26 : decode cX17_shown 26 = .ok (.aload_n 0, 1) := by decide +kernel
theorem d_cX17_shown_27 : decode cX17_shown 27 = .ok (.iconst 1, 1) := by decide +kernel
theorem d_cX17_shown_28 : decode cX17_shown 28 = .ok (.invokevirtual 385, 3) := by decide +kernel
theorem d_cX17_shown_31 : decode cX17_shown 31 = .ok (.ireturn, 1) := by decide +kernel
theorem d_cX17_text_0 : decode cX17_text 0 = .ok (.aload_n 0, 1) := by decide +kernel
theorem d_cX17_text_1 : decode cX17_text 1 = .ok (.iconst 0, 1) := by decide +kernel
theorem d_cX17_text_2 : decode cX17_text 2 = .ok (.putfield 380, 3) := by decide +kernel
theorem d_cX17_text_5 : decode cX17_text 5 = .ok (.iconst (-1), 1) := by decide +kernel
theorem d_cX17_text_6 : decode cX17_text 6 = .ok (.istore_n 1, 1) := by decide +kernel
theorem d_cX17_text_7 : decode cX17_text 7 = .ok (.aload_n 0, 1) := by decide +kernel
theorem d_cX17_text_8 : decode cX17_text 8 = .ok (.iconst 0, 1) := by decide +kernel
theorem d_cX17_text_9 : decode cX17_text 9 = .ok (.putfield 392, 3) := by decide +kernel
theorem d_cX17_text_12 : decode cX17_text 12 = .ok (.new 395, 3) := by decide +kernel
theorem d_cX17_text_15 : decode cX17_text 15 = .ok (.dup, 1) := by decide +kernel
theorem d_cX17_text_16 : decode cX17_text 16 = .ok (.aload_n 0, 1) := by decide +kernel
theorem d_cX17_text_17 : decode cX17_text 17 = .ok (.getfield 374, 3) := by decide +kernel
theorem d_cX17_text_20 : decode cX17_text 20 = .ok (.aload_n 0, 1) := by decide +kernel
theorem d_cX17_text_21 : decode cX17_text 21 = .ok (.getfield 383, 3) := by decide +kernel
theorem d_cX17_text_24 : decode cX17_text 24 = .ok (.invokespecial 397, 3) := by decide +kernel
theorem d_cX17_text_27 : decode cX17_text 27 = .ok (.astore_n 2, 1) := by decide +kernel
theorem d_cX17_text_28 : decode cX17_text 28 = .ok (.aload_n 2, 1) := by decide +kernel
theorem d_cX17_text_29 : decode cX17_text 29 = .ok (.aload_n 0, 1) := by decide +kernel
theorem d_cX17_text_30 : decode cX17_text 30 = .ok (.getfield 361, 3) := by decide +kernel
theorem d_cX17_text_33 : decode cX17_text 33 = .ok (.invokevirtual 400, 3) := by decide +kernel
theorem d_cX17_text_60 : decode cX17_text 60 = .ok (.astore_n 2, 1) := by decide +kernel
theorem d_cX17_text_61 : decode cX17_text 61 = .ok (.aload_n 2, 1) := by decide +kernel
theorem d_cX17_text_62 : decode cX17_text 62 = .ok (.getfield 411, 3) := by decide +kernel
theorem d_cX17_text_65 : decode cX17_text 65 = .ok (.istore_n 1, 1) := by decide +kernel
theorem d_cX17_text_66 : decode cX17_text 66 = .ok (.aload_n 0, 1) := by decide +kernel
theorem d_cX17_text_67 : decode cX17_text 67 = .ok (.iconst 1, 1) := by decide +kernel
theorem d_cX17_text_68 : decode cX17_text 68 = .ok (.putfield 392, 3) := by decide +kernel
theorem d_cX17_text_71 : decode cX17_text 71 = .ok (.aload_n 0, 1) := by decide +kernel
theorem d_cX17_text_72 : decode cX17_text 72 = .ok (.iconst 0, 1) := by decide +kernel
theorem d_cX17_text_73 : decode cX17_text 73 = .ok (.putfield 383, 3) := by decide +kernel
theorem d_cX17_text_76 : decode cX17_text 76 = .ok (.aload_n 0, 1) := by decide +kernel
theorem d_cX17_text_77 : decode cX17_text 77 = .ok (.iload_n 1, 1) := by decide +kernel
theorem d_cX17_text_78 : decode cX17_text 78 = .ok (.ifCond .ge 7, 3) := by decide +kernel
theorem d_cX17_text_85 : decode cX17_text 85 = .ok (.iconst 0, 1) := by decide +kernel
theorem d_cX17_text_86 : decode cX17_text 86 = .ok (.putfield 414, 3) := by decide +kernel
theorem d_cX17_text_89 : decode cX17_text 89 = .ok (.aload_n 0, 1) := by decide +kernel
theorem d_cX17_text_90 : decode cX17_text 90 = .ok (.getfield 414, 3) := by decide +kernel
theorem d_cX17_text_93 : decode cX17_text 93 = .ok (.ifCond .eq 8, 3) := by decide +kernel
theorem d_cX17_text_101 : decode cX17_text 101 = .ok (.iload_n 1, 1) := by decide +kernel
theorem d_cX17_text_102 : decode cX17_text 102 = .ok (.ireturn, 1) := by decide +kernel
theorem d_cX17_thrown_0 : decode cX17_thrown 0 = .ok (.aload_n 0, 1) := by decide +kernel
theorem d_cX17_thrown_1 : decode cX17_thrown 1 = .ok (.getfield 380, 3) := by decide +kernel
theorem d_cX17_thrown_4 : decode cX17_thrown 4 = .ok (.ireturn, 1) := by decide +kernel
theorem d_cX17_told_0 : decode cX17_told 0 = .ok (.aload_n 0, 1) := by decide +kernel
theorem d_cX17_told_1 : decode cX17_told 1 = .ok (.iconst 0, 1) := by decide +kernel
theorem d_cX17_told_2 : decode cX17_told 2 = .ok (.putfield 380, 3) := by decide +kernel
theorem d_cX17_told_5 : decode cX17_told 5 = .ok (.iload_n 1, 1) := by decide +kernel
theorem d_cX17_told_6 : decode cX17_told 6 = .ok (.tableswitch 70 0 4 #[34, 50, 55, 60, 65], 34) := by decide +kernel
theorem d_cX17_told_40 : decode cX17_told 40 = .ok (.aload_n 0, 1) := by decide +kernel
theorem d_cX17_told_41 : decode cX17_told 41 = .ok (.getfield 371, 3) := by decide +kernel
theorem d_cX17_told_44 : decode cX17_told 44 = .ok (.ifCond .ne 10, 3) := by decide +kernel
theorem d_cX17_told_54 : decode cX17_told 54 = .ok (.iconst 0, 1) := by decide +kernel
theorem d_cX17_told_55 : decode cX17_told 55 = .ok (.ireturn, 1) := by decide +kernel
theorem d_cX17_told_56 : decode cX17_told 56 = .ok (.aload_n 0, 1) := by decide +kernel
theorem d_cX17_told_57 : decode cX17_told 57 = .ok (.getfield 280, 3) := by decide +kernel
theorem d_cX17_told_60 : decode cX17_told 60 = .ok (.ireturn, 1) := by decide +kernel
theorem d_cX17_told_61 : decode cX17_told 61 = .ok (.aload_n 0, 1) := by decide +kernel
theorem d_cX17_told_62 : decode cX17_told 62 = .ok (.getfield 283, 3) := by decide +kernel
theorem d_cX17_told_65 : decode cX17_told 65 = .ok (.ireturn, 1) := by decide +kernel
theorem d_cX17_told_66 : decode cX17_told 66 = .ok (.aload_n 0, 1) := by decide +kernel
theorem d_cX17_told_67 : decode cX17_told 67 = .ok (.getfield 286, 3) := by decide +kernel
theorem d_cX17_told_70 : decode cX17_told 70 = .ok (.ireturn, 1) := by decide +kernel
theorem d_cX17_told_71 : decode cX17_told 71 = .ok (.aload_n 0, 1) := by decide +kernel
theorem d_cX17_told_72 : decode cX17_told 72 = .ok (.getfield 371, 3) := by decide +kernel
theorem d_cX17_told_75 : decode cX17_told 75 = .ok (.ireturn, 1) := by decide +kernel
theorem d_cX17_told_76 : decode cX17_told 76 = .ok (.aload_n 0, 1) := by decide +kernel
theorem d_cX17_told_77 : decode cX17_told 77 = .ok (.iconst 1, 1) := by decide +kernel
theorem d_cX17_told_78 : decode cX17_told 78 = .ok (.invokevirtual 385, 3) := by decide +kernel
theorem d_cX17_told_81 : decode cX17_told 81 = .ok (.ireturn, 1) := by decide +kernel
theorem d_cX17_word_0 : decode cX17_word 0 = .ok (.iconst 0, 1) := by decide +kernel
theorem d_cX17_word_1 : decode cX17_word 1 = .ok (.istore_n 3, 1) := by decide +kernel
theorem d_cX17_word_2 : decode cX17_word 2 = .ok (.iload_n 3, 1) := by decide +kernel
theorem d_cX17_word_3 : decode cX17_word 3 = .ok (.iconst 4, 1) := by decide +kernel
theorem d_cX17_word_4 : decode cX17_word 4 = .ok (.if_icmp .ge 27, 3) := by decide +kernel
theorem d_cX17_word_7 : decode cX17_word 7 = .ok (.aload_n 0, 1) := by decide +kernel
theorem d_cX17_word_8 : decode cX17_word 8 = .ok (.getfield 374, 3) := by decide +kernel
theorem d_cX17_word_11 : decode cX17_word 11 = .ok (.iload_n 2, 1) := by decide +kernel
theorem d_cX17_word_12 : decode cX17_word 12 = .ok (.iload_n 3, 1) := by decide +kernel
theorem d_cX17_word_13 : decode cX17_word 13 = .ok (.iadd, 1) := by decide +kernel
theorem d_cX17_word_14 : decode cX17_word 14 = .ok (.iload_n 1, 1) := by decide +kernel
theorem d_cX17_word_15 : decode cX17_word 15 = .ok (.bipush 24, 2) := by decide +kernel
theorem d_cX17_word_17 : decode cX17_word 17 = .ok (.bipush 8, 2) := by decide +kernel
theorem d_cX17_word_19 : decode cX17_word 19 = .ok (.iload_n 3, 1) := by decide +kernel
theorem d_cX17_word_20 : decode cX17_word 20 = .ok (.imul, 1) := by decide +kernel
theorem d_cX17_word_21 : decode cX17_word 21 = .ok (.isub, 1) := by decide +kernel
theorem d_cX17_word_22 : decode cX17_word 22 = .ok (.ishr, 1) := by decide +kernel
theorem d_cX17_word_23 : decode cX17_word 23 = .ok (.i2b, 1) := by decide +kernel
theorem d_cX17_word_24 : decode cX17_word 24 = .ok (.bastore, 1) := by decide +kernel
theorem d_cX17_word_25 : decode cX17_word 25 = .ok (.iinc 3 1, 3) := by decide +kernel
