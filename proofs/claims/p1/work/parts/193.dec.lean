theorem d_cX11_shown_15 : decode cX11_shown 15 = .ok (.new 68, 3) := by decide +kernel
theorem d_cX11_shown_18 : decode cX11_shown 18 = .ok (.dup, 1) := by decide +kernel
theorem d_cX11_shown_19 : decode cX11_shown 19 = .ok (.ldc 212, 2) := by decide +kernel
theorem d_cX11_shown_21 : decode cX11_shown 21 = .ok (.invokespecial 72, 3) := by decide +kernel
theorem d_cX11_shown_24 : decode cX11_shown 24 = .ok (.athrow, 1) := by decide +kernel
theorem d_cX11_text_0 : decode cX11_text 0 = .ok (.aload_n 0, 1) := by decide +kernel
theorem d_cX11_text_1 : decode cX11_text 1 = .ok (.getfield 21, 3) := by decide +kernel
theorem d_cX11_text_4 : decode cX11_text 4 = .ok (.aload_n 0, 1) := by decide +kernel
theorem d_cX11_text_5 : decode cX11_text 5 = .ok (.getfield 30, 3) := by decide +kernel
theorem d_cX11_text_8 : decode cX11_text 8 = .ok (.invokevirtual 90, 3) := by decide +kernel
theorem d_cX11_text_11 : decode cX11_text 11 = .ok (.istore_n 1, 1) := by decide +kernel
theorem d_cX11_text_12 : decode cX11_text 12 = .ok (.aload_n 0, 1) := by decide +kernel
theorem d_cX11_text_13 : decode cX11_text 13 = .ok (.getfield 12, 3) := by decide +kernel
theorem d_cX11_text_16 : decode cX11_text 16 = .ok (.iconst 0, 1) := by decide +kernel
theorem d_cX11_text_17 : decode cX11_text 17 = .ok (.invokevirtual 87, 3) := by decide +kernel
theorem d_cX11_text_20 : decode cX11_text 20 = .ok (.aload_n 0, 1) := by decide +kernel
theorem d_cX11_text_21 : decode cX11_text 21 = .ok (.iload_n 1, 1) := by decide +kernel
theorem d_cX11_text_22 : decode cX11_text 22 = .ok (.iconst (-1), 1) := by decide +kernel
theorem d_cX11_text_23 : decode cX11_text 23 = .ok (.if_icmp .ne 7, 3) := by decide +kernel
theorem d_cX11_text_30 : decode cX11_text 30 = .ok (.iconst 0, 1) := by decide +kernel
theorem d_cX11_text_31 : decode cX11_text 31 = .ok (.putfield 94, 3) := by decide +kernel
theorem d_cX11_text_34 : decode cX11_text 34 = .ok (.aload_n 0, 1) := by decide +kernel
theorem d_cX11_text_35 : decode cX11_text 35 = .ok (.getfield 94, 3) := by decide +kernel
theorem d_cX11_text_38 : decode cX11_text 38 = .ok (.ifCond .eq 25, 3) := by decide +kernel
theorem d_cX11_text_63 : decode cX11_text 63 = .ok (.iload_n 1, 1) := by decide +kernel
theorem d_cX11_text_64 : decode cX11_text 64 = .ok (.ireturn, 1) := by decide +kernel
theorem d_cX11_told_0 : decode cX11_told 0 = .ok (.iload_n 1, 1) := by decide +kernel
theorem d_cX11_told_1 : decode cX11_told 1 = .ok (.tableswitch 75 0 4 #[35, 43, 51, 59, 67], 35) := by decide +kernel
theorem d_cX11_told_36 : decode cX11_told 36 = .ok (.aload_n 0, 1) := by decide +kernel
theorem d_cX11_told_37 : decode cX11_told 37 = .ok (.getfield 53, 3) := by decide +kernel
theorem d_cX11_told_40 : decode cX11_told 40 = .ok (.invokevirtual 198, 3) := by decide +kernel
theorem d_cX11_told_43 : decode cX11_told 43 = .ok (.ireturn, 1) := by decide +kernel
theorem d_cX11_told_44 : decode cX11_told 44 = .ok (.aload_n 0, 1) := by decide +kernel
theorem d_cX11_told_45 : decode cX11_told 45 = .ok (.getfield 53, 3) := by decide +kernel
theorem d_cX11_told_48 : decode cX11_told 48 = .ok (.invokevirtual 201, 3) := by decide +kernel
theorem d_cX11_told_51 : decode cX11_told 51 = .ok (.ireturn, 1) := by decide +kernel
theorem d_cX11_told_52 : decode cX11_told 52 = .ok (.aload_n 0, 1) := by decide +kernel
theorem d_cX11_told_53 : decode cX11_told 53 = .ok (.getfield 53, 3) := by decide +kernel
theorem d_cX11_told_56 : decode cX11_told 56 = .ok (.invokevirtual 204, 3) := by decide +kernel
theorem d_cX11_told_59 : decode cX11_told 59 = .ok (.ireturn, 1) := by decide +kernel
theorem d_cX11_told_60 : decode cX11_told 60 = .ok (.aload_n 0, 1) := by decide +kernel
theorem d_cX11_told_61 : decode cX11_told 61 = .ok (.getfield 53, 3) := by decide +kernel
theorem d_cX11_told_64 : decode cX11_told 64 = .ok (.invokevirtual 207, 3) := by decide +kernel
theorem d_cX11_told_67 : decode cX11_told 67 = .ok (.ireturn, 1) := by decide +kernel
theorem d_cX11_told_68 : decode cX11_told 68 = .ok (.aload_n 0, 1) := by decide +kernel
theorem d_cX11_told_69 : decode cX11_told 69 = .ok (.getfield 53, 3) := by decide +kernel
theorem d_cX11_told_72 : decode cX11_told 72 = .ok (.invokevirtual 195, 3) := by decide +kernel
theorem d_cX11_told_75 : decode cX11_told 75 = .ok (.ireturn, 1) := by decide +kernel
theorem d_cX11_told_76 : decode cX11_told 76 = .ok (.new 82, 3) := by decide +kernel
theorem d_cX11_told_79 : decode cX11_told 79 = .ok (.dup, 1) := by decide +kernel
theorem d_cX11_told_80 : decode cX11_told 80 = .ok (.ldc 210, 2) := by decide +kernel
theorem d_cX11_told_82 : decode cX11_told 82 = .ok (.invokespecial 86, 3) := by decide +kernel
theorem d_cX11_told_85 : decode cX11_told 85 = .ok (.athrow, 1) := by decide +kernel
theorem d_cX11_word_0 : decode cX11_word 0 = .ok (.iload_n 1, 1) := by decide +kernel
theorem d_cX11_word_1 : decode cX11_word 1 = .ok (.ifCond .lt 14, 3) := by decide +kernel
theorem d_cX11_word_4 : decode cX11_word 4 = .ok (.iload_n 1, 1) := by decide +kernel
theorem d_cX11_word_5 : decode cX11_word 5 = .ok (.aload_n 0, 1) := by decide +kernel
theorem d_cX11_word_6 : decode cX11_word 6 = .ok (.getfield 60, 3) := by decide +kernel
theorem d_cX11_word_9 : decode cX11_word 9 = .ok (.invokevirtual 130, 3) := by decide +kernel
theorem d_cX11_word_12 : decode cX11_word 12 = .ok (.if_icmp .lt 13, 3) := by decide +kernel
theorem d_cX11_word_15 : decode cX11_word 15 = .ok (.new 68, 3) := by decide +kernel
theorem d_cX11_word_18 : decode cX11_word 18 = .ok (.dup, 1) := by decide +kernel
theorem d_cX11_word_19 : decode cX11_word 19 = .ok (.ldc 222, 2) := by decide +kernel
theorem d_cX11_word_21 : decode cX11_word 21 = .ok (.invokespecial 72, 3) := by decide +kernel
theorem d_cX11_word_24 : decode cX11_word 24 = .ok (.athrow, 1) := by decide +kernel
theorem d_cX13_begin_0 : decode cX13_begin 0 = .ok (.aload_n 0, 1) := by decide +kernel
theorem d_cX13_begin_1 : decode cX13_begin 1 = .ok (.iconst 0, 1) := by decide +kernel
theorem d_cX13_begin_2 : decode cX13_begin 2 = .ok (.putfield 19, 3) := by decide +kernel
theorem d_cX13_begin_5 : decode cX13_begin 5 = .ok (.aload_n 0, 1) := by decide +kernel
theorem d_cX13_begin_6 : decode cX13_begin 6 = .ok (.iconst 0, 1) := by decide +kernel
theorem d_cX13_begin_7 : decode cX13_begin 7 = .ok (.putfield 23, 3) := by decide +kernel
theorem d_cX13_begin_10 : decode cX13_begin 10 = .ok (.return_, 1) := by decide +kernel
theorem d_cX13_init_0 : decode cX13_init 0 = .ok (.aload_n 0, 1) := by decide +kernel
theorem d_cX13_init_1 : decode cX13_init 1 = .ok (.invokespecial 1, 3) := by decide +kernel
theorem d_cX13_init_4 : decode cX13_init 4 = .ok (.aload_n 0, 1) := by decide +kernel
theorem d_cX13_init_5 : decode cX13_init 5 = .ok (.new 7, 3) := by decide +kernel
theorem d_cX13_init_8 : decode cX13_init 8 = .ok (.dup, 1) := by decide +kernel
theorem d_cX13_init_9 : decode cX13_init 9 = .ok (.invokespecial 9, 3) := by decide +kernel
theorem d_cX13_init_12 : decode cX13_init 12 = .ok (.putfield 10, 3) := by decide +kernel
theorem d_cX13_init_15 : decode cX13_init 15 = .ok (.aload_n 0, 1) := by decide +kernel
theorem d_cX13_init_16 : decode cX13_init 16 = .ok (.new 7, 3) := by decide +kernel
theorem d_cX13_init_19 : decode cX13_init 19 = .ok (.dup, 1) := by decide +kernel
theorem d_cX13_init_20 : decode cX13_init 20 = .ok (.invokespecial 9, 3) := by decide +kernel
theorem d_cX13_init_23 : decode cX13_init 23 = .ok (.putfield 16, 3) := by decide +kernel
theorem d_cX13_init_26 : decode cX13_init 26 = .ok (.return_, 1) := by decide +kernel
theorem d_cX14_block_0 : decode cX14_block 0 = .ok (.aload_n 0, 1) := by decide +kernel
theorem d_cX14_block_1 : decode cX14_block 1 = .ok (.getfield 47, 3) := by decide +kernel
theorem d_cX14_block_4 : decode cX14_block 4 = .ok (.istore_n 2, 1) := by decide +kernel
theorem d_cX14_block_5 : decode cX14_block 5 = .ok (.aload_n 0, 1) := by decide +kernel
theorem d_cX14_block_6 : decode cX14_block 6 = .ok (.iconst 3, 1) := by decide +kernel
theorem d_cX14_block_7 : decode cX14_block 7 = .ok (.invokevirtual 152, 3) := by decide +kernel
theorem d_cX14_init_0 : decode cX14_init 0 = .ok (.aload_n 0, 1) := by decide +kernel
theorem d_cX14_init_1 : decode cX14_init 1 = .ok (.invokespecial 3, 3) := by decide +kernel
theorem d_cX14_init_4 : decode cX14_init 4 = .ok (.aload_n 0, 1) := by decide +kernel
theorem d_cX14_init_5 : decode cX14_init 5 = .ok (.ldc 9, 2) := by decide +kernel
theorem d_cX14_init_7 : decode cX14_init 7 = .ok (.putfield 11, 3) := by decide +kernel
theorem d_cX14_init_10 : decode cX14_init 10 = .ok (.aload_n 0, 1) := by decide +kernel
theorem d_cX14_init_11 : decode cX14_init 11 = .ok (.iconst (-1), 1) := by decide +kernel
theorem d_cX14_init_12 : decode cX14_init 12 = .ok (.putfield 17, 3) := by decide +kernel
theorem d_cX14_init_15 : decode cX14_init 15 = .ok (.aload_n 0, 1) := by decide +kernel
theorem d_cX14_init_16 : decode cX14_init 16 = .ok (.bipush 16, 2) := by decide +kernel
theorem d_cX14_init_18 : decode cX14_init 18 = .ok (.newarray .int, 2) := by decide +kernel
theorem d_cX14_init_20 : decode cX14_init 20 = .ok (.putfield 21, 3) := by decide +kernel
theorem d_cX14_init_23 : decode cX14_init 23 = .ok (.aload_n 0, 1) := by decide +kernel
theorem d_cX14_init_24 : decode cX14_init 24 = .ok (.bipush 16, 2) := by decide +kernel
theorem d_cX14_init_26 : decode cX14_init 26 = .ok (.newarray .int, 2) := by decide +kernel
theorem d_cX14_init_28 : decode cX14_init 28 = .ok (.putfield 25, 3) := by decide +kernel
theorem d_cX14_init_31 : decode cX14_init 31 = .ok (.aload_n 0, 1) := by decide +kernel
theorem d_cX14_init_32 : decode cX14_init 32 = .ok (.aload_n 1, 1) := by decide +kernel
theorem d_cX14_init_33 : decode cX14_init 33 = .ok (.putfield 28, 3) := by decide +kernel
theorem d_cX14_init_36 : decode cX14_init 36 = .ok (.aload_n 0, 1) := by decide +kernel
theorem d_cX14_init_37 : decode cX14_init 37 = .ok (.iload_n 2, 1) := by decide +kernel
theorem d_cX14_init_38 : decode cX14_init 38 = .ok (.putfield 32, 3) := by decide +kernel
theorem d_cX14_init_41 : decode cX14_init 41 = .ok (.aload_n 0, 1) := by decide +kernel
theorem d_cX14_init_42 : decode cX14_init 42 = .ok (.invokevirtual 35, 3) := by decide +kernel
theorem d_cX14_init_45 : decode cX14_init 45 = .ok (.return_, 1) := by decide +kernel
theorem d_cX14_next_0 : decode cX14_next 0 = .ok (.aload_n 0, 1) := by decide +kernel
theorem d_cX14_next_1 : decode cX14_next 1 = .ok (.aload_n 0, 1) := by decide +kernel
theorem d_cX14_next_2 : decode cX14_next 2 = .ok (.getfield 38, 3) := by decide +kernel
theorem d_cX14_next_5 : decode cX14_next 5 = .ok (.putfield 41, 3) := by decide +kernel
theorem d_cX14_next_8 : decode cX14_next 8 = .ok (.aload_n 0, 1) := by decide +kernel
theorem d_cX14_next_9 : decode cX14_next 9 = .ok (.getfield 44, 3) := by decide +kernel
theorem d_cX14_next_12 : decode cX14_next 12 = .ok (.aload_n 0, 1) := by decide +kernel
theorem d_cX14_next_13 : decode cX14_next 13 = .ok (.getfield 32, 3) := by decide +kernel
theorem d_cX14_next_16 : decode cX14_next 16 = .ok (.if_icmp .ge 94, 3) := by decide +kernel
theorem d_cX14_next_110 : decode cX14_next 110 = .ok (.aload_n 0, 1) := by decide +kernel
theorem d_cX14_next_111 : decode cX14_next 111 = .ok (.aload_n 0, 1) := by decide +kernel
theorem d_cX14_next_112 : decode cX14_next 112 = .ok (.getfield 44, 3) := by decide +kernel
theorem d_cX14_next_115 : decode cX14_next 115 = .ok (.putfield 47, 3) := by decide +kernel
theorem d_cX14_next_118 : decode cX14_next 118 = .ok (.aload_n 0, 1) := by decide +kernel
theorem d_cX14_next_119 : decode cX14_next 119 = .ok (.ldc 9, 2) := by decide +kernel
theorem d_cX14_next_121 : decode cX14_next 121 = .ok (.putfield 11, 3) := by decide +kernel
theorem d_cX14_next_124 : decode cX14_next 124 = .ok (.aload_n 0, 1) := by decide +kernel
theorem d_cX14_next_125 : decode cX14_next 125 = .ok (.getfield 44, 3) := by decide +kernel
theorem d_cX14_next_128 : decode cX14_next 128 = .ok (.aload_n 0, 1) := by decide +kernel
theorem d_cX14_next_129 : decode cX14_next 129 = .ok (.getfield 32, 3) := by decide +kernel
theorem d_cX14_next_132 : decode cX14_next 132 = .ok (.if_icmp .ne 9, 3) := by decide +kernel
theorem d_cX14_next_135 : decode cX14_next 135 = .ok (.aload_n 0, 1) := by decide +kernel
theorem d_cX14_next_136 : decode cX14_next 136 = .ok (.iconst 0, 1) := by decide +kernel
theorem d_cX14_next_137 : decode cX14_next 137 = .ok (.putfield 38, 3) := by decide +kernel
theorem d_cX14_next_140 : decode cX14_next 140 = .ok (.return_, 1) := by decide +kernel
theorem d_cX14_no_0 : decode cX14_no 0 = .ok (.new 124, 3) := by decide +kernel
theorem d_cX14_no_3 : decode cX14_no 3 = .ok (.dup, 1) := by decide +kernel
theorem d_cX14_no_4 : decode cX14_no 4 = .ok (.aload_n 0, 1) := by decide +kernel
theorem d_cX14_no_5 : decode cX14_no 5 = .ok (.getfield 47, 3) := by decide +kernel
theorem d_cX14_no_8 : decode cX14_no 8 = .ok (.invokespecial 126, 3) := by decide +kernel
theorem d_cX14_no_11 : decode cX14_no 11 = .ok (.areturn, 1) := by decide +kernel
theorem d_cX14_program_0 : decode cX14_program 0 = .ok (.aload_n 1, 1) := by decide +kernel
theorem d_cX14_program_1 : decode cX14_program 1 = .ok (.invokevirtual 155, 3) := by decide +kernel
theorem d_cX14_program_4 : decode cX14_program 4 = .ok (.aload_n 0, 1) := by decide +kernel
theorem d_cX14_program_5 : decode cX14_program 5 = .ok (.aload_n 1, 1) := by decide +kernel
theorem d_cX14_program_6 : decode cX14_program 6 = .ok (.invokevirtual 160, 3) := by decide +kernel
theorem d_cX14_want__0 : decode cX14_want_ 0 = .ok (.aload_n 0, 1) := by decide +kernel
theorem d_cX14_want__1 : decode cX14_want_ 1 = .ok (.getfield 38, 3) := by decide +kernel
theorem d_cX14_want__4 : decode cX14_want_ 4 = .ok (.iload_n 1, 1) := by decide +kernel
theorem d_cX14_want__5 : decode cX14_want_ 5 = .ok (.if_icmp .eq 8, 3) := by decide +kernel
theorem d_cX14_want__8 : decode cX14_want_ 8 = .ok (.aload_n 0, 1) := by decide +kernel
theorem d_cX14_want__9 : decode cX14_want_ 9 = .ok (.invokevirtual 136, 3) := by decide +kernel
theorem d_cX14_want__12 : decode cX14_want_ 12 = .ok (.athrow, 1) := by decide +kernel
theorem d_cX16_init_0 : decode cX16_init 0 = .ok (.aload_n 0, 1) := by decide +kernel
theorem d_cX16_init_1 : decode cX16_init 1 = .ok (.aconst_null, 1) := by decide +kernel
theorem d_cX16_init_2 : decode cX16_init 2 = .ok (.aconst_null, 1) := by decide +kernel
theorem d_cX16_init_3 : decode cX16_init 3 = .ok (.iconst 0, 1) := by decide +kernel
theorem d_cX16_init_4 : decode cX16_init 4 = .ok (.iconst 0, 1) := by decide +kernel
theorem d_cX16_init_5 : decode cX16_init 5 = .ok (.invokespecial 1, 3) := by decide +kernel
theorem d_cX16_init_8 : decode cX16_init 8 = .ok (.aload_n 0, 1) := by decide +kernel
theorem d_cX16_init_9 : decode cX16_init 9 = .ok (.iload_n 1, 1) := by decide +kernel
theorem d_cX16_init_10 : decode cX16_init 10 = .ok (.putfield 7, 3) := by decide +kernel
theorem d_cX16_init_13 : decode cX16_init 13 = .ok (.return_, 1) := by decide +kernel
theorem d_cX17_count__0 : decode cX17_count_ 0 = .ok (.aload_n 0, 1) := by decide +kernel
theorem d_cX17_count__1 : decode cX17_count_ 1 = .ok (.iconst 0, 1) := by decide +kernel
theorem d_cX17_count__2 : decode cX17_count_ 2 = .ok (.putfield 380, 3) := by decide +kernel
theorem d_cX17_count__5 : decode cX17_count_ 5 = .ok (.iload_n 1, 1) := by decide +kernel
theorem d_cX17_count__6 : decode cX17_count_ 6 = .ok (.tableswitch 240 0 11 #[62, 81, 100, 105, 110, 115, 134, 150, 166, 182, 198, 219], 62) := by decide +kernel
theorem d_cX17_count__68 : decode cX17_count_ 68 = .ok (.aload_n 0, 1) := by decide +kernel
theorem d_cX17_count__69 : decode cX17_count_ 69 = .ok (.getfield 414, 3) := by decide +kernel
theorem d_cX17_count__72 : decode cX17_count_ 72 = .ok (.ifCond .eq 13, 3) := by decide +kernel
theorem d_cX17_count__85 : decode cX17_count_ 85 = .ok (.iconst 0, 1) := by decide +kernel
theorem d_cX17_count__86 : decode cX17_count_ 86 = .ok (.ireturn, 1) := by decide +kernel
theorem d_cX17_count__87 : decode cX17_count_ 87 = .ok (.aload_n 0, 1) := by decide +kernel
theorem d_cX17_count__88 : decode cX17_count_ 88 = .ok (.getfield 414, 3) := by decide +kernel
theorem d_cX17_count__91 : decode cX17_count_ 91 = .ok (.ifCond .eq 13, 3) := by decide +kernel
theorem d_cX17_count__104 : decode cX17_count_ 104 = .ok (.iconst 0, 1) := by decide +kernel
theorem d_cX17_count__105 : decode cX17_count_ 105 = .ok (.ireturn, 1) := by decide +kernel
theorem d_cX17_count__106 : decode cX17_count_ 106 = .ok (.aload_n 0, 1) := by decide +kernel
theorem d_cX17_count__107 : decode cX17_count_ 107 = .ok (.getfield 392, 3) := by decide +kernel
theorem d_cX17_count__110 : decode cX17_count_ 110 = .ok (.ireturn, 1) := by decide +kernel
theorem d_cX17_count__111 : decode cX17_count_ 111 = .ok (.aload_n 0, 1) := by decide +kernel
theorem d_cX17_count__112 : decode cX17_count_ 112 = .ok (.getfield 383, 3) := by decide +kernel
theorem d_cX17_count__115 : decode cX17_count_ 115 = .ok (.ireturn, 1) := by decide +kernel
theorem d_cX17_count__116 : decode cX17_count_ 116 = .ok (.aload_n 0, 1) := by decide +kernel
theorem d_cX17_count__117 : decode cX17_count_ 117 = .ok (.getfield 426, 3) := by decide +kernel
theorem d_cX17_count__120 : decode cX17_count_ 120 = .ok (.ireturn, 1) := by decide +kernel
theorem d_cX17_count__121 : decode cX17_count_ 121 = .ok (.aload_n 0, 1) := by decide +kernel
theorem d_cX17_count__122 : decode cX17_count_ 122 = .ok (.getfield 416, 3) := by decide +kernel
theorem d_cX17_count__125 : decode cX17_count_ 125 = .ok (.ifCond .eq 13, 3) := by decide +kernel
theorem d_cX17_count__138 : decode cX17_count_ 138 = .ok (.iconst 0, 1) := by decide +kernel
theorem d_cX17_count__139 : decode cX17_count_ 139 = .ok (.ireturn, 1) := by decide +kernel
theorem d_cX17_count__140 : decode cX17_count_ 140 = .ok (.aload_n 0, 1) := by decide +kernel
theorem d_cX17_count__141 : decode cX17_count_ 141 = .ok (.getfield 416, 3) := by decide +kernel
theorem d_cX17_count__144 : decode cX17_count_ 144 = .ok (.ifCond .eq 10, 3) := by decide +kernel
theorem d_cX17_count__154 : decode cX17_count_ 154 = .ok (.iconst 0, 1) := by decide +kernel
theorem d_cX17_count__155 : decode cX17_count_ 155 = .ok (.ireturn, 1) := by decide +kernel
theorem d_cX17_count__156 : decode cX17_count_ 156 = .ok (.aload_n 0, 1) := by decide +kernel
theorem d_cX17_count__157 : decode cX17_count_ 157 = .ok (.getfield 416, 3) := by decide +kernel
theorem d_cX17_count__160 : decode cX17_count_ 160 = .ok (.ifCond .eq 10, 3) := by decide +kernel
theorem d_cX17_count__170 : decode cX17_count_ 170 = .ok (.iconst 0, 1) := by decide +kernel
theorem d_cX17_count__171 : decode cX17_count_ 171 = .ok (.ireturn, 1) := by decide +kernel
theorem d_cX17_count__172 : decode cX17_count_ 172 = .ok (.aload_n 0, 1) := by decide +kernel
theorem d_cX17_count__173 : decode cX17_count_ 173 = .ok (.getfield 416, 3) := by decide +kernel
theorem d_cX17_count__176 : decode cX17_count_ 176 = .ok (.ifCond .eq 10, 3) := by decide +kernel
theorem d_cX17_count__186 : decode cX17_count_ 186 = .ok (.iconst 0, 1) := by decide +kernel
theorem d_cX17_count__187 : decode cX17_count_ 187 = .ok (.ireturn, 1) := by decide +kernel
theorem d_cX17_count__188 : decode cX17_count_ 188 = .ok (.aload_n 0, 1) := by decide +kernel
theorem d_cX17_count__189 : decode cX17_count_ 189 = .ok (.getfield 416, 3) := by decide +kernel
theorem d_cX17_count__192 : decode cX17_count_ 192 = .ok (.ifCond .eq 10, 3) := by decide +kernel
theorem d_cX17_count__202 : decode cX17_count_ 202 = .ok (.iconst 0, 1) := by decide +kernel
theorem d_cX17_count__203 : decode cX17_count_ 203 = .ok (.ireturn, 1) := by decide +kernel
theorem d_cX17_count__204 : decode cX17_count_ 204 = .ok (.aload_n 0, 1) := by decide +kernel
theorem d_cX17_count__205 : decode cX17_count_ 205 = .ok (.getfield 416, 3) := by decide +kernel
theorem d_cX17_count__208 : decode cX17_count_ 208 = .ok (.ifCond .eq 15, 3) := by decide +kernel
theorem d_cX17_count__223 : decode cX17_count_ 223 = .ok (.iconst 0, 1) := by decide +kernel
theorem d_cX17_count__224 : decode cX17_count_ 224 = .ok (.ireturn, 1) := by decide +kernel
theorem d_cX17_count__225 : decode cX17_count_ 225 = .ok (.aload_n 0, 1) := by decide +kernel
theorem d_cX17_count__226 : decode cX17_count_ 226 = .ok (.getfield 416, 3) := by decide +kernel
theorem d_cX17_count__229 : decode cX17_count_ 229 = .ok (.ifCond .eq 15, 3) := by decide +kernel
theorem d_cX17_count__244 : decode cX17_count_ 244 = .ok (.iconst 0, 1) := by decide +kernel
theorem d_cX17_count__245 : decode cX17_count_ 245 = .ok (.ireturn, 1) := by decide +kernel
theorem d_cX17_count__246 : decode cX17_count_ 246 = .ok (.aload_n 0, 1) := by decide +kernel
theorem d_cX17_count__247 : decode cX17_count_ 247 = .ok (.iconst 1, 1) := by decide +kernel
theorem d_cX17_count__248 : decode cX17_count_ 248 = .ok (.invokevirtual 385, 3) := by decide +kernel
theorem d_cX17_count__251 : decode cX17_count_ 251 = .ok (.ireturn, 1) := by decide +kernel
theorem d_cX17_end_0 : decode cX17_end 0 = .ok (.aload_n 0, 1) := by decide +kernel
theorem d_cX17_end_1 : decode cX17_end 1 = .ok (.iconst 0, 1) := by decide +kernel
theorem d_cX17_end_2 : decode cX17_end 2 = .ok (.putfield 380, 3) := by decide +kernel
theorem d_cX17_end_5 : decode cX17_end 5 = .ok (.iload_n 1, 1) := by decide +kernel
theorem d_cX17_end_6 : decode cX17_end 6 = .ok (.ifCond .lt 11, 3) := by decide +kernel
theorem d_cX17_end_9 : decode cX17_end 9 = .ok (.iload_n 1, 1) := by decide +kernel
theorem d_cX17_end_10 : decode cX17_end 10 = .ok (.aload_n 0, 1) := by decide +kernel
theorem d_cX17_end_11 : decode cX17_end 11 = .ok (.getfield 383, 3) := by decide +kernel
theorem d_cX17_end_14 : decode cX17_end 14 = .ok (.if_icmp .le 9, 3) := by decide +kernel
theorem d_cX17_end_17 : decode cX17_end 17 = .ok (.aload_n 0, 1) := by decide +kernel
theorem d_cX17_end_18 : decode cX17_end 18 = .ok (.iconst 1, 1) := by decide +kernel
theorem d_cX17_end_19 : decode cX17_end 19 = .ok (.invokevirtual 385, 3) := by decide +kernel
theorem d_cX17_end_22 : decode cX17_end 22 = .ok (.ireturn, 1) := by decide +kernel
theorem d_cX17_end_23 : decode cX17_end 23 = .ok (.aload_n 0, 1) := by decide +kernel
theorem d_cX17_end_24 : decode cX17_end 24 = .ok (.iload_n 1, 1) := by decide +kernel
theorem d_cX17_end_25 : decode cX17_end 25 = .ok (.putfield 383, 3) := by decide +kernel
theorem d_cX17_end_28 : decode cX17_end 28 = .ok (.iload_n 1, 1) := by decide +kernel
theorem d_cX17_end_29 : decode cX17_end 29 = .ok (.ireturn, 1) := by decide +kernel
theorem d_cX17_feed_0 : decode cX17_feed 0 = .ok (.aload_n 0, 1) := by decide +kernel
theorem d_cX17_feed_1 : decode cX17_feed 1 = .ok (.iconst 0, 1) := by decide +kernel
theorem d_cX17_feed_2 : decode cX17_feed 2 = .ok (.putfield 380, 3) := by decide +kernel
theorem d_cX17_feed_5 : decode cX17_feed 5 = .ok (.aload_n 0, 1) := by decide +kernel
theorem d_cX17_feed_6 : decode cX17_feed 6 = .ok (.getfield 383, 3) := by decide +kernel
theorem d_cX17_feed_9 : decode cX17_feed 9 = .ok (.bipush 20, 2) := by decide +kernel
theorem d_cX17_feed_11 : decode cX17_feed 11 = .ok (.iadd, 1) := by decide +kernel
theorem d_cX17_feed_12 : decode cX17_feed 12 = .ok (.sipush 8192, 3) := by decide +kernel
theorem d_cX17_feed_15 : decode cX17_feed 15 = .ok (.if_icmp .le 9, 3) := by decide +kernel
theorem d_cX17_feed_24 : decode cX17_feed 24 = .ok (.aload_n 0, 1) := by decide +kernel
theorem d_cX17_feed_25 : decode cX17_feed 25 = .ok (.iload_n 1, 1) := by decide +kernel
theorem d_cX17_feed_26 : decode cX17_feed 26 = .ok (.aload_n 0, 1) := by decide +kernel
theorem d_cX17_feed_27 : decode cX17_feed 27 = .ok (.getfield 383, 3) := by decide +kernel
theorem d_cX17_feed_30 : decode cX17_feed 30 = .ok (.invokevirtual 388, 3) := by decide +kernel
theorem d_cX17_feed_33 : decode cX17_feed 33 = .ok (.aload_n 0, 1) := by decide +kernel
theorem d_cX17_feed_34 : decode cX17_feed 34 = .ok (.iload_n 2, 1) := by decide +kernel
theorem d_cX17_feed_35 : decode cX17_feed 35 = .ok (.aload_n 0, 1) := by decide +kernel
theorem d_cX17_feed_36 : decode cX17_feed 36 = .ok (.getfield 383, 3) := by decide +kernel
theorem d_cX17_feed_39 : decode cX17_feed 39 = .ok (.iconst 4, 1) := by decide +kernel
theorem d_cX17_feed_40 : decode cX17_feed 40 = .ok (.iadd, 1) := by decide +kernel
theorem d_cX17_feed_41 : decode cX17_feed 41 = .ok (.invokevirtual 388, 3) := by decide +kernel
theorem d_cX17_feed_44 : decode cX17_feed 44 = .ok (.aload_n 0, 1) := by decide +kernel
theorem d_cX17_feed_45 : decode cX17_feed 45 = .ok (.iload_n 3, 1) := by decide +kernel
theorem d_cX17_feed_46 : decode cX17_feed 46 = .ok (.aload_n 0, 1) := by decide +kernel
theorem d_cX17_feed_47 : decode cX17_feed 47 = .ok (.getfield 383, 3) := by decide +kernel
theorem d_cX17_feed_50 : decode cX17_feed 50 = .ok (.bipush 8, 2) := by decide +kernel
theorem d_cX17_feed_52 : decode cX17_feed 52 = .ok (.iadd, 1) := by decide +kernel
theorem d_cX17_feed_53 : decode cX17_feed 53 = .ok (.invokevirtual 388, 3) := by decide +kernel
theorem d_cX17_feed_56 : decode cX17_feed 56 = .ok (.aload_n 0, 1) := by decide +kernel
theorem d_cX17_feed_57 : decode cX17_feed 57 = .ok (.iload 4, 2) := by decide +kernel
theorem d_cX17_feed_59 : decode cX17_feed 59 = .ok (.aload_n 0, 1) := by decide +kernel
theorem d_cX17_feed_60 : decode cX17_feed 60 = .ok (.getfield 383, 3) := by decide +kernel
theorem d_cX17_feed_63 : decode cX17_feed 63 = .ok (.bipush 12, 2) := by decide +kernel
theorem d_cX17_feed_65 : decode cX17_feed 65 = .ok (.iadd, 1) := by decide +kernel
theorem d_cX17_feed_66 : decode cX17_feed 66 = .ok (.invokevirtual 388, 3) := by decide +kernel
theorem d_cX17_feed_69 : decode cX17_feed 69 = .ok (.aload_n 0, 1) := by decide +kernel
theorem d_cX17_feed_70 : decode cX17_feed 70 = .ok (.iload 5, 2) := by decide +kernel
theorem d_cX17_feed_72 : decode cX17_feed 72 = .ok (.aload_n 0, 1) := by decide +kernel
theorem d_cX17_feed_73 : decode cX17_feed 73 = .ok (.getfield 383, 3) := by decide +kernel
theorem d_cX17_feed_76 : decode cX17_feed 76 = .ok (.bipush 16, 2) := by decide +kernel
theorem d_cX17_feed_78 : decode cX17_feed 78 = .ok (.iadd, 1) := by decide +kernel
theorem d_cX17_feed_79 : decode cX17_feed 79 = .ok (.invokevirtual 388, 3) := by decide +kernel
theorem d_cX17_feed_82 : decode cX17_feed 82 = .ok (.aload_n 0, 1) := by decide +kernel
theorem d_cX17_feed_83 : decode cX17_feed 83 = .ok (.dup, 1) := by decide +kernel
theorem d_cX17_feed_84 : decode cX17_feed 84 = .ok (.getfield 383, 3) := by decide +kernel
theorem d_cX17_feed_87 : decode cX17_feed 87 = .ok (.bipush 20, 2) := by decide +kernel
theorem d_cX17_feed_89 : decode cX17_feed 89 = .ok (.iadd, 1) := by decide +kernel
theorem d_cX17_feed_90 : decode cX17_feed 90 = .ok (.putfield 383, 3) := by decide +kernel
theorem d_cX17_feed_93 : decode cX17_feed 93 = .ok (.aload_n 0, 1) := by decide +kernel
theorem d_cX17_feed_94 : decode cX17_feed 94 = .ok (.getfield 383, 3) := by decide +kernel
