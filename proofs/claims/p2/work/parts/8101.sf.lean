theorem d_cX10_size_0 : decode cX10_size 0 = .ok (.aload_n 0, 1) := by decide +kernel
theorem d_cX10_size_1 : decode cX10_size 1 = .ok (.getfield 15, 3) := by decide +kernel
theorem w_1_60 : (Jvm.Cond.fieldLink "SpillForge$Tape" (15 : Nat) "SpillForge$Tape" "size" "I") ∈ gw := gw_1 60 rfl rfl
theorem d_cX10_size_4 : decode cX10_size 4 = .ok (.ireturn, 1) := by decide +kernel
theorem d_cX10_hasRoom_0 : decode cX10_hasRoom 0 = .ok (.aload_n 0, 1) := by decide +kernel
theorem d_cX10_hasRoom_1 : decode cX10_hasRoom 1 = .ok (.getfield 15, 3) := by decide +kernel
theorem d_cX10_hasRoom_4 : decode cX10_hasRoom 4 = .ok (.iload_n 1, 1) := by decide +kernel
theorem d_cX10_hasRoom_5 : decode cX10_hasRoom 5 = .ok (.iadd, 1) := by decide +kernel
theorem d_cX10_hasRoom_6 : decode cX10_hasRoom 6 = .ok (.aload_n 0, 1) := by decide +kernel
theorem d_cX10_hasRoom_7 : decode cX10_hasRoom 7 = .ok (.getfield 9, 3) := by decide +kernel
theorem w_1_59 : (Jvm.Cond.fieldLink "SpillForge$Tape" (9 : Nat) "SpillForge$Tape" "bytes" "[B") ∈ gw := gw_1 59 rfl rfl
theorem d_cX10_hasRoom_10 : decode cX10_hasRoom 10 = .ok (.arraylength, 1) := by decide +kernel
theorem d_cX10_hasRoom_11 : decode cX10_hasRoom 11 = .ok (.if_icmp .gt 7, 3) := by decide +kernel
theorem d_cX10_hasRoom_18 : decode cX10_hasRoom 18 = .ok (.iconst 0, 1) := by decide +kernel
theorem d_cX10_hasRoom_19 : decode cX10_hasRoom 19 = .ok (.ireturn, 1) := by decide +kernel
theorem d_cX10_hasRoom_14 : decode cX10_hasRoom 14 = .ok (.iconst 1, 1) := by decide +kernel
theorem d_cX10_hasRoom_15 : decode cX10_hasRoom 15 = .ok (.goto 4, 3) := by decide +kernel
theorem d_cX10_cutTo_0 : decode cX10_cutTo 0 = .ok (.aload_n 0, 1) := by decide +kernel
theorem d_cX10_cutTo_1 : decode cX10_cutTo 1 = .ok (.iconst 0, 1) := by decide +kernel
theorem d_cX10_cutTo_2 : decode cX10_cutTo 2 = .ok (.iload_n 1, 1) := by decide +kernel
theorem d_cX10_cutTo_3 : decode cX10_cutTo 3 = .ok (.aload_n 0, 1) := by decide +kernel
theorem d_cX10_cutTo_4 : decode cX10_cutTo 4 = .ok (.getfield 15, 3) := by decide +kernel
theorem d_cX10_cutTo_7 : decode cX10_cutTo 7 = .ok (.invokestatic 19, 3) := by decide +kernel
theorem w_3_226 : (Jvm.Cond.methodLink "SpillForge$Tape" (19 : Nat) ({ cls := "java/lang/Math", name := "min", desc := "(II)I" } : Jvm.MethodName)) ∈ gw := gw_3 226 rfl rfl
theorem w_3_227 : (Jvm.Cond.static ({ cls := "java/lang/Math", name := "min", desc := "(II)I" } : Jvm.MethodName)) ∈ gw := gw_3 227 rfl rfl
theorem w_1_6 : (Jvm.Cond.initialized "java/lang/Math") ∈ gw := gw_1 6 rfl rfl
theorem w_3_228 : (Jvm.Cond.code ({ cls := "java/lang/Math", name := "min", desc := "(II)I" } : Jvm.MethodName) prog_32_method_69_code (2 : Nat) (Option.some Jvm.ClassFile.FieldType.int)) ∈ gw := gw_3 228 rfl rfl
theorem d_cX10_cutTo_10 : decode cX10_cutTo 10 = .ok (.invokestatic 25, 3) := by decide +kernel
theorem w_3_229 : (Jvm.Cond.methodLink "SpillForge$Tape" (25 : Nat) ({ cls := "java/lang/Math", name := "max", desc := "(II)I" } : Jvm.MethodName)) ∈ gw := gw_3 229 rfl rfl
theorem w_1_140 : (Jvm.Cond.static ({ cls := "java/lang/Math", name := "max", desc := "(II)I" } : Jvm.MethodName)) ∈ gw := gw_1 140 rfl rfl
theorem w_1_141 : (Jvm.Cond.code ({ cls := "java/lang/Math", name := "max", desc := "(II)I" } : Jvm.MethodName) prog_32_method_65_code (2 : Nat) (Option.some Jvm.ClassFile.FieldType.int)) ∈ gw := gw_1 141 rfl rfl
theorem d_cX10_cutTo_13 : decode cX10_cutTo 13 = .ok (.putfield 15, 3) := by decide +kernel
theorem d_cX10_cutTo_16 : decode cX10_cutTo 16 = .ok (.return_, 1) := by decide +kernel
theorem d_cX10_byteAt_0 : decode cX10_byteAt 0 = .ok (.iload_n 1, 1) := by decide +kernel
theorem d_cX10_byteAt_1 : decode cX10_byteAt 1 = .ok (.ifCond .lt 24, 3) := by decide +kernel
theorem d_cX10_byteAt_25 : decode cX10_byteAt 25 = .ok (.iconst (-1), 1) := by decide +kernel
theorem d_cX10_byteAt_26 : decode cX10_byteAt 26 = .ok (.ireturn, 1) := by decide +kernel
theorem d_cX10_byteAt_4 : decode cX10_byteAt 4 = .ok (.iload_n 1, 1) := by decide +kernel
theorem d_cX10_byteAt_5 : decode cX10_byteAt 5 = .ok (.aload_n 0, 1) := by decide +kernel
theorem d_cX10_byteAt_6 : decode cX10_byteAt 6 = .ok (.getfield 15, 3) := by decide +kernel
theorem d_cX10_byteAt_9 : decode cX10_byteAt 9 = .ok (.if_icmp .ge 16, 3) := by decide +kernel
theorem d_cX10_byteAt_12 : decode cX10_byteAt 12 = .ok (.aload_n 0, 1) := by decide +kernel
theorem d_cX10_byteAt_13 : decode cX10_byteAt 13 = .ok (.getfield 9, 3) := by decide +kernel
theorem d_cX10_byteAt_16 : decode cX10_byteAt 16 = .ok (.iload_n 1, 1) := by decide +kernel
theorem d_cX10_byteAt_17 : decode cX10_byteAt 17 = .ok (.baload, 1) := by decide +kernel
theorem d_cX10_byteAt_18 : decode cX10_byteAt 18 = .ok (.sipush 255, 3) := by decide +kernel
theorem d_cX10_byteAt_21 : decode cX10_byteAt 21 = .ok (.iand, 1) := by decide +kernel
theorem d_cX10_byteAt_22 : decode cX10_byteAt 22 = .ok (.goto 4, 3) := by decide +kernel
theorem d_cX10_addInt_0 : decode cX10_addInt 0 = .ok (.bipush 24, 2) := by decide +kernel
theorem d_cX10_addInt_2 : decode cX10_addInt 2 = .ok (.istore_n 2, 1) := by decide +kernel
theorem d_cX10_addInt_3 : decode cX10_addInt 3 = .ok (.iload_n 2, 1) := by decide +kernel
theorem d_cX10_addInt_4 : decode cX10_addInt 4 = .ok (.ifCond .lt 44, 3) := by decide +kernel
theorem d_cX10_addInt_48 : decode cX10_addInt 48 = .ok (.return_, 1) := by decide +kernel
theorem d_cX10_addInt_7 : decode cX10_addInt 7 = .ok (.aload_n 0, 1) := by decide +kernel
theorem d_cX10_addInt_8 : decode cX10_addInt 8 = .ok (.getfield 15, 3) := by decide +kernel
theorem d_cX10_addInt_11 : decode cX10_addInt 11 = .ok (.aload_n 0, 1) := by decide +kernel
theorem d_cX10_addInt_12 : decode cX10_addInt 12 = .ok (.getfield 9, 3) := by decide +kernel
theorem d_cX10_addInt_15 : decode cX10_addInt 15 = .ok (.arraylength, 1) := by decide +kernel
theorem d_cX10_addInt_16 : decode cX10_addInt 16 = .ok (.if_icmp .ge 32, 3) := by decide +kernel
theorem d_cX10_addInt_19 : decode cX10_addInt 19 = .ok (.aload_n 0, 1) := by decide +kernel
theorem d_cX10_addInt_20 : decode cX10_addInt 20 = .ok (.getfield 9, 3) := by decide +kernel
theorem d_cX10_addInt_23 : decode cX10_addInt 23 = .ok (.aload_n 0, 1) := by decide +kernel
theorem d_cX10_addInt_24 : decode cX10_addInt 24 = .ok (.getfield 15, 3) := by decide +kernel
theorem d_cX10_addInt_27 : decode cX10_addInt 27 = .ok (.iload_n 1, 1) := by decide +kernel
theorem d_cX10_addInt_28 : decode cX10_addInt 28 = .ok (.iload_n 2, 1) := by decide +kernel
theorem d_cX10_addInt_29 : decode cX10_addInt 29 = .ok (.ishr, 1) := by decide +kernel
theorem d_cX10_addInt_30 : decode cX10_addInt 30 = .ok (.i2b, 1) := by decide +kernel
theorem d_cX10_addInt_31 : decode cX10_addInt 31 = .ok (.bastore, 1) := by decide +kernel
theorem d_cX10_addInt_32 : decode cX10_addInt 32 = .ok (.aload_n 0, 1) := by decide +kernel
theorem d_cX10_addInt_33 : decode cX10_addInt 33 = .ok (.dup, 1) := by decide +kernel
theorem d_cX10_addInt_34 : decode cX10_addInt 34 = .ok (.getfield 15, 3) := by decide +kernel
theorem d_cX10_addInt_37 : decode cX10_addInt 37 = .ok (.iconst 1, 1) := by decide +kernel
theorem d_cX10_addInt_38 : decode cX10_addInt 38 = .ok (.iadd, 1) := by decide +kernel
theorem d_cX10_addInt_39 : decode cX10_addInt 39 = .ok (.putfield 15, 3) := by decide +kernel
theorem d_cX10_addInt_42 : decode cX10_addInt 42 = .ok (.iinc 2 (-8), 3) := by decide +kernel
theorem d_cX10_addInt_45 : decode cX10_addInt 45 = .ok (.goto (-42), 3) := by decide +kernel
theorem d_cX10_intAt_0 : decode cX10_intAt 0 = .ok (.iconst 0, 1) := by decide +kernel
theorem d_cX10_intAt_1 : decode cX10_intAt 1 = .ok (.istore_n 2, 1) := by decide +kernel
theorem d_cX10_intAt_2 : decode cX10_intAt 2 = .ok (.iconst 0, 1) := by decide +kernel
theorem d_cX10_intAt_3 : decode cX10_intAt 3 = .ok (.istore_n 3, 1) := by decide +kernel
theorem d_cX10_intAt_4 : decode cX10_intAt 4 = .ok (.iload_n 3, 1) := by decide +kernel
theorem d_cX10_intAt_5 : decode cX10_intAt 5 = .ok (.iconst 4, 1) := by decide +kernel
theorem d_cX10_intAt_6 : decode cX10_intAt 6 = .ok (.if_icmp .ge 26, 3) := by decide +kernel
theorem d_cX10_intAt_32 : decode cX10_intAt 32 = .ok (.iload_n 2, 1) := by decide +kernel
theorem d_cX10_intAt_33 : decode cX10_intAt 33 = .ok (.ireturn, 1) := by decide +kernel
theorem d_cX10_intAt_9 : decode cX10_intAt 9 = .ok (.iload_n 2, 1) := by decide +kernel
theorem d_cX10_intAt_10 : decode cX10_intAt 10 = .ok (.bipush 8, 2) := by decide +kernel
theorem d_cX10_intAt_12 : decode cX10_intAt 12 = .ok (.ishl, 1) := by decide +kernel
theorem d_cX10_intAt_13 : decode cX10_intAt 13 = .ok (.aload_n 0, 1) := by decide +kernel
theorem d_cX10_intAt_14 : decode cX10_intAt 14 = .ok (.iload_n 1, 1) := by decide +kernel
theorem d_cX10_intAt_15 : decode cX10_intAt 15 = .ok (.iload_n 3, 1) := by decide +kernel
theorem d_cX10_intAt_16 : decode cX10_intAt 16 = .ok (.iadd, 1) := by decide +kernel
theorem d_cX10_intAt_17 : decode cX10_intAt 17 = .ok (.invokevirtual 28, 3) := by decide +kernel
theorem w_4_182 : (Jvm.Cond.methodLink "SpillForge$Tape" (28 : Nat) ({ cls := "SpillForge$Tape", name := "byteAt", desc := "(I)I" } : Jvm.MethodName)) ∈ gw := gw_4 182 rfl rfl
theorem w_1_2 : (Jvm.Cond.initialized "SpillForge$Tape") ∈ gw := gw_1 2 rfl rfl
theorem w_3_23 : (Jvm.Cond.code ({ cls := "SpillForge$Tape", name := "byteAt", desc := "(I)I" } : Jvm.MethodName) prog_12_method_6_code (2 : Nat) (Option.some Jvm.ClassFile.FieldType.int)) ∈ gw := gw_3 23 rfl rfl
theorem w_3_21 : (Jvm.Cond.instanceMethod ({ cls := "SpillForge$Tape", name := "byteAt", desc := "(I)I" } : Jvm.MethodName)) ∈ gw := gw_3 21 rfl rfl
theorem w_3_22 : (Jvm.Cond.selects "SpillForge$Tape" ({ cls := "SpillForge$Tape", name := "byteAt", desc := "(I)I" } : Jvm.MethodName) ({ cls := "SpillForge$Tape", name := "byteAt", desc := "(I)I" } : Jvm.MethodName)) ∈ gw := gw_3 22 rfl rfl
theorem d_cX10_intAt_20 : decode cX10_intAt 20 = .ok (.sipush 255, 3) := by decide +kernel
theorem d_cX10_intAt_23 : decode cX10_intAt 23 = .ok (.iand, 1) := by decide +kernel
theorem d_cX10_intAt_24 : decode cX10_intAt 24 = .ok (.ior, 1) := by decide +kernel
theorem d_cX10_intAt_25 : decode cX10_intAt 25 = .ok (.istore_n 2, 1) := by decide +kernel
theorem d_cX10_intAt_26 : decode cX10_intAt 26 = .ok (.iinc 3 1, 3) := by decide +kernel
theorem d_cX10_intAt_29 : decode cX10_intAt 29 = .ok (.goto (-25), 3) := by decide +kernel
theorem d_cX9_kind_0 : decode cX9_kind 0 = .ok (.aload_n 0, 1) := by decide +kernel
theorem d_cX9_kind_1 : decode cX9_kind 1 = .ok (.getfield 15, 3) := by decide +kernel
theorem w_1_80 : (Jvm.Cond.fieldLink "SpillForge$Signs" (15 : Nat) "SpillForge$Signs" "kind" "I") ∈ gw := gw_1 80 rfl rfl
theorem d_cX9_kind_4 : decode cX9_kind 4 = .ok (.ireturn, 1) := by decide +kernel
theorem d_cX9_value_0 : decode cX9_value 0 = .ok (.aload_n 0, 1) := by decide +kernel
theorem d_cX9_value_1 : decode cX9_value 1 = .ok (.getfield 19, 3) := by decide +kernel
theorem w_1_81 : (Jvm.Cond.fieldLink "SpillForge$Signs" (19 : Nat) "SpillForge$Signs" "value" "I") ∈ gw := gw_1 81 rfl rfl
theorem d_cX9_value_4 : decode cX9_value 4 = .ok (.ireturn, 1) := by decide +kernel
theorem d_cX9_place_0 : decode cX9_place 0 = .ok (.aload_n 0, 1) := by decide +kernel
theorem d_cX9_place_1 : decode cX9_place 1 = .ok (.getfield 22, 3) := by decide +kernel
theorem w_1_82 : (Jvm.Cond.fieldLink "SpillForge$Signs" (22 : Nat) "SpillForge$Signs" "place" "I") ∈ gw := gw_1 82 rfl rfl
theorem d_cX9_place_4 : decode cX9_place 4 = .ok (.ireturn, 1) := by decide +kernel
theorem d_cX9_isDigit_0 : decode cX9_isDigit 0 = .ok (.iload_n 0, 1) := by decide +kernel
theorem d_cX9_isDigit_1 : decode cX9_isDigit 1 = .ok (.bipush 48, 2) := by decide +kernel
theorem d_cX9_isDigit_3 : decode cX9_isDigit 3 = .ok (.if_icmp .lt 13, 3) := by decide +kernel
theorem d_cX9_isDigit_16 : decode cX9_isDigit 16 = .ok (.iconst 0, 1) := by decide +kernel
theorem d_cX9_isDigit_17 : decode cX9_isDigit 17 = .ok (.ireturn, 1) := by decide +kernel
theorem d_cX9_isDigit_6 : decode cX9_isDigit 6 = .ok (.iload_n 0, 1) := by decide +kernel
theorem d_cX9_isDigit_7 : decode cX9_isDigit 7 = .ok (.bipush 57, 2) := by decide +kernel
theorem d_cX9_isDigit_9 : decode cX9_isDigit 9 = .ok (.if_icmp .gt 7, 3) := by decide +kernel
theorem d_cX9_isDigit_12 : decode cX9_isDigit 12 = .ok (.iconst 1, 1) := by decide +kernel
theorem d_cX9_isDigit_13 : decode cX9_isDigit 13 = .ok (.goto 4, 3) := by decide +kernel
theorem d_cX9_isLetter_0 : decode cX9_isLetter 0 = .ok (.iload_n 0, 1) := by decide +kernel
theorem d_cX9_isLetter_1 : decode cX9_isLetter 1 = .ok (.bipush 97, 2) := by decide +kernel
theorem d_cX9_isLetter_3 : decode cX9_isLetter 3 = .ok (.if_icmp .lt 13, 3) := by decide +kernel
theorem d_cX9_isLetter_16 : decode cX9_isLetter 16 = .ok (.iconst 0, 1) := by decide +kernel
theorem d_cX9_isLetter_17 : decode cX9_isLetter 17 = .ok (.ireturn, 1) := by decide +kernel
theorem d_cX9_isLetter_6 : decode cX9_isLetter 6 = .ok (.iload_n 0, 1) := by decide +kernel
theorem d_cX9_isLetter_7 : decode cX9_isLetter 7 = .ok (.bipush 122, 2) := by decide +kernel
theorem d_cX9_isLetter_9 : decode cX9_isLetter 9 = .ok (.if_icmp .gt 7, 3) := by decide +kernel
theorem d_cX9_isLetter_12 : decode cX9_isLetter 12 = .ok (.iconst 1, 1) := by decide +kernel
theorem d_cX9_isLetter_13 : decode cX9_isLetter 13 = .ok (.goto 4, 3) := by decide +kernel
theorem d_cX9_skipBlanks_0 : decode cX9_skipBlanks 0 = .ok (.iconst 0, 1) := by decide +kernel
theorem d_cX9_skipBlanks_1 : decode cX9_skipBlanks 1 = .ok (.istore_n 2, 1) := by decide +kernel
theorem d_cX9_skipBlanks_2 : decode cX9_skipBlanks 2 = .ok (.iload_n 1, 1) := by decide +kernel
theorem d_cX9_skipBlanks_3 : decode cX9_skipBlanks 3 = .ok (.istore_n 3, 1) := by decide +kernel
theorem d_cX9_skipBlanks_4 : decode cX9_skipBlanks 4 = .ok (.iload_n 3, 1) := by decide +kernel
theorem d_cX9_skipBlanks_5 : decode cX9_skipBlanks 5 = .ok (.aload_n 0, 1) := by decide +kernel
theorem d_cX9_skipBlanks_6 : decode cX9_skipBlanks 6 = .ok (.getfield 9, 3) := by decide +kernel
theorem w_1_79 : (Jvm.Cond.fieldLink "SpillForge$Signs" (9 : Nat) "SpillForge$Signs" "tape" "LSpillForge$Tape;") ∈ gw := gw_1 79 rfl rfl
theorem d_cX9_skipBlanks_9 : decode cX9_skipBlanks 9 = .ok (.invokevirtual 61, 3) := by decide +kernel
theorem w_3_16 : (Jvm.Cond.methodLink "SpillForge$Signs" (61 : Nat) ({ cls := "SpillForge$Tape", name := "size", desc := "()I" } : Jvm.MethodName)) ∈ gw := gw_3 16 rfl rfl
theorem w_3_19 : (Jvm.Cond.code ({ cls := "SpillForge$Tape", name := "size", desc := "()I" } : Jvm.MethodName) prog_12_method_2_code (1 : Nat) (Option.some Jvm.ClassFile.FieldType.int)) ∈ gw := gw_3 19 rfl rfl
theorem w_3_17 : (Jvm.Cond.instanceMethod ({ cls := "SpillForge$Tape", name := "size", desc := "()I" } : Jvm.MethodName)) ∈ gw := gw_3 17 rfl rfl
theorem w_3_18 : (Jvm.Cond.selects "SpillForge$Tape" ({ cls := "SpillForge$Tape", name := "size", desc := "()I" } : Jvm.MethodName) ({ cls := "SpillForge$Tape", name := "size", desc := "()I" } : Jvm.MethodName)) ∈ gw := gw_3 18 rfl rfl
theorem d_cX9_skipBlanks_12 : decode cX9_skipBlanks 12 = .ok (.if_icmp .ge 77, 3) := by decide +kernel
theorem d_cX9_skipBlanks_89 : decode cX9_skipBlanks 89 = .ok (.aload_n 0, 1) := by decide +kernel
theorem d_cX9_skipBlanks_90 : decode cX9_skipBlanks 90 = .ok (.getfield 9, 3) := by decide +kernel
theorem d_cX9_skipBlanks_93 : decode cX9_skipBlanks 93 = .ok (.invokevirtual 61, 3) := by decide +kernel
theorem d_cX9_skipBlanks_96 : decode cX9_skipBlanks 96 = .ok (.ireturn, 1) := by decide +kernel
theorem d_cX9_skipBlanks_15 : decode cX9_skipBlanks 15 = .ok (.aload_n 0, 1) := by decide +kernel
theorem d_cX9_skipBlanks_16 : decode cX9_skipBlanks 16 = .ok (.getfield 9, 3) := by decide +kernel
theorem d_cX9_skipBlanks_19 : decode cX9_skipBlanks 19 = .ok (.iload_n 3, 1) := by decide +kernel
theorem d_cX9_skipBlanks_20 : decode cX9_skipBlanks 20 = .ok (.invokevirtual 35, 3) := by decide +kernel
theorem w_3_20 : (Jvm.Cond.methodLink "SpillForge$Signs" (35 : Nat) ({ cls := "SpillForge$Tape", name := "byteAt", desc := "(I)I" } : Jvm.MethodName)) ∈ gw := gw_3 20 rfl rfl
theorem d_cX9_skipBlanks_23 : decode cX9_skipBlanks 23 = .ok (.istore 4, 2) := by decide +kernel
theorem d_cX9_skipBlanks_25 : decode cX9_skipBlanks 25 = .ok (.iload 4, 2) := by decide +kernel
theorem d_cX9_skipBlanks_27 : decode cX9_skipBlanks 27 = .ok (.bipush 10, 2) := by decide +kernel
theorem d_cX9_skipBlanks_29 : decode cX9_skipBlanks 29 = .ok (.if_icmp .eq 18, 3) := by decide +kernel
theorem d_cX9_skipBlanks_32 : decode cX9_skipBlanks 32 = .ok (.iload_n 2, 1) := by decide +kernel
theorem d_cX9_skipBlanks_33 : decode cX9_skipBlanks 33 = .ok (.ifCond .ne 10, 3) := by decide +kernel
theorem d_cX9_skipBlanks_43 : decode cX9_skipBlanks 43 = .ok (.iconst 1, 1) := by decide +kernel
theorem d_cX9_skipBlanks_44 : decode cX9_skipBlanks 44 = .ok (.goto 4, 3) := by decide +kernel
theorem d_cX9_skipBlanks_48 : decode cX9_skipBlanks 48 = .ok (.istore_n 2, 1) := by decide +kernel
theorem d_cX9_skipBlanks_49 : decode cX9_skipBlanks 49 = .ok (.iload_n 2, 1) := by decide +kernel
theorem d_cX9_skipBlanks_50 : decode cX9_skipBlanks 50 = .ok (.ifCond .ne 33, 3) := by decide +kernel
theorem d_cX9_skipBlanks_83 : decode cX9_skipBlanks 83 = .ok (.iinc 3 1, 3) := by decide +kernel
theorem d_cX9_skipBlanks_86 : decode cX9_skipBlanks 86 = .ok (.goto (-82), 3) := by decide +kernel
theorem d_cX9_skipBlanks_36 : decode cX9_skipBlanks 36 = .ok (.iload 4, 2) := by decide +kernel
theorem d_cX9_skipBlanks_38 : decode cX9_skipBlanks 38 = .ok (.bipush 59, 2) := by decide +kernel
theorem d_cX9_skipBlanks_40 : decode cX9_skipBlanks 40 = .ok (.if_icmp .ne 7, 3) := by decide +kernel
theorem d_cX9_skipBlanks_47 : decode cX9_skipBlanks 47 = .ok (.iconst 0, 1) := by decide +kernel
theorem d_cX9_skipBlanks_53 : decode cX9_skipBlanks 53 = .ok (.iload 4, 2) := by decide +kernel
theorem d_cX9_skipBlanks_55 : decode cX9_skipBlanks 55 = .ok (.bipush 9, 2) := by decide +kernel
theorem d_cX9_skipBlanks_57 : decode cX9_skipBlanks 57 = .ok (.if_icmp .eq 26, 3) := by decide +kernel
theorem d_cX9_skipBlanks_60 : decode cX9_skipBlanks 60 = .ok (.iload 4, 2) := by decide +kernel
theorem d_cX9_skipBlanks_62 : decode cX9_skipBlanks 62 = .ok (.bipush 10, 2) := by decide +kernel
theorem d_cX9_skipBlanks_64 : decode cX9_skipBlanks 64 = .ok (.if_icmp .eq 19, 3) := by decide +kernel
theorem d_cX9_skipBlanks_67 : decode cX9_skipBlanks 67 = .ok (.iload 4, 2) := by decide +kernel
theorem d_cX9_skipBlanks_69 : decode cX9_skipBlanks 69 = .ok (.bipush 13, 2) := by decide +kernel
theorem d_cX9_skipBlanks_71 : decode cX9_skipBlanks 71 = .ok (.if_icmp .eq 12, 3) := by decide +kernel
theorem d_cX9_skipBlanks_74 : decode cX9_skipBlanks 74 = .ok (.iload 4, 2) := by decide +kernel
theorem d_cX9_skipBlanks_76 : decode cX9_skipBlanks 76 = .ok (.bipush 32, 2) := by decide +kernel
theorem d_cX9_skipBlanks_78 : decode cX9_skipBlanks 78 = .ok (.if_icmp .eq 5, 3) := by decide +kernel
theorem d_cX9_skipBlanks_81 : decode cX9_skipBlanks 81 = .ok (.iload_n 3, 1) := by decide +kernel
theorem d_cX9_skipBlanks_82 : decode cX9_skipBlanks 82 = .ok (.ireturn, 1) := by decide +kernel
theorem d_cJ9_min_f86c9_0 : decode cJ9_min_f86c9 0 = .ok (.lload_n 0, 1) := by decide +kernel
theorem d_cJ9_min_f86c9_1 : decode cJ9_min_f86c9 1 = .ok (.lload_n 2, 1) := by decide +kernel
theorem d_cJ9_min_f86c9_2 : decode cJ9_min_f86c9 2 = .ok (.lcmp, 1) := by decide +kernel
theorem d_cJ9_min_f86c9_3 : decode cJ9_min_f86c9 3 = .ok (.ifCond .gt 7, 3) := by decide +kernel
theorem d_cJ9_min_f86c9_10 : decode cJ9_min_f86c9 10 = .ok (.lload_n 2, 1) := by decide +kernel
theorem d_cJ9_min_f86c9_11 : decode cJ9_min_f86c9 11 = .ok (.lreturn, 1) := by decide +kernel
theorem d_cJ9_min_f86c9_6 : decode cJ9_min_f86c9 6 = .ok (.lload_n 0, 1) := by decide +kernel
theorem d_cJ9_min_f86c9_7 : decode cJ9_min_f86c9 7 = .ok (.goto 4, 3) := by decide +kernel
theorem d_cX9_takeDigits_0 : decode cX9_takeDigits 0 = .ok (.lconst 0, 1) := by decide +kernel
theorem d_cX9_takeDigits_1 : decode cX9_takeDigits 1 = .ok (.lstore_n 2, 1) := by decide +kernel
theorem d_cX9_takeDigits_2 : decode cX9_takeDigits 2 = .ok (.iload_n 1, 1) := by decide +kernel
theorem d_cX9_takeDigits_3 : decode cX9_takeDigits 3 = .ok (.istore 4, 2) := by decide +kernel
theorem d_cX9_takeDigits_5 : decode cX9_takeDigits 5 = .ok (.iload 4, 2) := by decide +kernel
theorem d_cX9_takeDigits_7 : decode cX9_takeDigits 7 = .ok (.aload_n 0, 1) := by decide +kernel
theorem d_cX9_takeDigits_8 : decode cX9_takeDigits 8 = .ok (.getfield 9, 3) := by decide +kernel
theorem d_cX9_takeDigits_11 : decode cX9_takeDigits 11 = .ok (.invokevirtual 61, 3) := by decide +kernel
theorem d_cX9_takeDigits_14 : decode cX9_takeDigits 14 = .ok (.if_icmp .ge 51, 3) := by decide +kernel
theorem d_cX9_takeDigits_65 : decode cX9_takeDigits 65 = .ok (.aload_n 0, 1) := by decide +kernel
theorem d_cX9_takeDigits_66 : decode cX9_takeDigits 66 = .ok (.iload 4, 2) := by decide +kernel
theorem d_cX9_takeDigits_68 : decode cX9_takeDigits 68 = .ok (.putfield 25, 3) := by decide +kernel
theorem w_1_83 : (Jvm.Cond.fieldLink "SpillForge$Signs" (25 : Nat) "SpillForge$Signs" "behind" "I") ∈ gw := gw_1 83 rfl rfl
theorem d_cX9_takeDigits_71 : decode cX9_takeDigits 71 = .ok (.lload_n 2, 1) := by decide +kernel
theorem d_cX9_takeDigits_72 : decode cX9_takeDigits 72 = .ok (.lreturn, 1) := by decide +kernel
theorem d_cX9_takeDigits_17 : decode cX9_takeDigits 17 = .ok (.aload_n 0, 1) := by decide +kernel
theorem d_cX9_takeDigits_18 : decode cX9_takeDigits 18 = .ok (.getfield 9, 3) := by decide +kernel
theorem d_cX9_takeDigits_21 : decode cX9_takeDigits 21 = .ok (.iload 4, 2) := by decide +kernel
theorem d_cX9_takeDigits_23 : decode cX9_takeDigits 23 = .ok (.invokevirtual 35, 3) := by decide +kernel
theorem d_cX9_takeDigits_26 : decode cX9_takeDigits 26 = .ok (.invokestatic 40, 3) := by decide +kernel
theorem w_3_24 : (Jvm.Cond.methodLink "SpillForge$Signs" (40 : Nat) ({ cls := "SpillForge$Signs", name := "isDigit", desc := "(I)Z" } : Jvm.MethodName)) ∈ gw := gw_3 24 rfl rfl
theorem w_1_4 : (Jvm.Cond.initialized "SpillForge$Signs") ∈ gw := gw_1 4 rfl rfl
theorem w_3_26 : (Jvm.Cond.code ({ cls := "SpillForge$Signs", name := "isDigit", desc := "(I)Z" } : Jvm.MethodName) prog_11_method_15_code (1 : Nat) (Option.some Jvm.ClassFile.FieldType.boolean)) ∈ gw := gw_3 26 rfl rfl
theorem w_3_25 : (Jvm.Cond.static ({ cls := "SpillForge$Signs", name := "isDigit", desc := "(I)Z" } : Jvm.MethodName)) ∈ gw := gw_3 25 rfl rfl
theorem d_cX9_takeDigits_29 : decode cX9_takeDigits 29 = .ok (.ifCond .eq 36, 3) := by decide +kernel
theorem d_cX9_takeDigits_32 : decode cX9_takeDigits 32 = .ok (.lload_n 2, 1) := by decide +kernel
theorem d_cX9_takeDigits_33 : decode cX9_takeDigits 33 = .ok (.ldc2_w 69, 3) := by decide +kernel
theorem w_3_35 : (Jvm.Cond.constantLong "SpillForge$Signs" (69 : Nat) (10 : Int64)) ∈ gw := gw_3 35 rfl rfl
theorem d_cX9_takeDigits_36 : decode cX9_takeDigits 36 = .ok (.lmul, 1) := by decide +kernel
theorem d_cX9_takeDigits_37 : decode cX9_takeDigits 37 = .ok (.aload_n 0, 1) := by decide +kernel
theorem d_cX9_takeDigits_38 : decode cX9_takeDigits 38 = .ok (.getfield 9, 3) := by decide +kernel
theorem d_cX9_takeDigits_41 : decode cX9_takeDigits 41 = .ok (.iload 4, 2) := by decide +kernel
theorem d_cX9_takeDigits_43 : decode cX9_takeDigits 43 = .ok (.invokevirtual 35, 3) := by decide +kernel
theorem d_cX9_takeDigits_46 : decode cX9_takeDigits 46 = .ok (.i2l, 1) := by decide +kernel
theorem d_cX9_takeDigits_47 : decode cX9_takeDigits 47 = .ok (.ladd, 1) := by decide +kernel
theorem d_cX9_takeDigits_48 : decode cX9_takeDigits 48 = .ok (.ldc2_w 71, 3) := by decide +kernel
theorem w_3_36 : (Jvm.Cond.constantLong "SpillForge$Signs" (71 : Nat) (48 : Int64)) ∈ gw := gw_3 36 rfl rfl
theorem d_cX9_takeDigits_51 : decode cX9_takeDigits 51 = .ok (.lsub, 1) := by decide +kernel
theorem d_cX9_takeDigits_52 : decode cX9_takeDigits 52 = .ok (.ldc2_w 73, 3) := by decide +kernel
theorem w_3_37 : (Jvm.Cond.constantLong "SpillForge$Signs" (73 : Nat) (1099511627776 : Int64)) ∈ gw := gw_3 37 rfl rfl
theorem d_cX9_takeDigits_55 : decode cX9_takeDigits 55 = .ok (.invokestatic 75, 3) := by decide +kernel
theorem w_3_38 : (Jvm.Cond.methodLink "SpillForge$Signs" (75 : Nat) ({ cls := "java/lang/Math", name := "min", desc := "(JJ)J" } : Jvm.MethodName)) ∈ gw := gw_3 38 rfl rfl
theorem w_3_40 : (Jvm.Cond.code ({ cls := "java/lang/Math", name := "min", desc := "(JJ)J" } : Jvm.MethodName) prog_32_method_70_code (4 : Nat) (Option.some Jvm.ClassFile.FieldType.long)) ∈ gw := gw_3 40 rfl rfl
theorem w_3_39 : (Jvm.Cond.static ({ cls := "java/lang/Math", name := "min", desc := "(JJ)J" } : Jvm.MethodName)) ∈ gw := gw_3 39 rfl rfl
theorem d_cX9_takeDigits_58 : decode cX9_takeDigits 58 = .ok (.lstore_n 2, 1) := by decide +kernel
theorem d_cX9_takeDigits_59 : decode cX9_takeDigits 59 = .ok (.iinc 4 1, 3) := by decide +kernel
theorem d_cX9_takeDigits_62 : decode cX9_takeDigits 62 = .ok (.goto (-57), 3) := by decide +kernel
theorem d_cX9_takeNumber_0 : decode cX9_takeNumber 0 = .ok (.aload_n 0, 1) := by decide +kernel
theorem d_cX9_takeNumber_1 : decode cX9_takeNumber 1 = .ok (.iload_n 1, 1) := by decide +kernel
theorem d_cX9_takeNumber_2 : decode cX9_takeNumber 2 = .ok (.ifCond .eq 12, 3) := by decide +kernel
theorem d_cX9_takeNumber_14 : decode cX9_takeNumber 14 = .ok (.aload_n 0, 1) := by decide +kernel
theorem d_cX9_takeNumber_15 : decode cX9_takeNumber 15 = .ok (.getfield 22, 3) := by decide +kernel
theorem d_cX9_takeNumber_18 : decode cX9_takeNumber 18 = .ok (.invokevirtual 65, 3) := by decide +kernel
theorem w_3_31 : (Jvm.Cond.methodLink "SpillForge$Signs" (65 : Nat) ({ cls := "SpillForge$Signs", name := "takeDigits", desc := "(I)J" } : Jvm.MethodName)) ∈ gw := gw_3 31 rfl rfl
theorem w_3_34 : (Jvm.Cond.code ({ cls := "SpillForge$Signs", name := "takeDigits", desc := "(I)J" } : Jvm.MethodName) prog_11_method_10_code (5 : Nat) (Option.some Jvm.ClassFile.FieldType.long)) ∈ gw := gw_3 34 rfl rfl
theorem w_3_33 : (Jvm.Cond.instanceMethod ({ cls := "SpillForge$Signs", name := "takeDigits", desc := "(I)J" } : Jvm.MethodName)) ∈ gw := gw_3 33 rfl rfl
theorem w_p_2 : Cond.selects "SpillForge$Signs" ⟨"SpillForge$Signs", "takeDigits", "(I)J"⟩ ⟨"SpillForge$Signs", "takeDigits", "(I)J"⟩ ∈ gw := gw_p _ 2 rfl rfl rfl
theorem d_cX9_takeNumber_21 : decode cX9_takeNumber 21 = .ok (.lstore_n 2, 1) := by decide +kernel
theorem d_cX9_takeNumber_22 : decode cX9_takeNumber 22 = .ok (.iload_n 1, 1) := by decide +kernel
theorem d_cX9_takeNumber_23 : decode cX9_takeNumber 23 = .ok (.ifCond .eq 8, 3) := by decide +kernel
theorem d_cX9_takeNumber_31 : decode cX9_takeNumber 31 = .ok (.lload_n 2, 1) := by decide +kernel
theorem d_cX9_takeNumber_32 : decode cX9_takeNumber 32 = .ok (.lstore 4, 2) := by decide +kernel
theorem d_cX9_takeNumber_34 : decode cX9_takeNumber 34 = .ok (.aload_n 0, 1) := by decide +kernel
theorem d_cX9_takeNumber_35 : decode cX9_takeNumber 35 = .ok (.lload 4, 2) := by decide +kernel
theorem d_cX9_takeNumber_37 : decode cX9_takeNumber 37 = .ok (.l2i, 1) := by decide +kernel
theorem d_cX9_takeNumber_38 : decode cX9_takeNumber 38 = .ok (.putfield 19, 3) := by decide +kernel
theorem d_cX9_takeNumber_41 : decode cX9_takeNumber 41 = .ok (.aload_n 0, 1) := by decide +kernel
theorem d_cX9_takeNumber_42 : decode cX9_takeNumber 42 = .ok (.aload_n 0, 1) := by decide +kernel
theorem d_cX9_takeNumber_43 : decode cX9_takeNumber 43 = .ok (.getfield 19, 3) := by decide +kernel
theorem d_cX9_takeNumber_46 : decode cX9_takeNumber 46 = .ok (.i2l, 1) := by decide +kernel
theorem d_cX9_takeNumber_47 : decode cX9_takeNumber 47 = .ok (.lload 4, 2) := by decide +kernel
theorem d_cX9_takeNumber_49 : decode cX9_takeNumber 49 = .ok (.lcmp, 1) := by decide +kernel
theorem d_cX9_takeNumber_50 : decode cX9_takeNumber 50 = .ok (.ifCond .ne 7, 3) := by decide +kernel
theorem d_cX9_takeNumber_57 : decode cX9_takeNumber 57 = .ok (.iconst 0, 1) := by decide +kernel
theorem d_cX9_takeNumber_58 : decode cX9_takeNumber 58 = .ok (.putfield 15, 3) := by decide +kernel
theorem d_cX9_takeNumber_61 : decode cX9_takeNumber 61 = .ok (.return_, 1) := by decide +kernel
theorem d_cX9_takeNumber_53 : decode cX9_takeNumber 53 = .ok (.iconst 4, 1) := by decide +kernel
theorem d_cX9_takeNumber_54 : decode cX9_takeNumber 54 = .ok (.goto 4, 3) := by decide +kernel
theorem d_cX9_takeNumber_5 : decode cX9_takeNumber 5 = .ok (.aload_n 0, 1) := by decide +kernel
theorem d_cX9_takeNumber_6 : decode cX9_takeNumber 6 = .ok (.getfield 22, 3) := by decide +kernel
theorem d_cX9_takeNumber_9 : decode cX9_takeNumber 9 = .ok (.iconst 1, 1) := by decide +kernel
theorem d_cX9_takeNumber_10 : decode cX9_takeNumber 10 = .ok (.iadd, 1) := by decide +kernel
theorem d_cX9_takeNumber_11 : decode cX9_takeNumber 11 = .ok (.goto 7, 3) := by decide +kernel
theorem d_cX9_takeNumber_26 : decode cX9_takeNumber 26 = .ok (.lload_n 2, 1) := by decide +kernel
theorem d_cX9_takeNumber_27 : decode cX9_takeNumber 27 = .ok (.lneg, 1) := by decide +kernel
theorem d_cX9_takeNumber_28 : decode cX9_takeNumber 28 = .ok (.goto 4, 3) := by decide +kernel
theorem d_cX9_takeNamed_0 : decode cX9_takeNamed 0 = .ok (.aload_n 0, 1) := by decide +kernel
theorem d_cX9_takeNamed_1 : decode cX9_takeNamed 1 = .ok (.aload_n 0, 1) := by decide +kernel
theorem d_cX9_takeNamed_2 : decode cX9_takeNamed 2 = .ok (.getfield 22, 3) := by decide +kernel
theorem d_cX9_takeNamed_5 : decode cX9_takeNamed 5 = .ok (.iconst 1, 1) := by decide +kernel
theorem d_cX9_takeNamed_6 : decode cX9_takeNamed 6 = .ok (.iadd, 1) := by decide +kernel
theorem d_cX9_takeNamed_7 : decode cX9_takeNamed 7 = .ok (.invokevirtual 65, 3) := by decide +kernel
theorem d_cX9_takeNamed_10 : decode cX9_takeNamed 10 = .ok (.lstore_n 3, 1) := by decide +kernel
theorem d_cX9_takeNamed_11 : decode cX9_takeNamed 11 = .ok (.aload_n 0, 1) := by decide +kernel
theorem d_cX9_takeNamed_12 : decode cX9_takeNamed 12 = .ok (.lload_n 3, 1) := by decide +kernel
theorem d_cX9_takeNamed_13 : decode cX9_takeNamed 13 = .ok (.l2i, 1) := by decide +kernel
theorem d_cX9_takeNamed_14 : decode cX9_takeNamed 14 = .ok (.putfield 19, 3) := by decide +kernel
theorem d_cX9_takeNamed_17 : decode cX9_takeNamed 17 = .ok (.aload_n 0, 1) := by decide +kernel
theorem d_cX9_takeNamed_18 : decode cX9_takeNamed 18 = .ok (.lload_n 3, 1) := by decide +kernel
theorem d_cX9_takeNamed_19 : decode cX9_takeNamed 19 = .ok (.iload_n 2, 1) := by decide +kernel
theorem d_cX9_takeNamed_20 : decode cX9_takeNamed 20 = .ok (.i2l, 1) := by decide +kernel
theorem d_cX9_takeNamed_21 : decode cX9_takeNamed 21 = .ok (.lcmp, 1) := by decide +kernel
theorem d_cX9_takeNamed_22 : decode cX9_takeNamed 22 = .ok (.ifCond .ge 7, 3) := by decide +kernel
theorem d_cX9_takeNamed_29 : decode cX9_takeNamed 29 = .ok (.iconst 0, 1) := by decide +kernel
theorem d_cX9_takeNamed_30 : decode cX9_takeNamed 30 = .ok (.putfield 15, 3) := by decide +kernel
theorem d_cX9_takeNamed_33 : decode cX9_takeNamed 33 = .ok (.return_, 1) := by decide +kernel
theorem d_cX9_takeNamed_25 : decode cX9_takeNamed 25 = .ok (.iload_n 1, 1) := by decide +kernel
theorem d_cX9_takeNamed_26 : decode cX9_takeNamed 26 = .ok (.goto 4, 3) := by decide +kernel
abbrev ky_5_Tape_size : gKey := (cX10_size, 1, yX10_size.cls, (some FieldType.int), [], yX10_size.name, fun _ _ => True)
abbrev po_5_Tape_size (I : FieldType → ClassId) (q1 : Nat) (q2 : Nat) (p3 : Int32) (f4 : Nat → Int32) : Option Value → va_W → Prop := fun r w => r = some (.int p3) ∧ w = [(q1, .inr (15, [.ref q2, .int p3])), (q2, .inl (I .byte, 8192, .inl f4))]
set_option maxRecDepth 100000 in
set_option maxHeartbeats 4000000 in
theorem ct_5_Tape_size (l : Launch) (hl0 : l.stackTraces = false) (D : va_G) (I : FieldType → ClassId) (q1 : Nat) (q2 : Nat) (p3 : Int32) (f4 : Nat → Int32) (bp3 : gB p3 0 8192) (bf4 : gF f4 (-128) 127) : Ct (gV D I) l yX10_size cX10_size 1 (some FieldType.int) 0 0 0 0 [.ref q1] [(q1, .inr (15, [.ref q2, .int p3])), (q2, .inl (I .byte, 8192, .inl f4))] (po_5_Tape_size I q1 q2 p3 f4) gN := by
  refine Ct_of hl0 (by decide) (Nat.le_of_ble_eq_true rfl) ?_
  refine G_aload_n 0 d_cX10_size_0 rfl ?_
  refine G_getf 0 1 d_cX10_size_1 rfl (gk_X10 D I) (Nat.le_of_ble_eq_true rfl) w_1_60 rfl ?_
  exact G_iret d_cX10_size_4 rfl (Nat.le_of_ble_eq_true rfl) (Nat.le_of_ble_eq_true rfl) ⟨rfl, rfl⟩
abbrev ky_11_Tape_hasRoom : gKey := (cX10_hasRoom, 2, yX10_hasRoom.cls, (some FieldType.boolean), [], yX10_hasRoom.name, fun _ _ => True)
abbrev po_11_Tape_hasRoom (I : FieldType → ClassId) (q6 : Nat) (q7 : Nat) (p8 : Int32) (p9 : Int32) (f10 : Nat → Int32) : Option Value → va_W → Prop := fun r w => (∃ (z12 : Int32), r = some (.int 0) ∧ w = [(q6, .inr (15, [.ref q7, .int p9])), (q7, .inl (I .byte, 8192, .inl f10))] ∧ 8192 < z12.toInt ∧ gB z12 8193 2147483647) ∨ (∃ (z12 : Int32), r = some (.int 1) ∧ w = [(q6, .inr (15, [.ref q7, .int p9])), (q7, .inl (I .byte, 8192, .inl f10))] ∧ z12.toInt ≤ 8192 ∧ gB z12 (-2147483648) 8192)
set_option maxRecDepth 100000 in
set_option maxHeartbeats 4000000 in
theorem ct_11_Tape_hasRoom (l : Launch) (hl0 : l.stackTraces = false) (D : va_G) (I : FieldType → ClassId) (q6 : Nat) (q7 : Nat) (p8 : Int32) (p9 : Int32) (f10 : Nat → Int32) (bp9 : gB p9 0 8192) (bf10 : gF f10 (-128) 127) : Ct (gV D I) l yX10_hasRoom cX10_hasRoom 2 (some FieldType.boolean) 0 0 0 0 [.ref q6, .int p8] [(q6, .inr (15, [.ref q7, .int p9])), (q7, .inl (I .byte, 8192, .inl f10))] (po_11_Tape_hasRoom I q6 q7 p8 p9 f10) gN := by
  refine Ct_of hl0 (by decide) (Nat.le_of_ble_eq_true rfl) ?_
  have bp8 := gB_any p8
  refine G_aload_n 0 d_cX10_hasRoom_0 rfl ?_
  refine G_getf 0 1 d_cX10_hasRoom_1 rfl (gk_X10 D I) (Nat.le_of_ble_eq_true rfl) w_1_60 rfl ?_
  refine G_iload_n 1 d_cX10_hasRoom_4 rfl ?_
  refine G_iadd d_cX10_hasRoom_5 (G_nam fun z12 hz12 => ?_)
  have bz12 : gB z12 (-2147483648) 2147483647 := gB_any z12
  refine G_aload_n 0 d_cX10_hasRoom_6 rfl ?_
  refine G_getf 0 0 d_cX10_hasRoom_7 rfl (gk_X10 D I) (Nat.le_of_ble_eq_true rfl) w_1_59 rfl ?_
  refine G_alen 8192 1 1 d_cX10_hasRoom_10 rfl rfl rfl ?_
  refine G_icmp_gt 18 d_cX10_hasRoom_11 (by decide +kernel) (fun hc13 => ?_) (fun hc13 => ?_)
  · have r14 : 8192 < z12.toInt := gj_ltL hc13 (show Int32.toInt 8192 = 8192 by decide)
    have bz12' : gB z12 8193 2147483647 := ⟨by omega, by omega⟩
    refine G_iconst 0 d_cX10_hasRoom_18 (by decide +kernel) ?_
    exact G_zret FieldType.boolean d_cX10_hasRoom_19 rfl rfl (Nat.le_of_ble_eq_true rfl) (Nat.le_of_ble_eq_true rfl) (Or.inl ⟨z12, rfl, rfl, r14, bz12'⟩)
  · have r15 : z12.toInt ≤ 8192 := gj_nltL hc13 (show Int32.toInt 8192 = 8192 by decide)
    have bz12' : gB z12 (-2147483648) 8192 := ⟨by omega, by omega⟩
    refine G_iconst 1 d_cX10_hasRoom_14 (by decide +kernel) ?_
    refine G_goto 19 d_cX10_hasRoom_15 (by decide +kernel) ?_
    exact G_zret FieldType.boolean d_cX10_hasRoom_19 rfl rfl (Nat.le_of_ble_eq_true rfl) (Nat.le_of_ble_eq_true rfl) (Or.inr (⟨z12, rfl, rfl, r15, bz12'⟩))
abbrev ky_21_Tape_cutTo : gKey := (cX10_cutTo, 2, yX10_cutTo.cls, none, [], yX10_cutTo.name, fun _ _ => True)
abbrev po_21_Tape_cutTo (I : FieldType → ClassId) (q16 : Nat) (q17 : Nat) (p18 : Int32) (p19 : Int32) (f20 : Nat → Int32) : Option Value → va_W → Prop := fun r w => ∃ (o24 : Int32), r = none ∧ w = [(q16, .inr (15, [.ref q17, .int o24])), (q17, .inl (I .byte, 8192, .inl f20))] ∧ gB o24 0 8192
set_option maxRecDepth 100000 in
set_option maxHeartbeats 4000000 in
theorem ct_21_Tape_cutTo (l : Launch) (hl0 : l.stackTraces = false) (D : va_G) (I : FieldType → ClassId) (q16 : Nat) (q17 : Nat) (p18 : Int32) (p19 : Int32) (f20 : Nat → Int32) (bp19 : gB p19 0 8192) (bf20 : gF f20 (-128) 127) : Ct (gV D I) l yX10_cutTo cX10_cutTo 2 none 1 15 0 0 [.ref q16, .int p18] [(q16, .inr (15, [.ref q17, .int p19])), (q17, .inl (I .byte, 8192, .inl f20))] (po_21_Tape_cutTo I q16 q17 p18 p19 f20) gN := by
  refine Ct_of hl0 (by decide) (Nat.le_of_ble_eq_true rfl) ?_
  have bp18 := gB_any p18
  refine G_aload_n 0 d_cX10_cutTo_0 rfl ?_
  refine G_iconst 0 d_cX10_cutTo_1 (by decide +kernel) ?_
  refine G_iload_n 1 d_cX10_cutTo_2 rfl ?_
  refine G_aload_n 0 d_cX10_cutTo_3 rfl ?_
  refine G_getf 0 1 d_cX10_cutTo_4 rfl (gk_X10 D I) (Nat.le_of_ble_eq_true rfl) w_1_60 rfl ?_
  refine G_mmin d_cX10_cutTo_7 w_3_226 w_3_227 w_1_6 w_3_228 (Nat.le_of_ble_eq_true rfl) (Nat.le_of_ble_eq_true rfl) (Nat.le_of_ble_eq_true rfl) (Nat.le_of_ble_eq_true rfl) (G_nam fun z22 hz22 => ?_)
  have ez22 : p18.toInt ≥ z22.toInt ∧ p19.toInt ≥ z22.toInt ∧ (z22.toInt = p18.toInt ∨ z22.toInt = p19.toInt) := by have := gI_min hz22; omega
  have bz22 : gB z22 (-2147483648) 8192 := ⟨by omega, by omega⟩
  refine G_mmax d_cX10_cutTo_10 w_3_229 w_1_140 w_1_6 w_1_141 (Nat.le_of_ble_eq_true rfl) (Nat.le_of_ble_eq_true rfl) (Nat.le_of_ble_eq_true rfl) (Nat.le_of_ble_eq_true rfl) (G_nam fun z23 hz23 => ?_)
  have ez23 : 0 ≤ z23.toInt ∧ z22.toInt ≤ z23.toInt ∧ (z23.toInt = 0 ∨ z23.toInt = z22.toInt) := by have := gI_max hz23; rw [show Int32.toInt 0 = 0 from by decide] at this; omega
  have bz23 : gB z23 0 8192 := ⟨by omega, by omega⟩
  refine G_putf (ws' := [(q16, .inr (15, [.ref q17, .int z23])), (q17, .inl (I .byte, 8192, .inl f20))]) 0 1 d_cX10_cutTo_13 rfl (gk_X10 D I) (Nat.le_of_ble_eq_true rfl) w_1_60 rfl rfl rfl (Nat.le_of_ble_eq_true rfl) rfl ?_
  exact G_vret d_cX10_cutTo_16 rfl (Nat.le_of_ble_eq_true rfl) (Nat.le_of_ble_eq_true rfl) ⟨z23, rfl, rfl, bz23⟩
abbrev ky_30_Tape_byteAt : gKey := (cX10_byteAt, 2, yX10_byteAt.cls, (some FieldType.int), [], yX10_byteAt.name, fun _ _ => True)
abbrev po_30_Tape_byteAt (I : FieldType → ClassId) (q25 : Nat) (q26 : Nat) (p27 : Int32) (p28 : Int32) (f29 : Nat → Int32) : Option Value → va_W → Prop := fun r w => (r = some (.int (-1)) ∧ w = [(q25, .inr (15, [.ref q26, .int p28])), (q26, .inl (I .byte, 8192, .inl f29))] ∧ p27.toInt < 0) ∨ (r = some (.int (-1)) ∧ w = [(q25, .inr (15, [.ref q26, .int p28])), (q26, .inl (I .byte, 8192, .inl f29))] ∧ 0 ≤ p27.toInt ∧ p28.toInt ≤ p27.toInt) ∨ (∃ (z38 : Int32), r = some (.int z38) ∧ w = [(q25, .inr (15, [.ref q26, .int p28])), (q26, .inl (I .byte, 8192, .inl f29))] ∧ 0 ≤ p27.toInt ∧ p27.toInt < p28.toInt ∧ gB z38 0 255)
set_option maxRecDepth 100000 in
set_option maxHeartbeats 4000000 in
theorem ct_30_Tape_byteAt (l : Launch) (hl0 : l.stackTraces = false) (D : va_G) (I : FieldType → ClassId) (q25 : Nat) (q26 : Nat) (p27 : Int32) (p28 : Int32) (f29 : Nat → Int32) (bp28 : gB p28 0 8192) (bf29 : gF f29 (-128) 127) : Ct (gV D I) l yX10_byteAt cX10_byteAt 2 (some FieldType.int) 0 0 0 0 [.ref q25, .int p27] [(q25, .inr (15, [.ref q26, .int p28])), (q26, .inl (I .byte, 8192, .inl f29))] (po_30_Tape_byteAt I q25 q26 p27 p28 f29) gN := by
  refine Ct_of hl0 (by decide) (Nat.le_of_ble_eq_true rfl) ?_
  have bp27 := gB_any p27
  refine G_iload_n 1 d_cX10_byteAt_0 rfl ?_
  refine G_if_lt 25 d_cX10_byteAt_1 (by decide +kernel) (fun hc31 => ?_) (fun hc31 => ?_)
  · have r32 : p27.toInt < 0 := gj_lt hc31 (show Int32.toInt 0 = 0 by decide)
    have bp27' : gB p27 (-2147483648) (-1) := ⟨by omega, by omega⟩
    refine G_iconst (-1) d_cX10_byteAt_25 (by decide +kernel) ?_
    exact G_iret d_cX10_byteAt_26 rfl (Nat.le_of_ble_eq_true rfl) (Nat.le_of_ble_eq_true rfl) (Or.inl ⟨rfl, rfl, r32⟩)
  · have r33 : 0 ≤ p27.toInt := gj_nlt hc31 (show Int32.toInt 0 = 0 by decide)
    have bp27' : gB p27 0 2147483647 := ⟨by omega, by omega⟩
    refine G_iload_n 1 d_cX10_byteAt_4 rfl ?_
    refine G_aload_n 0 d_cX10_byteAt_5 rfl ?_
    refine G_getf 0 1 d_cX10_byteAt_6 rfl (gk_X10 D I) (Nat.le_of_ble_eq_true rfl) w_1_60 rfl ?_
    refine G_icmp_ge 25 d_cX10_byteAt_9 (by decide +kernel) (fun hc34 => ?_) (fun hc34 => ?_)
    · have r35 : p28.toInt ≤ p27.toInt := gC_le hc34
      refine G_iconst (-1) d_cX10_byteAt_25 (by decide +kernel) ?_
      exact G_iret d_cX10_byteAt_26 rfl (Nat.le_of_ble_eq_true rfl) (Nat.le_of_ble_eq_true rfl) (Or.inr (Or.inl ⟨rfl, rfl, r33, r35⟩))
    · have r36 : p27.toInt < p28.toInt := gC_nle hc34
      have bp27'' : gB p27 0 8191 := ⟨by omega, by omega⟩
      have bp28' : gB p28 1 8192 := ⟨by omega, by omega⟩
      refine G_aload_n 0 d_cX10_byteAt_12 rfl ?_
      refine G_getf 0 0 d_cX10_byteAt_13 rfl (gk_X10 D I) (Nat.le_of_ble_eq_true rfl) w_1_59 rfl ?_
      refine G_iload_n 1 d_cX10_byteAt_16 rfl ?_
      refine G_bald 1 1 d_cX10_byteAt_17 rfl rfl (gB_in bp27'' (by decide) (by decide)) (G_nam fun z37 hz37 => ?_)
      have bz37 : gB z37 (-128) 127 := by rw [hz37]; exact bf29 _
      refine G_sipush 255 d_cX10_byteAt_18 (by decide +kernel) ?_
      refine G_iand d_cX10_byteAt_21 (G_nam fun z38 hz38 => ?_)
      have bz38 : gB z38 0 255 := gB_and hz38 (gBl (show Int32.toInt 255 = 255 by decide)) (by decide)
      refine G_goto 26 d_cX10_byteAt_22 (by decide +kernel) ?_
      exact G_iret d_cX10_byteAt_26 rfl (Nat.le_of_ble_eq_true rfl) (Nat.le_of_ble_eq_true rfl) (Or.inr (Or.inr (⟨z38, rfl, rfl, r33, r36, bz38⟩)))
abbrev ky_44_Tape_addInt : gKey := (cX10_addInt, 3, yX10_addInt.cls, none, [], yX10_addInt.name, fun _ _ => True)
abbrev po_44_Tape_addInt (I : FieldType → ClassId) (q39 : Nat) (q40 : Nat) (p41 : Int32) (p42 : Int32) (f43 : Nat → Int32) : Option Value → va_W → Prop := fun r w => ∃ (o127 : Int32) (f128 : Nat → Int32), r = none ∧ w = [(q39, .inr (15, [.ref q40, .int o127])), (q40, .inl (I .byte, 8192, .inl f128))] ∧ gB o127 0 8192 ∧ gF f128 (-128) 127
set_option maxRecDepth 100000 in
set_option maxHeartbeats 4000000 in
theorem ct_44_Tape_addInt (l : Launch) (hl0 : l.stackTraces = false) (D : va_G) (I : FieldType → ClassId) (q39 : Nat) (q40 : Nat) (p41 : Int32) (p42 : Int32) (f43 : Nat → Int32) (bp42 : gB p42 0 8192) (bf43 : gF f43 (-128) 127) : Ct (gV D I) l yX10_addInt cX10_addInt 3 none 0 0 0 0 [.ref q39, .int p41] [(q39, .inr (15, [.ref q40, .int p42])), (q40, .inl (I .byte, 8192, .inl f43))] (po_44_Tape_addInt I q39 q40 p41 p42 f43) gN := by
  refine Ct_of hl0 (by decide) (Nat.le_of_ble_eq_true rfl) ?_
  have bp41 := gB_any p41
  refine G_bipush 24 d_cX10_addInt_0 (by decide +kernel) ?_
  refine G_istore_n (L' := [(2, .int 24), (0, .ref q39), (1, .int p41)]) d_cX10_addInt_2 (Nat.le_of_ble_eq_true rfl) rfl ?_
  have hlp3_115 : ∀ (n3_115 : Nat) (g113 : Int32) (g114 : Int32) (f115 : Nat → Int32), gB g113 (-8) 24 → gB g114 0 8192 → gF f115 (-128) 127 → ((g113.toInt : Int) - (-9)).toNat < n3_115 → G (gV D I) l (gRm 0 0 0 0) (gM (gV D I) (po_44_Tape_addInt I q39 q40 p41 p42 f43) gN 0 0) ky_44_Tape_addInt 3 [(2, .int g113), (0, .ref q39), (1, .int p41)] [] [(q39, .inr (15, [.ref q40, .int g114])), (q40, .inl (I .byte, 8192, .inl f115))] 0 0 := by
    intro n3_115
    induction n3_115 with
    | zero => intro g113 g114 f115 bg113 bg114 bf115 hm3_115; exact absurd hm3_115 (Nat.not_lt_zero _)
    | succ n3_115 ih3_115 =>
      intro g113 g114 f115 bg113 bg114 bf115 hm3_115
      refine G_iload_n 0 d_cX10_addInt_3 rfl ?_
      refine G_if_lt 48 d_cX10_addInt_4 (by decide +kernel) (fun hc116 => ?_) (fun hc116 => ?_)
      · have r117 : g113.toInt < 0 := gj_lt hc116 (show Int32.toInt 0 = 0 by decide)
        have bg113' : gB g113 (-8) (-1) := ⟨by omega, by omega⟩
        exact G_vret d_cX10_addInt_48 rfl (Nat.le_of_ble_eq_true rfl) (Nat.le_of_ble_eq_true rfl) ⟨g114, f115, rfl, rfl, bg114, bf115⟩
      · have r118 : 0 ≤ g113.toInt := gj_nlt hc116 (show Int32.toInt 0 = 0 by decide)
        have bg113' : gB g113 0 24 := ⟨by omega, by omega⟩
        refine G_aload_n 1 d_cX10_addInt_7 rfl ?_
        refine G_getf 0 1 d_cX10_addInt_8 rfl (gk_X10 D I) (Nat.le_of_ble_eq_true rfl) w_1_60 rfl ?_
        refine G_aload_n 1 d_cX10_addInt_11 rfl ?_
        refine G_getf 0 0 d_cX10_addInt_12 rfl (gk_X10 D I) (Nat.le_of_ble_eq_true rfl) w_1_59 rfl ?_
        refine G_alen 8192 1 1 d_cX10_addInt_15 rfl rfl rfl ?_
        refine G_icmp_ge 48 d_cX10_addInt_16 (by decide +kernel) (fun hc119 => ?_) (fun hc119 => ?_)
        · have r120 : 8192 ≤ g114.toInt := gj_leL hc119 (show Int32.toInt 8192 = 8192 by decide)
          have bg114' : gB g114 8192 8192 := ⟨by omega, by omega⟩
          exact G_vret d_cX10_addInt_48 rfl (Nat.le_of_ble_eq_true rfl) (Nat.le_of_ble_eq_true rfl) ⟨g114, f115, rfl, rfl, (gB_w bg114' (by decide) (by decide)), bf115⟩
        · have r121 : g114.toInt < 8192 := gj_nleL hc119 (show Int32.toInt 8192 = 8192 by decide)
          have bg114' : gB g114 0 8191 := ⟨by omega, by omega⟩
          refine G_aload_n 1 d_cX10_addInt_19 rfl ?_
          refine G_getf 0 0 d_cX10_addInt_20 rfl (gk_X10 D I) (Nat.le_of_ble_eq_true rfl) w_1_59 rfl ?_
          refine G_aload_n 1 d_cX10_addInt_23 rfl ?_
          refine G_getf 0 1 d_cX10_addInt_24 rfl (gk_X10 D I) (Nat.le_of_ble_eq_true rfl) w_1_60 rfl ?_
          refine G_iload_n 2 d_cX10_addInt_27 rfl ?_
          refine G_iload_n 0 d_cX10_addInt_28 rfl ?_
          refine G_ishr d_cX10_addInt_29 (G_nam fun z122 hz122 => ?_)
          have bz122 : gB z122 (-2147483648) 2147483647 := gB_any z122
          refine G_i2b d_cX10_addInt_30 (G_nam fun z123 hz123 => ?_)
          have bz123 : gB z123 (-128) 127 := gB_i2b hz123
          refine G_bastN 1 1 d_cX10_addInt_31 rfl rfl (gB_in bg114' (by decide) (by decide)) (fun f124 hf124 => ?_)
          refine G_ws (ws' := [(q39, .inr (15, [.ref q40, .int g114])), (q40, .inl (I .byte, 8192, .inl f124))]) (cs' := 0) (sl' := 0) rfl rfl rfl ?_
          have bf124 : gF f124 (-128) 127 := gF_upd hf124 bf115 gB_byte
          refine G_aload_n 1 d_cX10_addInt_32 rfl ?_
          refine G_dup d_cX10_addInt_33 rfl ?_
          refine G_getf 0 1 d_cX10_addInt_34 rfl (gk_X10 D I) (Nat.le_of_ble_eq_true rfl) w_1_60 rfl ?_
          refine G_iconst 1 d_cX10_addInt_37 (by decide +kernel) ?_
          refine G_iadd d_cX10_addInt_38 (G_nam fun z125 hz125 => ?_)
          have ez125 : z125.toInt = g114.toInt + 1 := by rw [gI_add hz125 bg114' (gBl (show Int32.toInt 1 = 1 by decide)) (by decide) (by decide), show Int32.toInt 1 = 1 from by decide]
          have bz125 : gB z125 1 8192 := gB_add (gI_add hz125 bg114' (gBl (show Int32.toInt 1 = 1 by decide)) (by decide) (by decide)) bg114' (gBl (show Int32.toInt 1 = 1 by decide)) (by decide) (by decide)
          refine G_putf (ws' := [(q39, .inr (15, [.ref q40, .int z125])), (q40, .inl (I .byte, 8192, .inl f124))]) 0 1 d_cX10_addInt_39 rfl (gk_X10 D I) (Nat.le_of_ble_eq_true rfl) w_1_60 rfl rfl rfl (Nat.le_of_ble_eq_true rfl) rfl ?_
          obtain ⟨z126, hz126⟩ : ∃ z : Int32, z = g113 + Int32.ofInt (-8) := ⟨_, rfl⟩
          have ez126 : z126.toInt = g113.toInt + (-8) := gI_inc hz126 (by decide) bg113' (by decide) (by decide)
          have bz126 : gB z126 (-8) 16 := ⟨by omega, by omega⟩
          refine G_iinc (L' := [(2, .int z126), (0, .ref q39), (1, .int p41)]) z126 0 d_cX10_addInt_42 rfl hz126.symm (Nat.le_of_ble_eq_true rfl) rfl ?_
          refine G_goto 3 d_cX10_addInt_45 (by decide +kernel) ?_
          exact ih3_115 z126 z125 f124 (gB_w bz126 (by decide) (by decide)) (gB_w bz125 (by decide) (by decide)) bf124 (by omega)
  exact hlp3_115 (((24 : Int) - (-9)).toNat + 1) 24 p42 f43 (gB_w (gBl (show Int32.toInt 24 = 24 by decide)) (by decide) (by decide)) bp42 bf43 (Nat.lt_succ_self _)
abbrev ky_134_Tape_intAt : gKey := (cX10_intAt, 4, yX10_intAt.cls, (some FieldType.int), [], yX10_intAt.name, fun _ _ => True)
abbrev po_134_Tape_intAt (I : FieldType → ClassId) (q129 : Nat) (q130 : Nat) (p131 : Int32) (p132 : Int32) (f133 : Nat → Int32) : Option Value → va_W → Prop := fun r w => ∃ (o265 : Int32), r = some (.int o265) ∧ w = [(q129, .inr (15, [.ref q130, .int p132])), (q130, .inl (I .byte, 8192, .inl f133))] ∧ gB o265 (-2147483648) 2147483647
set_option maxRecDepth 100000 in
set_option maxHeartbeats 4000000 in
theorem ct_134_Tape_intAt (l : Launch) (hl0 : l.stackTraces = false) (D : va_G) (I : FieldType → ClassId) (q129 : Nat) (q130 : Nat) (p131 : Int32) (p132 : Int32) (f133 : Nat → Int32) (bp132 : gB p132 0 8192) (bf133 : gF f133 (-128) 127) : Ct (gV D I) l yX10_intAt cX10_intAt 4 (some FieldType.int) 1 21 0 0 [.ref q129, .int p131] [(q129, .inr (15, [.ref q130, .int p132])), (q130, .inl (I .byte, 8192, .inl f133))] (po_134_Tape_intAt I q129 q130 p131 p132 f133) gN := by
  refine Ct_of hl0 (by decide) (Nat.le_of_ble_eq_true rfl) ?_
  have bp131 := gB_any p131
  refine G_iconst 0 d_cX10_intAt_0 (by decide +kernel) ?_
  refine G_istore_n (L' := [(2, .int 0), (0, .ref q129), (1, .int p131)]) d_cX10_intAt_1 (Nat.le_of_ble_eq_true rfl) rfl ?_
  refine G_iconst 0 d_cX10_intAt_2 (by decide +kernel) ?_
  refine G_istore_n (L' := [(3, .int 0), (2, .int 0), (0, .ref q129), (1, .int p131)]) d_cX10_intAt_3 (Nat.le_of_ble_eq_true rfl) rfl ?_
  have hlp4_245 : ∀ (n4_245 : Nat) (g244 : Int32) (g245 : Int32), gB g244 0 4 → gB g245 (-2147483648) 2147483647 → ((5 : Int) - g244.toInt).toNat < n4_245 → G (gV D I) l (gRm 1 21 0 0) (gM (gV D I) (po_134_Tape_intAt I q129 q130 p131 p132 f133) gN 0 0) ky_134_Tape_intAt 4 [(3, .int g244), (2, .int g245), (0, .ref q129), (1, .int p131)] [] [(q129, .inr (15, [.ref q130, .int p132])), (q130, .inl (I .byte, 8192, .inl f133))] 0 0 := by
    intro n4_245
    induction n4_245 with
    | zero => intro g244 g245 bg244 bg245 hm4_245; exact absurd hm4_245 (Nat.not_lt_zero _)
    | succ n4_245 ih4_245 =>
      intro g244 g245 bg244 bg245 hm4_245
      refine G_iload_n 0 d_cX10_intAt_4 rfl ?_
      refine G_iconst 4 d_cX10_intAt_5 (by decide +kernel) ?_
      refine G_icmp_ge 32 d_cX10_intAt_6 (by decide +kernel) (fun hc246 => ?_) (fun hc246 => ?_)
      · have r247 : 4 ≤ g244.toInt := gj_leL hc246 (show Int32.toInt 4 = 4 by decide)
        have bg244' : gB g244 4 4 := ⟨by omega, by omega⟩
        refine G_iload_n 1 d_cX10_intAt_32 rfl ?_
        exact G_iret d_cX10_intAt_33 rfl (Nat.le_of_ble_eq_true rfl) (Nat.le_of_ble_eq_true rfl) ⟨g245, rfl, rfl, bg245⟩
      · have r248 : g244.toInt < 4 := gj_nleL hc246 (show Int32.toInt 4 = 4 by decide)
        have bg244' : gB g244 0 3 := ⟨by omega, by omega⟩
        refine G_iload_n 1 d_cX10_intAt_9 rfl ?_
        refine G_bipush 8 d_cX10_intAt_10 (by decide +kernel) ?_
        refine G_ishl d_cX10_intAt_12 (G_nam fun z249 hz249 => ?_)
        have bz249 : gB z249 (-2147483648) 2147483647 := gB_any z249
        refine G_aload_n 2 d_cX10_intAt_13 rfl ?_
        refine G_iload_n 3 d_cX10_intAt_14 rfl ?_
        refine G_iload_n 0 d_cX10_intAt_15 rfl ?_
        refine G_iadd d_cX10_intAt_16 (G_nam fun z250 hz250 => ?_)
        have bz250 : gB z250 (-2147483648) 2147483647 := gB_any z250
        refine G_callV (As := [.int z250]) (wr := []) (gV_ok D I) (ct_30_Tape_byteAt l hl0 D I q129 q130 z250 p132 f133 bp132 bf133) d_cX10_intAt_17 ⟨w_4_182, w_1_2, w_3_23, by decide, rfl, (Nat.le_of_ble_eq_true rfl), (Nat.le_of_ble_eq_true rfl)⟩ w_3_21 w_3_22 0 rfl rfl [0, 1] [] rfl rfl rfl rfl (by decide) (Nat.le_of_ble_eq_true rfl) (Nat.le_of_ble_eq_true rfl) (Nat.le_of_ble_eq_true rfl) (fun r w hp => ?_) (fun _ _ _ z => z.elim)
        rcases hp with ⟨rfl, rfl, r251⟩ | ⟨rfl, rfl, r252, r253⟩ | ⟨z254, rfl, rfl, r255, r256, r257⟩
        · have bz250' : gB z250 (-2147483648) (-1) := ⟨by omega, by omega⟩
          change G _ _ _ _ _ _ _ (.int (-1) :: _) _ _ _
          refine G_ws (ws' := [(q129, .inr (15, [.ref q130, .int p132])), (q130, .inl (I .byte, 8192, .inl f133))]) (cs' := 0) (sl' := 0) rfl rfl rfl ?_
          refine G_sipush 255 d_cX10_intAt_20 (by decide +kernel) ?_
          refine G_iand d_cX10_intAt_23 ?_
          refine G_eqi (y := 255) (by decide) ?_
          refine G_ior d_cX10_intAt_24 (G_nam fun z258 hz258 => ?_)
          have bz258 : gB z258 (-2147483648) 2147483647 := gB_any z258
          refine G_istore_n (L' := [(2, .int z258), (3, .int g244), (0, .ref q129), (1, .int p131)]) d_cX10_intAt_25 (Nat.le_of_ble_eq_true rfl) rfl ?_
          obtain ⟨z259, hz259⟩ : ∃ z : Int32, z = g244 + Int32.ofInt 1 := ⟨_, rfl⟩
          have ez259 : z259.toInt = g244.toInt + 1 := gI_inc hz259 (by decide) bg244' (by decide) (by decide)
          have bz259 : gB z259 1 4 := ⟨by omega, by omega⟩
          refine G_iinc (L' := [(3, .int z259), (2, .int z258), (0, .ref q129), (1, .int p131)]) z259 1 d_cX10_intAt_26 rfl hz259.symm (Nat.le_of_ble_eq_true rfl) rfl ?_
          refine G_goto 4 d_cX10_intAt_29 (by decide +kernel) ?_
          exact ih4_245 z259 z258 (gB_w bz259 (by decide) (by decide)) bz258 (by omega)
        · have bz250' : gB z250 0 2147483647 := ⟨by omega, by omega⟩
          change G _ _ _ _ _ _ _ (.int (-1) :: _) _ _ _
          refine G_ws (ws' := [(q129, .inr (15, [.ref q130, .int p132])), (q130, .inl (I .byte, 8192, .inl f133))]) (cs' := 0) (sl' := 0) rfl rfl rfl ?_
          refine G_sipush 255 d_cX10_intAt_20 (by decide +kernel) ?_
          refine G_iand d_cX10_intAt_23 ?_
          refine G_eqi (y := 255) (by decide) ?_
          refine G_ior d_cX10_intAt_24 (G_nam fun z260 hz260 => ?_)
          have bz260 : gB z260 (-2147483648) 2147483647 := gB_any z260
          refine G_istore_n (L' := [(2, .int z260), (3, .int g244), (0, .ref q129), (1, .int p131)]) d_cX10_intAt_25 (Nat.le_of_ble_eq_true rfl) rfl ?_
          obtain ⟨z261, hz261⟩ : ∃ z : Int32, z = g244 + Int32.ofInt 1 := ⟨_, rfl⟩
          have ez261 : z261.toInt = g244.toInt + 1 := gI_inc hz261 (by decide) bg244' (by decide) (by decide)
          have bz261 : gB z261 1 4 := ⟨by omega, by omega⟩
          refine G_iinc (L' := [(3, .int z261), (2, .int z260), (0, .ref q129), (1, .int p131)]) z261 1 d_cX10_intAt_26 rfl hz261.symm (Nat.le_of_ble_eq_true rfl) rfl ?_
          refine G_goto 4 d_cX10_intAt_29 (by decide +kernel) ?_
          exact ih4_245 z261 z260 (gB_w bz261 (by decide) (by decide)) bz260 (by omega)
        · have bz250' : gB z250 0 2147483647 := ⟨by omega, by omega⟩
          have bz250'' : gB z250 0 8191 := ⟨by omega, by omega⟩
          have bp132' : gB p132 1 8192 := ⟨by omega, by omega⟩
          change G _ _ _ _ _ _ _ (.int z254 :: _) _ _ _
          refine G_ws (ws' := [(q129, .inr (15, [.ref q130, .int p132])), (q130, .inl (I .byte, 8192, .inl f133))]) (cs' := 0) (sl' := 0) rfl rfl rfl ?_
          refine G_sipush 255 d_cX10_intAt_20 (by decide +kernel) ?_
          refine G_iand d_cX10_intAt_23 (G_nam fun z262 hz262 => ?_)
          have bz262 : gB z262 0 255 := gB_and hz262 (gBl (show Int32.toInt 255 = 255 by decide)) (by decide)
          refine G_ior d_cX10_intAt_24 (G_nam fun z263 hz263 => ?_)
          have bz263 : gB z263 (-2147483648) 2147483647 := gB_any z263
          refine G_istore_n (L' := [(2, .int z263), (3, .int g244), (0, .ref q129), (1, .int p131)]) d_cX10_intAt_25 (Nat.le_of_ble_eq_true rfl) rfl ?_
          obtain ⟨z264, hz264⟩ : ∃ z : Int32, z = g244 + Int32.ofInt 1 := ⟨_, rfl⟩
          have ez264 : z264.toInt = g244.toInt + 1 := gI_inc hz264 (by decide) bg244' (by decide) (by decide)
          have bz264 : gB z264 1 4 := ⟨by omega, by omega⟩
          refine G_iinc (L' := [(3, .int z264), (2, .int z263), (0, .ref q129), (1, .int p131)]) z264 1 d_cX10_intAt_26 rfl hz264.symm (Nat.le_of_ble_eq_true rfl) rfl ?_
          refine G_goto 4 d_cX10_intAt_29 (by decide +kernel) ?_
          exact ih4_245 z264 z263 (gB_w bz264 (by decide) (by decide)) bz263 (by omega)
  exact hlp4_245 (((5 : Int) - 0).toNat + 1) 0 0 (gB_w (gBl (show Int32.toInt 0 = 0 by decide)) (by decide) (by decide)) (gB_w (gBl (show Int32.toInt 0 = 0 by decide)) (by decide) (by decide)) (Nat.lt_succ_self _)
abbrev ky_276_Signs_kind : gKey := (cX9_kind, 1, yX9_kind.cls, (some FieldType.int), [], yX9_kind.name, fun _ _ => True)
abbrev po_276_Signs_kind (I : FieldType → ClassId) (q266 : Nat) (q267 : Nat) (q268 : Nat) (p269 : Int32) (p270 : Int32) (p271 : Int32) (p272 : Int32) (p273 : Int32) (f274 : Nat → Int32) : Option Value → va_W → Prop := fun r w => r = some (.int p269) ∧ w = [(q266, .inr (14, [.ref q267, .int p269, .int p270, .int p271, .int p272])), (q267, .inr (15, [.ref q268, .int p273])), (q268, .inl (I .byte, 8192, .inl f274))]
set_option maxRecDepth 100000 in
set_option maxHeartbeats 4000000 in
theorem ct_276_Signs_kind (l : Launch) (hl0 : l.stackTraces = false) (D : va_G) (I : FieldType → ClassId) (q266 : Nat) (q267 : Nat) (q268 : Nat) (p269 : Int32) (p270 : Int32) (p271 : Int32) (p272 : Int32) (p273 : Int32) (f274 : Nat → Int32) (bp273 : gB p273 0 8192) (bf274 : gF f274 (-128) 127) (x275 : (p269.toInt ≠ 5 ∨ (0 ≤ p270.toInt ∧ p270.toInt ≤ 13))) : Ct (gV D I) l yX9_kind cX9_kind 1 (some FieldType.int) 0 0 0 0 [.ref q266] [(q266, .inr (14, [.ref q267, .int p269, .int p270, .int p271, .int p272])), (q267, .inr (15, [.ref q268, .int p273])), (q268, .inl (I .byte, 8192, .inl f274))] (po_276_Signs_kind I q266 q267 q268 p269 p270 p271 p272 p273 f274) gN := by
  refine Ct_of hl0 (by decide) (Nat.le_of_ble_eq_true rfl) ?_
  have bp269 := gB_any p269
  have bp270 := gB_any p270
  have bp271 := gB_any p271
  have bp272 := gB_any p272
  refine G_aload_n 0 d_cX9_kind_0 rfl ?_
  refine G_getf 0 1 d_cX9_kind_1 rfl (gk_X9 D I) (Nat.le_of_ble_eq_true rfl) w_1_80 rfl ?_
  exact G_iret d_cX9_kind_4 rfl (Nat.le_of_ble_eq_true rfl) (Nat.le_of_ble_eq_true rfl) ⟨rfl, rfl⟩
abbrev ky_287_Signs_value : gKey := (cX9_value, 1, yX9_value.cls, (some FieldType.int), [], yX9_value.name, fun _ _ => True)
abbrev po_287_Signs_value (I : FieldType → ClassId) (q277 : Nat) (q278 : Nat) (q279 : Nat) (p280 : Int32) (p281 : Int32) (p282 : Int32) (p283 : Int32) (p284 : Int32) (f285 : Nat → Int32) : Option Value → va_W → Prop := fun r w => r = some (.int p281) ∧ w = [(q277, .inr (14, [.ref q278, .int p280, .int p281, .int p282, .int p283])), (q278, .inr (15, [.ref q279, .int p284])), (q279, .inl (I .byte, 8192, .inl f285))]
set_option maxRecDepth 100000 in
set_option maxHeartbeats 4000000 in
theorem ct_287_Signs_value (l : Launch) (hl0 : l.stackTraces = false) (D : va_G) (I : FieldType → ClassId) (q277 : Nat) (q278 : Nat) (q279 : Nat) (p280 : Int32) (p281 : Int32) (p282 : Int32) (p283 : Int32) (p284 : Int32) (f285 : Nat → Int32) (bp284 : gB p284 0 8192) (bf285 : gF f285 (-128) 127) (x286 : (p280.toInt ≠ 5 ∨ (0 ≤ p281.toInt ∧ p281.toInt ≤ 13))) : Ct (gV D I) l yX9_value cX9_value 1 (some FieldType.int) 0 0 0 0 [.ref q277] [(q277, .inr (14, [.ref q278, .int p280, .int p281, .int p282, .int p283])), (q278, .inr (15, [.ref q279, .int p284])), (q279, .inl (I .byte, 8192, .inl f285))] (po_287_Signs_value I q277 q278 q279 p280 p281 p282 p283 p284 f285) gN := by
  refine Ct_of hl0 (by decide) (Nat.le_of_ble_eq_true rfl) ?_
  have bp280 := gB_any p280
  have bp281 := gB_any p281
  have bp282 := gB_any p282
  have bp283 := gB_any p283
  refine G_aload_n 0 d_cX9_value_0 rfl ?_
  refine G_getf 0 2 d_cX9_value_1 rfl (gk_X9 D I) (Nat.le_of_ble_eq_true rfl) w_1_81 rfl ?_
  exact G_iret d_cX9_value_4 rfl (Nat.le_of_ble_eq_true rfl) (Nat.le_of_ble_eq_true rfl) ⟨rfl, rfl⟩
abbrev ky_298_Signs_place : gKey := (cX9_place, 1, yX9_place.cls, (some FieldType.int), [], yX9_place.name, fun _ _ => True)
abbrev po_298_Signs_place (I : FieldType → ClassId) (q288 : Nat) (q289 : Nat) (q290 : Nat) (p291 : Int32) (p292 : Int32) (p293 : Int32) (p294 : Int32) (p295 : Int32) (f296 : Nat → Int32) : Option Value → va_W → Prop := fun r w => r = some (.int p293) ∧ w = [(q288, .inr (14, [.ref q289, .int p291, .int p292, .int p293, .int p294])), (q289, .inr (15, [.ref q290, .int p295])), (q290, .inl (I .byte, 8192, .inl f296))]
set_option maxRecDepth 100000 in
set_option maxHeartbeats 4000000 in
theorem ct_298_Signs_place (l : Launch) (hl0 : l.stackTraces = false) (D : va_G) (I : FieldType → ClassId) (q288 : Nat) (q289 : Nat) (q290 : Nat) (p291 : Int32) (p292 : Int32) (p293 : Int32) (p294 : Int32) (p295 : Int32) (f296 : Nat → Int32) (bp295 : gB p295 0 8192) (bf296 : gF f296 (-128) 127) (x297 : (p291.toInt ≠ 5 ∨ (0 ≤ p292.toInt ∧ p292.toInt ≤ 13))) : Ct (gV D I) l yX9_place cX9_place 1 (some FieldType.int) 0 0 0 0 [.ref q288] [(q288, .inr (14, [.ref q289, .int p291, .int p292, .int p293, .int p294])), (q289, .inr (15, [.ref q290, .int p295])), (q290, .inl (I .byte, 8192, .inl f296))] (po_298_Signs_place I q288 q289 q290 p291 p292 p293 p294 p295 f296) gN := by
  refine Ct_of hl0 (by decide) (Nat.le_of_ble_eq_true rfl) ?_
  have bp291 := gB_any p291
  have bp292 := gB_any p292
  have bp293 := gB_any p293
  have bp294 := gB_any p294
  refine G_aload_n 0 d_cX9_place_0 rfl ?_
  refine G_getf 0 3 d_cX9_place_1 rfl (gk_X9 D I) (Nat.le_of_ble_eq_true rfl) w_1_82 rfl ?_
  exact G_iret d_cX9_place_4 rfl (Nat.le_of_ble_eq_true rfl) (Nat.le_of_ble_eq_true rfl) ⟨rfl, rfl⟩
abbrev ky_300_Signs_isDigit : gKey := (cX9_isDigit, 1, yX9_isDigit.cls, (some FieldType.boolean), [], yX9_isDigit.name, fun _ _ => True)
abbrev po_300_Signs_isDigit (I : FieldType → ClassId) (p299 : Int32) : Option Value → va_W → Prop := fun r w => (r = some (.int 0) ∧ w = [] ∧ p299.toInt < 48) ∨ (r = some (.int 0) ∧ w = [] ∧ 48 ≤ p299.toInt ∧ 57 < p299.toInt) ∨ (r = some (.int 1) ∧ w = [] ∧ 48 ≤ p299.toInt ∧ p299.toInt ≤ 57)
set_option maxRecDepth 100000 in
set_option maxHeartbeats 4000000 in
theorem ct_300_Signs_isDigit (l : Launch) (hl0 : l.stackTraces = false) (D : va_G) (I : FieldType → ClassId) (p299 : Int32)  : Ct (gV D I) l yX9_isDigit cX9_isDigit 1 (some FieldType.boolean) 0 0 0 0 [.int p299] [] (po_300_Signs_isDigit I p299) gN := by
  refine Ct_of hl0 (by decide) (Nat.le_of_ble_eq_true rfl) ?_
  have bp299 := gB_any p299
  refine G_iload_n 0 d_cX9_isDigit_0 rfl ?_
  refine G_bipush 48 d_cX9_isDigit_1 (by decide +kernel) ?_
  refine G_icmp_lt 16 d_cX9_isDigit_3 (by decide +kernel) (fun hc301 => ?_) (fun hc301 => ?_)
  · have r302 : p299.toInt < 48 := gj_lt hc301 (show Int32.toInt 48 = 48 by decide)
    have bp299' : gB p299 (-2147483648) 47 := ⟨by omega, by omega⟩
    refine G_iconst 0 d_cX9_isDigit_16 (by decide +kernel) ?_
    exact G_zret FieldType.boolean d_cX9_isDigit_17 rfl rfl (Nat.le_of_ble_eq_true rfl) (Nat.le_of_ble_eq_true rfl) (Or.inl ⟨rfl, rfl, r302⟩)
  · have r303 : 48 ≤ p299.toInt := gj_nlt hc301 (show Int32.toInt 48 = 48 by decide)
    have bp299' : gB p299 48 2147483647 := ⟨by omega, by omega⟩
    refine G_iload_n 0 d_cX9_isDigit_6 rfl ?_
    refine G_bipush 57 d_cX9_isDigit_7 (by decide +kernel) ?_
    refine G_icmp_gt 16 d_cX9_isDigit_9 (by decide +kernel) (fun hc304 => ?_) (fun hc304 => ?_)
    · have r305 : 57 < p299.toInt := gj_ltL hc304 (show Int32.toInt 57 = 57 by decide)
      have bp299'' : gB p299 58 2147483647 := ⟨by omega, by omega⟩
      refine G_iconst 0 d_cX9_isDigit_16 (by decide +kernel) ?_
      exact G_zret FieldType.boolean d_cX9_isDigit_17 rfl rfl (Nat.le_of_ble_eq_true rfl) (Nat.le_of_ble_eq_true rfl) (Or.inr (Or.inl ⟨rfl, rfl, r303, r305⟩))
    · have r306 : p299.toInt ≤ 57 := gj_nltL hc304 (show Int32.toInt 57 = 57 by decide)
      have bp299'' : gB p299 48 57 := ⟨by omega, by omega⟩
      refine G_iconst 1 d_cX9_isDigit_12 (by decide +kernel) ?_
      refine G_goto 17 d_cX9_isDigit_13 (by decide +kernel) ?_
      exact G_zret FieldType.boolean d_cX9_isDigit_17 rfl rfl (Nat.le_of_ble_eq_true rfl) (Nat.le_of_ble_eq_true rfl) (Or.inr (Or.inr (⟨rfl, rfl, r303, r306⟩)))
abbrev ky_308_Signs_isLetter : gKey := (cX9_isLetter, 1, yX9_isLetter.cls, (some FieldType.boolean), [], yX9_isLetter.name, fun _ _ => True)
abbrev po_308_Signs_isLetter (I : FieldType → ClassId) (p307 : Int32) : Option Value → va_W → Prop := fun r w => (r = some (.int 0) ∧ w = [] ∧ p307.toInt < 97) ∨ (r = some (.int 0) ∧ w = [] ∧ 97 ≤ p307.toInt ∧ 122 < p307.toInt) ∨ (r = some (.int 1) ∧ w = [] ∧ 97 ≤ p307.toInt ∧ p307.toInt ≤ 122)
set_option maxRecDepth 100000 in
set_option maxHeartbeats 4000000 in
theorem ct_308_Signs_isLetter (l : Launch) (hl0 : l.stackTraces = false) (D : va_G) (I : FieldType → ClassId) (p307 : Int32)  : Ct (gV D I) l yX9_isLetter cX9_isLetter 1 (some FieldType.boolean) 0 0 0 0 [.int p307] [] (po_308_Signs_isLetter I p307) gN := by
  refine Ct_of hl0 (by decide) (Nat.le_of_ble_eq_true rfl) ?_
  have bp307 := gB_any p307
  refine G_iload_n 0 d_cX9_isLetter_0 rfl ?_
  refine G_bipush 97 d_cX9_isLetter_1 (by decide +kernel) ?_
  refine G_icmp_lt 16 d_cX9_isLetter_3 (by decide +kernel) (fun hc309 => ?_) (fun hc309 => ?_)
  · have r310 : p307.toInt < 97 := gj_lt hc309 (show Int32.toInt 97 = 97 by decide)
    have bp307' : gB p307 (-2147483648) 96 := ⟨by omega, by omega⟩
    refine G_iconst 0 d_cX9_isLetter_16 (by decide +kernel) ?_
    exact G_zret FieldType.boolean d_cX9_isLetter_17 rfl rfl (Nat.le_of_ble_eq_true rfl) (Nat.le_of_ble_eq_true rfl) (Or.inl ⟨rfl, rfl, r310⟩)
  · have r311 : 97 ≤ p307.toInt := gj_nlt hc309 (show Int32.toInt 97 = 97 by decide)
    have bp307' : gB p307 97 2147483647 := ⟨by omega, by omega⟩
    refine G_iload_n 0 d_cX9_isLetter_6 rfl ?_
    refine G_bipush 122 d_cX9_isLetter_7 (by decide +kernel) ?_
    refine G_icmp_gt 16 d_cX9_isLetter_9 (by decide +kernel) (fun hc312 => ?_) (fun hc312 => ?_)
    · have r313 : 122 < p307.toInt := gj_ltL hc312 (show Int32.toInt 122 = 122 by decide)
      have bp307'' : gB p307 123 2147483647 := ⟨by omega, by omega⟩
      refine G_iconst 0 d_cX9_isLetter_16 (by decide +kernel) ?_
      exact G_zret FieldType.boolean d_cX9_isLetter_17 rfl rfl (Nat.le_of_ble_eq_true rfl) (Nat.le_of_ble_eq_true rfl) (Or.inr (Or.inl ⟨rfl, rfl, r311, r313⟩))
    · have r314 : p307.toInt ≤ 122 := gj_nltL hc312 (show Int32.toInt 122 = 122 by decide)
      have bp307'' : gB p307 97 122 := ⟨by omega, by omega⟩
      refine G_iconst 1 d_cX9_isLetter_12 (by decide +kernel) ?_
      refine G_goto 17 d_cX9_isLetter_13 (by decide +kernel) ?_
      exact G_zret FieldType.boolean d_cX9_isLetter_17 rfl rfl (Nat.le_of_ble_eq_true rfl) (Nat.le_of_ble_eq_true rfl) (Or.inr (Or.inr (⟨rfl, rfl, r311, r314⟩)))
abbrev ky_326_Signs_skipBlanks : gKey := (cX9_skipBlanks, 5, yX9_skipBlanks.cls, (some FieldType.int), [], yX9_skipBlanks.name, fun _ _ => True)
abbrev po_326_Signs_skipBlanks (I : FieldType → ClassId) (q315 : Nat) (q316 : Nat) (q317 : Nat) (p318 : Int32) (p319 : Int32) (p320 : Int32) (p321 : Int32) (p322 : Int32) (p323 : Int32) (f324 : Nat → Int32) : Option Value → va_W → Prop := fun r w => ∃ (o457 : Int32), r = some (.int o457) ∧ w = [(q315, .inr (14, [.ref q316, .int p319, .int p320, .int p321, .int p322])), (q316, .inr (15, [.ref q317, .int p323])), (q317, .inl (I .byte, 8192, .inl f324))] ∧ gB o457 (-2147483648) 8192
set_option maxRecDepth 100000 in
set_option maxHeartbeats 4000000 in
theorem ct_326_Signs_skipBlanks (l : Launch) (hl0 : l.stackTraces = false) (D : va_G) (I : FieldType → ClassId) (q315 : Nat) (q316 : Nat) (q317 : Nat) (p318 : Int32) (p319 : Int32) (p320 : Int32) (p321 : Int32) (p322 : Int32) (p323 : Int32) (f324 : Nat → Int32) (bp323 : gB p323 0 8192) (bf324 : gF f324 (-128) 127) (x325 : (p319.toInt ≠ 5 ∨ (0 ≤ p320.toInt ∧ p320.toInt ≤ 13))) : Ct (gV D I) l yX9_skipBlanks cX9_skipBlanks 5 (some FieldType.int) 1 21 0 0 [.ref q315, .int p318] [(q315, .inr (14, [.ref q316, .int p319, .int p320, .int p321, .int p322])), (q316, .inr (15, [.ref q317, .int p323])), (q317, .inl (I .byte, 8192, .inl f324))] (po_326_Signs_skipBlanks I q315 q316 q317 p318 p319 p320 p321 p322 p323 f324) gN := by
  refine Ct_of hl0 (by decide) (Nat.le_of_ble_eq_true rfl) ?_
  have bp318 := gB_any p318
  have bp319 := gB_any p319
  have bp320 := gB_any p320
  have bp321 := gB_any p321
  have bp322 := gB_any p322
  refine G_iconst 0 d_cX9_skipBlanks_0 (by decide +kernel) ?_
  refine G_istore_n (L' := [(2, .int 0), (0, .ref q315), (1, .int p318)]) d_cX9_skipBlanks_1 (Nat.le_of_ble_eq_true rfl) rfl ?_
  refine G_iload_n 2 d_cX9_skipBlanks_2 rfl ?_
  refine G_istore_n (L' := [(3, .int p318), (2, .int 0), (0, .ref q315), (1, .int p318)]) d_cX9_skipBlanks_3 (Nat.le_of_ble_eq_true rfl) rfl ?_
  have hlp4_410 : ∀ (n4_410 : Nat) (g409 : Int32) (g410 : Int32), gB g409 (-2147483648) 2147483647 → gB g410 0 1 → ((2147483648 : Int) - g409.toInt).toNat < n4_410 → G (gV D I) l (gRm 1 21 0 0) (gM (gV D I) (po_326_Signs_skipBlanks I q315 q316 q317 p318 p319 p320 p321 p322 p323 f324) gN 0 0) ky_326_Signs_skipBlanks 4 [(3, .int g409), (2, .int g410), (0, .ref q315), (1, .int p318)] [] [(q315, .inr (14, [.ref q316, .int p319, .int p320, .int p321, .int p322])), (q316, .inr (15, [.ref q317, .int p323])), (q317, .inl (I .byte, 8192, .inl f324))] 0 0 := by
    intro n4_410
    induction n4_410 with
    | zero => intro g409 g410 bg409 bg410 hm4_410; exact absurd hm4_410 (Nat.not_lt_zero _)
    | succ n4_410 ih4_410 =>
      intro g409 g410 bg409 bg410 hm4_410
      refine G_iload_n 0 d_cX9_skipBlanks_4 rfl ?_
      refine G_aload_n 2 d_cX9_skipBlanks_5 rfl ?_
      refine G_getf 0 0 d_cX9_skipBlanks_6 rfl (gk_X9 D I) (Nat.le_of_ble_eq_true rfl) w_1_79 rfl ?_
      refine G_callV (As := []) (wr := [(q315, .inr (14, [.ref q316, .int p319, .int p320, .int p321, .int p322]))]) (gV_ok D I) (ct_5_Tape_size l hl0 D I q316 q317 p323 f324 bp323 bf324) d_cX9_skipBlanks_9 ⟨w_3_16, w_1_2, w_3_19, by decide, rfl, (Nat.le_of_ble_eq_true rfl), (Nat.le_of_ble_eq_true rfl)⟩ w_3_17 w_3_18 1 rfl rfl [1, 2] [0] rfl rfl rfl rfl (by decide) (Nat.le_of_ble_eq_true rfl) (Nat.le_of_ble_eq_true rfl) (Nat.le_of_ble_eq_true rfl) (fun r w hp => ?_) (fun _ _ _ z => z.elim)
      obtain ⟨rfl, rfl⟩ := hp
      change G _ _ _ _ _ _ _ (.int p323 :: _) _ _ _
      refine G_ws (ws' := [(q315, .inr (14, [.ref q316, .int p319, .int p320, .int p321, .int p322])), (q316, .inr (15, [.ref q317, .int p323])), (q317, .inl (I .byte, 8192, .inl f324))]) (cs' := 0) (sl' := 0) rfl rfl rfl ?_
      refine G_icmp_ge 89 d_cX9_skipBlanks_12 (by decide +kernel) (fun hc411 => ?_) (fun hc411 => ?_)
      · have r412 : p323.toInt ≤ g409.toInt := gC_le hc411
        have bg409' : gB g409 0 2147483647 := ⟨by omega, by omega⟩
        refine G_aload_n 2 d_cX9_skipBlanks_89 rfl ?_
        refine G_getf 0 0 d_cX9_skipBlanks_90 rfl (gk_X9 D I) (Nat.le_of_ble_eq_true rfl) w_1_79 rfl ?_
        refine G_callV (As := []) (wr := [(q315, .inr (14, [.ref q316, .int p319, .int p320, .int p321, .int p322]))]) (gV_ok D I) (ct_5_Tape_size l hl0 D I q316 q317 p323 f324 bp323 bf324) d_cX9_skipBlanks_93 ⟨w_3_16, w_1_2, w_3_19, by decide, rfl, (Nat.le_of_ble_eq_true rfl), (Nat.le_of_ble_eq_true rfl)⟩ w_3_17 w_3_18 1 rfl rfl [1, 2] [0] rfl rfl rfl rfl (by decide) (Nat.le_of_ble_eq_true rfl) (Nat.le_of_ble_eq_true rfl) (Nat.le_of_ble_eq_true rfl) (fun r w hp => ?_) (fun _ _ _ z => z.elim)
        obtain ⟨rfl, rfl⟩ := hp
        change G _ _ _ _ _ _ _ (.int p323 :: _) _ _ _
        refine G_ws (ws' := [(q315, .inr (14, [.ref q316, .int p319, .int p320, .int p321, .int p322])), (q316, .inr (15, [.ref q317, .int p323])), (q317, .inl (I .byte, 8192, .inl f324))]) (cs' := 0) (sl' := 0) rfl rfl rfl ?_
        exact G_iret d_cX9_skipBlanks_96 rfl (Nat.le_of_ble_eq_true rfl) (Nat.le_of_ble_eq_true rfl) ⟨p323, rfl, rfl, (gB_w bp323 (by decide) (by decide))⟩
      · have r413 : g409.toInt < p323.toInt := gC_nle hc411
        have bg409' : gB g409 (-2147483648) 8191 := ⟨by omega, by omega⟩
        refine G_aload_n 2 d_cX9_skipBlanks_15 rfl ?_
        refine G_getf 0 0 d_cX9_skipBlanks_16 rfl (gk_X9 D I) (Nat.le_of_ble_eq_true rfl) w_1_79 rfl ?_
        refine G_iload_n 0 d_cX9_skipBlanks_19 rfl ?_
        refine G_callV (As := [.int g409]) (wr := [(q315, .inr (14, [.ref q316, .int p319, .int p320, .int p321, .int p322]))]) (gV_ok D I) (ct_30_Tape_byteAt l hl0 D I q316 q317 g409 p323 f324 bp323 bf324) d_cX9_skipBlanks_20 ⟨w_3_20, w_1_2, w_3_23, by decide, rfl, (Nat.le_of_ble_eq_true rfl), (Nat.le_of_ble_eq_true rfl)⟩ w_3_21 w_3_22 1 rfl rfl [1, 2] [0] rfl rfl rfl rfl (by decide) (Nat.le_of_ble_eq_true rfl) (Nat.le_of_ble_eq_true rfl) (Nat.le_of_ble_eq_true rfl) (fun r w hp => ?_) (fun _ _ _ z => z.elim)
        rcases hp with ⟨rfl, rfl, r414⟩ | ⟨rfl, rfl, r415, r416⟩ | ⟨z417, rfl, rfl, r418, r419, r420⟩
        · have bg409'' : gB g409 (-2147483648) (-1) := ⟨by omega, by omega⟩
          change G _ _ _ _ _ _ _ (.int (-1) :: _) _ _ _
          refine G_ws (ws' := [(q315, .inr (14, [.ref q316, .int p319, .int p320, .int p321, .int p322])), (q316, .inr (15, [.ref q317, .int p323])), (q317, .inl (I .byte, 8192, .inl f324))]) (cs' := 0) (sl' := 0) rfl rfl rfl ?_
          refine G_istore (L' := [(4, .int (-1)), (3, .int g409), (2, .int g410), (0, .ref q315), (1, .int p318)]) d_cX9_skipBlanks_23 (Nat.le_of_ble_eq_true rfl) rfl ?_
          refine G_iload 0 d_cX9_skipBlanks_25 rfl ?_
          refine G_bipush 10 d_cX9_skipBlanks_27 (by decide +kernel) ?_
          refine G_icmp_eq 47 d_cX9_skipBlanks_29 (by decide +kernel) (fun hc => absurd hc (by decide)) (fun _ => ?_)
          refine G_iload_n 2 d_cX9_skipBlanks_32 rfl ?_
          refine G_if_ne 43 d_cX9_skipBlanks_33 (by decide +kernel) (fun hc421 => ?_) (fun hc421 => ?_)
          · have r422 : g410.toInt ≠ 0 := gj_neq hc421 (show Int32.toInt 0 = 0 by decide)
            have bg410' : gB g410 1 1 := ⟨by omega, by omega⟩
            refine G_iconst 1 d_cX9_skipBlanks_43 (by decide +kernel) ?_
            refine G_goto 48 d_cX9_skipBlanks_44 (by decide +kernel) ?_
            refine G_istore_n (L' := [(2, .int 1), (4, .int (-1)), (3, .int g409), (0, .ref q315), (1, .int p318)]) d_cX9_skipBlanks_48 (Nat.le_of_ble_eq_true rfl) rfl ?_
            refine G_iload_n 0 d_cX9_skipBlanks_49 rfl ?_
            refine G_if_ne 83 d_cX9_skipBlanks_50 (by decide +kernel) (fun _ => ?_) (fun hc => absurd hc (by decide))
            obtain ⟨z423, hz423⟩ : ∃ z : Int32, z = g409 + Int32.ofInt 1 := ⟨_, rfl⟩
            have ez423 : z423.toInt = g409.toInt + 1 := gI_inc hz423 (by decide) bg409'' (by decide) (by decide)
            have bz423 : gB z423 (-2147483647) 0 := ⟨by omega, by omega⟩
            refine G_iinc (L' := [(3, .int z423), (2, .int 1), (4, .int (-1)), (0, .ref q315), (1, .int p318)]) z423 2 d_cX9_skipBlanks_83 rfl hz423.symm (Nat.le_of_ble_eq_true rfl) rfl ?_
            refine G_goto 4 d_cX9_skipBlanks_86 (by decide +kernel) ?_
            refine G_lv (L' := [(3, .int z423), (2, .int 1), (0, .ref q315), (1, .int p318)]) [0, 1, 3, 4] rfl ?_
            exact ih4_410 z423 1 (gB_w bz423 (by decide) (by decide)) (gB_w (gBl (show Int32.toInt 1 = 1 by decide)) (by decide) (by decide)) (by have qa0 : Int32.toInt 1 = 1 := (by decide); omega)
          · have r424 : g410.toInt = 0 := gj_eq hc421 (show Int32.toInt 0 = 0 by decide)
            have bg410' : gB g410 0 0 := ⟨by omega, by omega⟩
            refine G_iload 0 d_cX9_skipBlanks_36 rfl ?_
            refine G_bipush 59 d_cX9_skipBlanks_38 (by decide +kernel) ?_
            refine G_icmp_ne 47 d_cX9_skipBlanks_40 (by decide +kernel) (fun _ => ?_) (fun hc => absurd hc (by decide))
            refine G_iconst 0 d_cX9_skipBlanks_47 (by decide +kernel) ?_
            refine G_istore_n (L' := [(2, .int 0), (4, .int (-1)), (3, .int g409), (0, .ref q315), (1, .int p318)]) d_cX9_skipBlanks_48 (Nat.le_of_ble_eq_true rfl) rfl ?_
            refine G_iload_n 0 d_cX9_skipBlanks_49 rfl ?_
            refine G_if_ne 83 d_cX9_skipBlanks_50 (by decide +kernel) (fun hc => absurd hc (by decide)) (fun _ => ?_)
            refine G_iload 1 d_cX9_skipBlanks_53 rfl ?_
            refine G_bipush 9 d_cX9_skipBlanks_55 (by decide +kernel) ?_
            refine G_icmp_eq 83 d_cX9_skipBlanks_57 (by decide +kernel) (fun hc => absurd hc (by decide)) (fun _ => ?_)
            refine G_iload 1 d_cX9_skipBlanks_60 rfl ?_
            refine G_bipush 10 d_cX9_skipBlanks_62 (by decide +kernel) ?_
            refine G_icmp_eq 83 d_cX9_skipBlanks_64 (by decide +kernel) (fun hc => absurd hc (by decide)) (fun _ => ?_)
            refine G_iload 1 d_cX9_skipBlanks_67 rfl ?_
            refine G_bipush 13 d_cX9_skipBlanks_69 (by decide +kernel) ?_
            refine G_icmp_eq 83 d_cX9_skipBlanks_71 (by decide +kernel) (fun hc => absurd hc (by decide)) (fun _ => ?_)
            refine G_iload 1 d_cX9_skipBlanks_74 rfl ?_
            refine G_bipush 32 d_cX9_skipBlanks_76 (by decide +kernel) ?_
            refine G_icmp_eq 83 d_cX9_skipBlanks_78 (by decide +kernel) (fun hc => absurd hc (by decide)) (fun _ => ?_)
            refine G_iload_n 2 d_cX9_skipBlanks_81 rfl ?_
            exact G_iret d_cX9_skipBlanks_82 rfl (Nat.le_of_ble_eq_true rfl) (Nat.le_of_ble_eq_true rfl) ⟨g409, rfl, rfl, (gB_w bg409'' (by decide) (by decide))⟩
        · have bg409'' : gB g409 0 8191 := ⟨by omega, by omega⟩
          have bp323' : gB p323 0 8191 := ⟨by omega, by omega⟩
          change G _ _ _ _ _ _ _ (.int (-1) :: _) _ _ _
          refine G_ws (ws' := [(q315, .inr (14, [.ref q316, .int p319, .int p320, .int p321, .int p322])), (q316, .inr (15, [.ref q317, .int p323])), (q317, .inl (I .byte, 8192, .inl f324))]) (cs' := 0) (sl' := 0) rfl rfl rfl ?_
          refine G_istore (L' := [(4, .int (-1)), (3, .int g409), (2, .int g410), (0, .ref q315), (1, .int p318)]) d_cX9_skipBlanks_23 (Nat.le_of_ble_eq_true rfl) rfl ?_
          refine G_iload 0 d_cX9_skipBlanks_25 rfl ?_
          refine G_bipush 10 d_cX9_skipBlanks_27 (by decide +kernel) ?_
          refine G_icmp_eq 47 d_cX9_skipBlanks_29 (by decide +kernel) (fun hc => absurd hc (by decide)) (fun _ => ?_)
          refine G_iload_n 2 d_cX9_skipBlanks_32 rfl ?_
          refine G_if_ne 43 d_cX9_skipBlanks_33 (by decide +kernel) (fun hc425 => ?_) (fun hc425 => ?_)
          · have r426 : g410.toInt ≠ 0 := gj_neq hc425 (show Int32.toInt 0 = 0 by decide)
            have bg410' : gB g410 1 1 := ⟨by omega, by omega⟩
            refine G_iconst 1 d_cX9_skipBlanks_43 (by decide +kernel) ?_
            refine G_goto 48 d_cX9_skipBlanks_44 (by decide +kernel) ?_
            refine G_istore_n (L' := [(2, .int 1), (4, .int (-1)), (3, .int g409), (0, .ref q315), (1, .int p318)]) d_cX9_skipBlanks_48 (Nat.le_of_ble_eq_true rfl) rfl ?_
            refine G_iload_n 0 d_cX9_skipBlanks_49 rfl ?_
            refine G_if_ne 83 d_cX9_skipBlanks_50 (by decide +kernel) (fun _ => ?_) (fun hc => absurd hc (by decide))
            obtain ⟨z427, hz427⟩ : ∃ z : Int32, z = g409 + Int32.ofInt 1 := ⟨_, rfl⟩
            have ez427 : z427.toInt = g409.toInt + 1 := gI_inc hz427 (by decide) bg409'' (by decide) (by decide)
            have bz427 : gB z427 1 8192 := ⟨by omega, by omega⟩
            refine G_iinc (L' := [(3, .int z427), (2, .int 1), (4, .int (-1)), (0, .ref q315), (1, .int p318)]) z427 2 d_cX9_skipBlanks_83 rfl hz427.symm (Nat.le_of_ble_eq_true rfl) rfl ?_
            refine G_goto 4 d_cX9_skipBlanks_86 (by decide +kernel) ?_
            refine G_lv (L' := [(3, .int z427), (2, .int 1), (0, .ref q315), (1, .int p318)]) [0, 1, 3, 4] rfl ?_
            exact ih4_410 z427 1 (gB_w bz427 (by decide) (by decide)) (gB_w (gBl (show Int32.toInt 1 = 1 by decide)) (by decide) (by decide)) (by have qa0 : Int32.toInt 1 = 1 := (by decide); omega)
          · have r428 : g410.toInt = 0 := gj_eq hc425 (show Int32.toInt 0 = 0 by decide)
            have bg410' : gB g410 0 0 := ⟨by omega, by omega⟩
            refine G_iload 0 d_cX9_skipBlanks_36 rfl ?_
            refine G_bipush 59 d_cX9_skipBlanks_38 (by decide +kernel) ?_
            refine G_icmp_ne 47 d_cX9_skipBlanks_40 (by decide +kernel) (fun _ => ?_) (fun hc => absurd hc (by decide))
            refine G_iconst 0 d_cX9_skipBlanks_47 (by decide +kernel) ?_
            refine G_istore_n (L' := [(2, .int 0), (4, .int (-1)), (3, .int g409), (0, .ref q315), (1, .int p318)]) d_cX9_skipBlanks_48 (Nat.le_of_ble_eq_true rfl) rfl ?_
            refine G_iload_n 0 d_cX9_skipBlanks_49 rfl ?_
            refine G_if_ne 83 d_cX9_skipBlanks_50 (by decide +kernel) (fun hc => absurd hc (by decide)) (fun _ => ?_)
            refine G_iload 1 d_cX9_skipBlanks_53 rfl ?_
            refine G_bipush 9 d_cX9_skipBlanks_55 (by decide +kernel) ?_
            refine G_icmp_eq 83 d_cX9_skipBlanks_57 (by decide +kernel) (fun hc => absurd hc (by decide)) (fun _ => ?_)
            refine G_iload 1 d_cX9_skipBlanks_60 rfl ?_
            refine G_bipush 10 d_cX9_skipBlanks_62 (by decide +kernel) ?_
            refine G_icmp_eq 83 d_cX9_skipBlanks_64 (by decide +kernel) (fun hc => absurd hc (by decide)) (fun _ => ?_)
            refine G_iload 1 d_cX9_skipBlanks_67 rfl ?_
            refine G_bipush 13 d_cX9_skipBlanks_69 (by decide +kernel) ?_
            refine G_icmp_eq 83 d_cX9_skipBlanks_71 (by decide +kernel) (fun hc => absurd hc (by decide)) (fun _ => ?_)
            refine G_iload 1 d_cX9_skipBlanks_74 rfl ?_
            refine G_bipush 32 d_cX9_skipBlanks_76 (by decide +kernel) ?_
            refine G_icmp_eq 83 d_cX9_skipBlanks_78 (by decide +kernel) (fun hc => absurd hc (by decide)) (fun _ => ?_)
            refine G_iload_n 2 d_cX9_skipBlanks_81 rfl ?_
            exact G_iret d_cX9_skipBlanks_82 rfl (Nat.le_of_ble_eq_true rfl) (Nat.le_of_ble_eq_true rfl) ⟨g409, rfl, rfl, (gB_w bg409'' (by decide) (by decide))⟩
        · have bg409'' : gB g409 0 8191 := ⟨by omega, by omega⟩
          have bp323' : gB p323 1 8192 := ⟨by omega, by omega⟩
          change G _ _ _ _ _ _ _ (.int z417 :: _) _ _ _
          refine G_ws (ws' := [(q315, .inr (14, [.ref q316, .int p319, .int p320, .int p321, .int p322])), (q316, .inr (15, [.ref q317, .int p323])), (q317, .inl (I .byte, 8192, .inl f324))]) (cs' := 0) (sl' := 0) rfl rfl rfl ?_
          refine G_istore (L' := [(4, .int z417), (3, .int g409), (2, .int g410), (0, .ref q315), (1, .int p318)]) d_cX9_skipBlanks_23 (Nat.le_of_ble_eq_true rfl) rfl ?_
          refine G_iload 0 d_cX9_skipBlanks_25 rfl ?_
          refine G_bipush 10 d_cX9_skipBlanks_27 (by decide +kernel) ?_
          refine G_icmp_eq 47 d_cX9_skipBlanks_29 (by decide +kernel) (fun hc429 => ?_) (fun hc429 => ?_)
          · have r430 : z417.toInt = 10 := gj_eq hc429 (show Int32.toInt 10 = 10 by decide)
            have r420' : gB z417 10 10 := ⟨by omega, by omega⟩
            refine G_iconst 0 d_cX9_skipBlanks_47 (by decide +kernel) ?_
            refine G_istore_n (L' := [(2, .int 0), (4, .int z417), (3, .int g409), (0, .ref q315), (1, .int p318)]) d_cX9_skipBlanks_48 (Nat.le_of_ble_eq_true rfl) rfl ?_
            refine G_iload_n 0 d_cX9_skipBlanks_49 rfl ?_
            refine G_if_ne 83 d_cX9_skipBlanks_50 (by decide +kernel) (fun hc => absurd hc (by decide)) (fun _ => ?_)
            refine G_iload 1 d_cX9_skipBlanks_53 rfl ?_
            refine G_bipush 9 d_cX9_skipBlanks_55 (by decide +kernel) ?_
            refine G_icmp_eq 83 d_cX9_skipBlanks_57 (by decide +kernel) (fun hc => absurd (show False by have := gj_eq hc (show Int32.toInt 9 = 9 by decide); omega) not_false) (fun _ => ?_)
            refine G_iload 1 d_cX9_skipBlanks_60 rfl ?_
            refine G_bipush 10 d_cX9_skipBlanks_62 (by decide +kernel) ?_
            refine G_icmp_eq 83 d_cX9_skipBlanks_64 (by decide +kernel) (fun _ => ?_) (fun hc => absurd (show False by have := gj_neq hc (show Int32.toInt 10 = 10 by decide); omega) not_false)
            obtain ⟨z431, hz431⟩ : ∃ z : Int32, z = g409 + Int32.ofInt 1 := ⟨_, rfl⟩
            have ez431 : z431.toInt = g409.toInt + 1 := gI_inc hz431 (by decide) bg409'' (by decide) (by decide)
            have bz431 : gB z431 1 8192 := ⟨by omega, by omega⟩
            refine G_iinc (L' := [(3, .int z431), (2, .int 0), (4, .int z417), (0, .ref q315), (1, .int p318)]) z431 2 d_cX9_skipBlanks_83 rfl hz431.symm (Nat.le_of_ble_eq_true rfl) rfl ?_
            refine G_goto 4 d_cX9_skipBlanks_86 (by decide +kernel) ?_
            refine G_lv (L' := [(3, .int z431), (2, .int 0), (0, .ref q315), (1, .int p318)]) [0, 1, 3, 4] rfl ?_
            exact ih4_410 z431 0 (gB_w bz431 (by decide) (by decide)) (gB_w (gBl (show Int32.toInt 0 = 0 by decide)) (by decide) (by decide)) (by have qa0 : Int32.toInt 0 = 0 := (by decide); omega)
          · have r432 : z417.toInt ≠ 10 := gj_neq hc429 (show Int32.toInt 10 = 10 by decide)
            refine G_iload_n 2 d_cX9_skipBlanks_32 rfl ?_
            refine G_if_ne 43 d_cX9_skipBlanks_33 (by decide +kernel) (fun hc433 => ?_) (fun hc433 => ?_)
            · have r434 : g410.toInt ≠ 0 := gj_neq hc433 (show Int32.toInt 0 = 0 by decide)
              have bg410' : gB g410 1 1 := ⟨by omega, by omega⟩
              refine G_iconst 1 d_cX9_skipBlanks_43 (by decide +kernel) ?_
              refine G_goto 48 d_cX9_skipBlanks_44 (by decide +kernel) ?_
              refine G_istore_n (L' := [(2, .int 1), (4, .int z417), (3, .int g409), (0, .ref q315), (1, .int p318)]) d_cX9_skipBlanks_48 (Nat.le_of_ble_eq_true rfl) rfl ?_
              refine G_iload_n 0 d_cX9_skipBlanks_49 rfl ?_
              refine G_if_ne 83 d_cX9_skipBlanks_50 (by decide +kernel) (fun _ => ?_) (fun hc => absurd hc (by decide))
              obtain ⟨z435, hz435⟩ : ∃ z : Int32, z = g409 + Int32.ofInt 1 := ⟨_, rfl⟩
              have ez435 : z435.toInt = g409.toInt + 1 := gI_inc hz435 (by decide) bg409'' (by decide) (by decide)
              have bz435 : gB z435 1 8192 := ⟨by omega, by omega⟩
              refine G_iinc (L' := [(3, .int z435), (2, .int 1), (4, .int z417), (0, .ref q315), (1, .int p318)]) z435 2 d_cX9_skipBlanks_83 rfl hz435.symm (Nat.le_of_ble_eq_true rfl) rfl ?_
              refine G_goto 4 d_cX9_skipBlanks_86 (by decide +kernel) ?_
              refine G_lv (L' := [(3, .int z435), (2, .int 1), (0, .ref q315), (1, .int p318)]) [0, 1, 3, 4] rfl ?_
              exact ih4_410 z435 1 (gB_w bz435 (by decide) (by decide)) (gB_w (gBl (show Int32.toInt 1 = 1 by decide)) (by decide) (by decide)) (by have qa0 : Int32.toInt 1 = 1 := (by decide); omega)
            · have r436 : g410.toInt = 0 := gj_eq hc433 (show Int32.toInt 0 = 0 by decide)
              have bg410' : gB g410 0 0 := ⟨by omega, by omega⟩
              refine G_iload 0 d_cX9_skipBlanks_36 rfl ?_
              refine G_bipush 59 d_cX9_skipBlanks_38 (by decide +kernel) ?_
              refine G_icmp_ne 47 d_cX9_skipBlanks_40 (by decide +kernel) (fun hc437 => ?_) (fun hc437 => ?_)
              · have r438 : z417.toInt ≠ 59 := gj_neq hc437 (show Int32.toInt 59 = 59 by decide)
                refine G_iconst 0 d_cX9_skipBlanks_47 (by decide +kernel) ?_
                refine G_istore_n (L' := [(2, .int 0), (4, .int z417), (3, .int g409), (0, .ref q315), (1, .int p318)]) d_cX9_skipBlanks_48 (Nat.le_of_ble_eq_true rfl) rfl ?_
                refine G_iload_n 0 d_cX9_skipBlanks_49 rfl ?_
                refine G_if_ne 83 d_cX9_skipBlanks_50 (by decide +kernel) (fun hc => absurd hc (by decide)) (fun _ => ?_)
                refine G_iload 1 d_cX9_skipBlanks_53 rfl ?_
                refine G_bipush 9 d_cX9_skipBlanks_55 (by decide +kernel) ?_
                refine G_icmp_eq 83 d_cX9_skipBlanks_57 (by decide +kernel) (fun hc439 => ?_) (fun hc439 => ?_)
                · have r440 : z417.toInt = 9 := gj_eq hc439 (show Int32.toInt 9 = 9 by decide)
                  have r420' : gB z417 9 9 := ⟨by omega, by omega⟩
                  obtain ⟨z441, hz441⟩ : ∃ z : Int32, z = g409 + Int32.ofInt 1 := ⟨_, rfl⟩
                  have ez441 : z441.toInt = g409.toInt + 1 := gI_inc hz441 (by decide) bg409'' (by decide) (by decide)
                  have bz441 : gB z441 1 8192 := ⟨by omega, by omega⟩
                  refine G_iinc (L' := [(3, .int z441), (2, .int 0), (4, .int z417), (0, .ref q315), (1, .int p318)]) z441 2 d_cX9_skipBlanks_83 rfl hz441.symm (Nat.le_of_ble_eq_true rfl) rfl ?_
                  refine G_goto 4 d_cX9_skipBlanks_86 (by decide +kernel) ?_
                  refine G_lv (L' := [(3, .int z441), (2, .int 0), (0, .ref q315), (1, .int p318)]) [0, 1, 3, 4] rfl ?_
                  exact ih4_410 z441 0 (gB_w bz441 (by decide) (by decide)) (gB_w (gBl (show Int32.toInt 0 = 0 by decide)) (by decide) (by decide)) (by have qa0 : Int32.toInt 0 = 0 := (by decide); omega)
                · have r442 : z417.toInt ≠ 9 := gj_neq hc439 (show Int32.toInt 9 = 9 by decide)
                  refine G_iload 1 d_cX9_skipBlanks_60 rfl ?_
                  refine G_bipush 10 d_cX9_skipBlanks_62 (by decide +kernel) ?_
                  refine G_icmp_eq 83 d_cX9_skipBlanks_64 (by decide +kernel) (fun hc443 => ?_) (fun hc443 => ?_)
                  · have r444 : z417.toInt = 10 := gj_eq hc443 (show Int32.toInt 10 = 10 by decide)
                    have r420' : gB z417 10 10 := ⟨by omega, by omega⟩
                    obtain ⟨z445, hz445⟩ : ∃ z : Int32, z = g409 + Int32.ofInt 1 := ⟨_, rfl⟩
                    have ez445 : z445.toInt = g409.toInt + 1 := gI_inc hz445 (by decide) bg409'' (by decide) (by decide)
                    have bz445 : gB z445 1 8192 := ⟨by omega, by omega⟩
                    refine G_iinc (L' := [(3, .int z445), (2, .int 0), (4, .int z417), (0, .ref q315), (1, .int p318)]) z445 2 d_cX9_skipBlanks_83 rfl hz445.symm (Nat.le_of_ble_eq_true rfl) rfl ?_
                    refine G_goto 4 d_cX9_skipBlanks_86 (by decide +kernel) ?_
                    refine G_lv (L' := [(3, .int z445), (2, .int 0), (0, .ref q315), (1, .int p318)]) [0, 1, 3, 4] rfl ?_
                    exact ih4_410 z445 0 (gB_w bz445 (by decide) (by decide)) (gB_w (gBl (show Int32.toInt 0 = 0 by decide)) (by decide) (by decide)) (by have qa0 : Int32.toInt 0 = 0 := (by decide); omega)
                  · have r446 : z417.toInt ≠ 10 := gj_neq hc443 (show Int32.toInt 10 = 10 by decide)
                    refine G_iload 1 d_cX9_skipBlanks_67 rfl ?_
                    refine G_bipush 13 d_cX9_skipBlanks_69 (by decide +kernel) ?_
                    refine G_icmp_eq 83 d_cX9_skipBlanks_71 (by decide +kernel) (fun hc447 => ?_) (fun hc447 => ?_)
                    · have r448 : z417.toInt = 13 := gj_eq hc447 (show Int32.toInt 13 = 13 by decide)
                      have r420' : gB z417 13 13 := ⟨by omega, by omega⟩
                      obtain ⟨z449, hz449⟩ : ∃ z : Int32, z = g409 + Int32.ofInt 1 := ⟨_, rfl⟩
                      have ez449 : z449.toInt = g409.toInt + 1 := gI_inc hz449 (by decide) bg409'' (by decide) (by decide)
                      have bz449 : gB z449 1 8192 := ⟨by omega, by omega⟩
                      refine G_iinc (L' := [(3, .int z449), (2, .int 0), (4, .int z417), (0, .ref q315), (1, .int p318)]) z449 2 d_cX9_skipBlanks_83 rfl hz449.symm (Nat.le_of_ble_eq_true rfl) rfl ?_
                      refine G_goto 4 d_cX9_skipBlanks_86 (by decide +kernel) ?_
                      refine G_lv (L' := [(3, .int z449), (2, .int 0), (0, .ref q315), (1, .int p318)]) [0, 1, 3, 4] rfl ?_
                      exact ih4_410 z449 0 (gB_w bz449 (by decide) (by decide)) (gB_w (gBl (show Int32.toInt 0 = 0 by decide)) (by decide) (by decide)) (by have qa0 : Int32.toInt 0 = 0 := (by decide); omega)
                    · have r450 : z417.toInt ≠ 13 := gj_neq hc447 (show Int32.toInt 13 = 13 by decide)
                      refine G_iload 1 d_cX9_skipBlanks_74 rfl ?_
                      refine G_bipush 32 d_cX9_skipBlanks_76 (by decide +kernel) ?_
                      refine G_icmp_eq 83 d_cX9_skipBlanks_78 (by decide +kernel) (fun hc451 => ?_) (fun hc451 => ?_)
                      · have r452 : z417.toInt = 32 := gj_eq hc451 (show Int32.toInt 32 = 32 by decide)
                        have r420' : gB z417 32 32 := ⟨by omega, by omega⟩
                        obtain ⟨z453, hz453⟩ : ∃ z : Int32, z = g409 + Int32.ofInt 1 := ⟨_, rfl⟩
                        have ez453 : z453.toInt = g409.toInt + 1 := gI_inc hz453 (by decide) bg409'' (by decide) (by decide)
                        have bz453 : gB z453 1 8192 := ⟨by omega, by omega⟩
                        refine G_iinc (L' := [(3, .int z453), (2, .int 0), (4, .int z417), (0, .ref q315), (1, .int p318)]) z453 2 d_cX9_skipBlanks_83 rfl hz453.symm (Nat.le_of_ble_eq_true rfl) rfl ?_
                        refine G_goto 4 d_cX9_skipBlanks_86 (by decide +kernel) ?_
                        refine G_lv (L' := [(3, .int z453), (2, .int 0), (0, .ref q315), (1, .int p318)]) [0, 1, 3, 4] rfl ?_
                        exact ih4_410 z453 0 (gB_w bz453 (by decide) (by decide)) (gB_w (gBl (show Int32.toInt 0 = 0 by decide)) (by decide) (by decide)) (by have qa0 : Int32.toInt 0 = 0 := (by decide); omega)
                      · have r454 : z417.toInt ≠ 32 := gj_neq hc451 (show Int32.toInt 32 = 32 by decide)
                        refine G_iload_n 2 d_cX9_skipBlanks_81 rfl ?_
                        exact G_iret d_cX9_skipBlanks_82 rfl (Nat.le_of_ble_eq_true rfl) (Nat.le_of_ble_eq_true rfl) ⟨g409, rfl, rfl, (gB_w bg409'' (by decide) (by decide))⟩
              · have r455 : z417.toInt = 59 := gj_eq hc437 (show Int32.toInt 59 = 59 by decide)
                have r420' : gB z417 59 59 := ⟨by omega, by omega⟩
                refine G_iconst 1 d_cX9_skipBlanks_43 (by decide +kernel) ?_
                refine G_goto 48 d_cX9_skipBlanks_44 (by decide +kernel) ?_
                refine G_istore_n (L' := [(2, .int 1), (4, .int z417), (3, .int g409), (0, .ref q315), (1, .int p318)]) d_cX9_skipBlanks_48 (Nat.le_of_ble_eq_true rfl) rfl ?_
                refine G_iload_n 0 d_cX9_skipBlanks_49 rfl ?_
                refine G_if_ne 83 d_cX9_skipBlanks_50 (by decide +kernel) (fun _ => ?_) (fun hc => absurd hc (by decide))
                obtain ⟨z456, hz456⟩ : ∃ z : Int32, z = g409 + Int32.ofInt 1 := ⟨_, rfl⟩
                have ez456 : z456.toInt = g409.toInt + 1 := gI_inc hz456 (by decide) bg409'' (by decide) (by decide)
                have bz456 : gB z456 1 8192 := ⟨by omega, by omega⟩
                refine G_iinc (L' := [(3, .int z456), (2, .int 1), (4, .int z417), (0, .ref q315), (1, .int p318)]) z456 2 d_cX9_skipBlanks_83 rfl hz456.symm (Nat.le_of_ble_eq_true rfl) rfl ?_
                refine G_goto 4 d_cX9_skipBlanks_86 (by decide +kernel) ?_
                refine G_lv (L' := [(3, .int z456), (2, .int 1), (0, .ref q315), (1, .int p318)]) [0, 1, 3, 4] rfl ?_
                exact ih4_410 z456 1 (gB_w bz456 (by decide) (by decide)) (gB_w (gBl (show Int32.toInt 1 = 1 by decide)) (by decide) (by decide)) (by have qa0 : Int32.toInt 1 = 1 := (by decide); omega)
  exact hlp4_410 (((2147483648 : Int) - p318.toInt).toNat + 1) p318 0 bp318 (gB_w (gBl (show Int32.toInt 0 = 0 by decide)) (by decide) (by decide)) (Nat.lt_succ_self _)
abbrev ky_508_Math_min : gKey := (cJ9_min_f86c9, 4, yJ9_min_f86c9.cls, (some FieldType.long), [], yJ9_min_f86c9.name, fun _ _ => True)
abbrev po_508_Math_min (I : FieldType → ClassId) (pl506 : Int64) (pl507 : Int64) : Option Value → va_W → Prop := fun r w => ∃ (ol513 : Int64), r = some (.long ol513) ∧ w = []
set_option maxRecDepth 100000 in
set_option maxHeartbeats 4000000 in
theorem ct_508_Math_min (l : Launch) (hl0 : l.stackTraces = false) (D : va_G) (I : FieldType → ClassId) (pl506 : Int64) (pl507 : Int64)  : Ct (gV D I) l yJ9_min_f86c9 cJ9_min_f86c9 4 (some FieldType.long) 0 0 0 0 [.long pl506, .long pl507] [] (po_508_Math_min I pl506 pl507) gN := by
  refine Ct_ofF hl0 (by decide +kernel) (Nat.le_of_ble_eq_true rfl) ?_
  refine G_lload_n 0 d_cJ9_min_f86c9_0 rfl ?_
  refine G_lload_n 1 d_cJ9_min_f86c9_1 rfl ?_
  refine G_lcmp d_cJ9_min_f86c9_2 (G_nam fun z509 hz509 => ?_)
  have bz509 : gB z509 (-1) 1 := gB_cmp hz509
  refine G_if_gt 10 d_cJ9_min_f86c9_3 (by decide +kernel) (fun hc510 => ?_) (fun hc510 => ?_)
  · have r511 : 0 < z509.toInt := gj_ltL hc510 (show Int32.toInt 0 = 0 by decide)
    have bz509' : gB z509 1 1 := ⟨by omega, by omega⟩
    have lhc510 := gC_cmpS hz509 (by omega)
    refine G_lload_n 1 d_cJ9_min_f86c9_10 rfl ?_
    exact G_lret d_cJ9_min_f86c9_11 rfl (Nat.le_of_ble_eq_true rfl) (Nat.le_of_ble_eq_true rfl) ⟨pl507, rfl, rfl⟩
  · have r512 : z509.toInt ≤ 0 := gj_nltL hc510 (show Int32.toInt 0 = 0 by decide)
    have bz509' : gB z509 (-1) 0 := ⟨by omega, by omega⟩
    refine G_lload_n 0 d_cJ9_min_f86c9_6 rfl ?_
    refine G_goto 11 d_cJ9_min_f86c9_7 (by decide +kernel) ?_
    exact G_lret d_cJ9_min_f86c9_11 rfl (Nat.le_of_ble_eq_true rfl) (Nat.le_of_ble_eq_true rfl) ⟨pl506, rfl, rfl⟩
abbrev ky_469_Signs_takeDigits : gKey := (cX9_takeDigits, 5, yX9_takeDigits.cls, (some FieldType.long), [], yX9_takeDigits.name, fun _ _ => True)
abbrev po_469_Signs_takeDigits (I : FieldType → ClassId) (q458 : Nat) (q459 : Nat) (q460 : Nat) (p461 : Int32) (p462 : Int32) (p463 : Int32) (p464 : Int32) (p465 : Int32) (p466 : Int32) (f467 : Nat → Int32) : Option Value → va_W → Prop := fun r w => ∃ (ol612 : Int64) (o611 : Int32), r = some (.long ol612) ∧ w = [(q458, .inr (14, [.ref q459, .int p462, .int p463, .int p464, .int o611])), (q459, .inr (15, [.ref q460, .int p466])), (q460, .inl (I .byte, 8192, .inl f467))] ∧ gB o611 (-2147483648) 2147483647
set_option maxRecDepth 100000 in
set_option maxHeartbeats 4000000 in
theorem ct_469_Signs_takeDigits (l : Launch) (hl0 : l.stackTraces = false) (D : va_G) (I : FieldType → ClassId) (q458 : Nat) (q459 : Nat) (q460 : Nat) (p461 : Int32) (p462 : Int32) (p463 : Int32) (p464 : Int32) (p465 : Int32) (p466 : Int32) (f467 : Nat → Int32) (bp466 : gB p466 0 8192) (bf467 : gF f467 (-128) 127) (x468 : (p462.toInt ≠ 5 ∨ (0 ≤ p463.toInt ∧ p463.toInt ≤ 13))) : Ct (gV D I) l yX9_takeDigits cX9_takeDigits 5 (some FieldType.long) 1 23 0 0 [.ref q458, .int p461] [(q458, .inr (14, [.ref q459, .int p462, .int p463, .int p464, .int p465])), (q459, .inr (15, [.ref q460, .int p466])), (q460, .inl (I .byte, 8192, .inl f467))] (po_469_Signs_takeDigits I q458 q459 q460 p461 p462 p463 p464 p465 p466 f467) gN := by
  refine Ct_of hl0 (by decide) (Nat.le_of_ble_eq_true rfl) ?_
  have bp461 := gB_any p461
  have bp462 := gB_any p462
  have bp463 := gB_any p463
  have bp464 := gB_any p464
  have bp465 := gB_any p465
  refine G_lconst 0 d_cX9_takeDigits_0 rfl ?_
  refine G_lstore_n (L' := [(2, .long 0), (0, .ref q458), (1, .int p461)]) d_cX9_takeDigits_1 (Nat.le_of_ble_eq_true rfl) rfl ?_
  refine G_iload_n 2 d_cX9_takeDigits_2 rfl ?_
  refine G_istore (L' := [(4, .int p461), (2, .long 0), (0, .ref q458), (1, .int p461)]) d_cX9_takeDigits_3 (Nat.le_of_ble_eq_true rfl) rfl ?_
  have hlp5_567 : ∀ (n5_567 : Nat) (g566 : Int32) (gl567 : Int64), gB g566 (-2147483648) 2147483647 → ((2147483648 : Int) - g566.toInt).toNat < n5_567 → G (gV D I) l (gRm 1 23 0 0) (gM (gV D I) (po_469_Signs_takeDigits I q458 q459 q460 p461 p462 p463 p464 p465 p466 f467) gN 0 0) ky_469_Signs_takeDigits 5 [(4, .int g566), (2, .long gl567), (0, .ref q458), (1, .int p461)] [] [(q458, .inr (14, [.ref q459, .int p462, .int p463, .int p464, .int p465])), (q459, .inr (15, [.ref q460, .int p466])), (q460, .inl (I .byte, 8192, .inl f467))] 0 0 := by
    intro n5_567
    induction n5_567 with
    | zero => intro g566 gl567 bg566 hm5_567; exact absurd hm5_567 (Nat.not_lt_zero _)
    | succ n5_567 ih5_567 =>
      intro g566 gl567 bg566 hm5_567
      refine G_iload 0 d_cX9_takeDigits_5 rfl ?_
      refine G_aload_n 2 d_cX9_takeDigits_7 rfl ?_
      refine G_getf 0 0 d_cX9_takeDigits_8 rfl (gk_X9 D I) (Nat.le_of_ble_eq_true rfl) w_1_79 rfl ?_
      refine G_callV (As := []) (wr := [(q458, .inr (14, [.ref q459, .int p462, .int p463, .int p464, .int p465]))]) (gV_ok D I) (ct_5_Tape_size l hl0 D I q459 q460 p466 f467 bp466 bf467) d_cX9_takeDigits_11 ⟨w_3_16, w_1_2, w_3_19, by decide, rfl, (Nat.le_of_ble_eq_true rfl), (Nat.le_of_ble_eq_true rfl)⟩ w_3_17 w_3_18 1 rfl rfl [1, 2] [0] rfl rfl rfl rfl (by decide) (Nat.le_of_ble_eq_true rfl) (Nat.le_of_ble_eq_true rfl) (Nat.le_of_ble_eq_true rfl) (fun r w hp => ?_) (fun _ _ _ z => z.elim)
      obtain ⟨rfl, rfl⟩ := hp
      change G _ _ _ _ _ _ _ (.int p466 :: _) _ _ _
      refine G_ws (ws' := [(q458, .inr (14, [.ref q459, .int p462, .int p463, .int p464, .int p465])), (q459, .inr (15, [.ref q460, .int p466])), (q460, .inl (I .byte, 8192, .inl f467))]) (cs' := 0) (sl' := 0) rfl rfl rfl ?_
      refine G_icmp_ge 65 d_cX9_takeDigits_14 (by decide +kernel) (fun hc568 => ?_) (fun hc568 => ?_)
      · have r569 : p466.toInt ≤ g566.toInt := gC_le hc568
        have bg566' : gB g566 0 2147483647 := ⟨by omega, by omega⟩
        refine G_aload_n 2 d_cX9_takeDigits_65 rfl ?_
        refine G_iload 0 d_cX9_takeDigits_66 rfl ?_
        refine G_putf (ws' := [(q458, .inr (14, [.ref q459, .int p462, .int p463, .int p464, .int g566])), (q459, .inr (15, [.ref q460, .int p466])), (q460, .inl (I .byte, 8192, .inl f467))]) 0 4 d_cX9_takeDigits_68 rfl (gk_X9 D I) (Nat.le_of_ble_eq_true rfl) w_1_83 rfl rfl rfl (Nat.le_of_ble_eq_true rfl) rfl ?_
        refine G_lload_n 1 d_cX9_takeDigits_71 rfl ?_
        exact G_lret d_cX9_takeDigits_72 rfl (Nat.le_of_ble_eq_true rfl) (Nat.le_of_ble_eq_true rfl) ⟨gl567, g566, rfl, rfl, (gB_w bg566' (by decide) (by decide))⟩
      · have r570 : g566.toInt < p466.toInt := gC_nle hc568
        have bg566' : gB g566 (-2147483648) 8191 := ⟨by omega, by omega⟩
        refine G_aload_n 2 d_cX9_takeDigits_17 rfl ?_
        refine G_getf 0 0 d_cX9_takeDigits_18 rfl (gk_X9 D I) (Nat.le_of_ble_eq_true rfl) w_1_79 rfl ?_
        refine G_iload 0 d_cX9_takeDigits_21 rfl ?_
        refine G_callV (As := [.int g566]) (wr := [(q458, .inr (14, [.ref q459, .int p462, .int p463, .int p464, .int p465]))]) (gV_ok D I) (ct_30_Tape_byteAt l hl0 D I q459 q460 g566 p466 f467 bp466 bf467) d_cX9_takeDigits_23 ⟨w_3_20, w_1_2, w_3_23, by decide, rfl, (Nat.le_of_ble_eq_true rfl), (Nat.le_of_ble_eq_true rfl)⟩ w_3_21 w_3_22 1 rfl rfl [1, 2] [0] rfl rfl rfl rfl (by decide) (Nat.le_of_ble_eq_true rfl) (Nat.le_of_ble_eq_true rfl) (Nat.le_of_ble_eq_true rfl) (fun r w hp => ?_) (fun _ _ _ z => z.elim)
        rcases hp with ⟨rfl, rfl, r571⟩ | ⟨rfl, rfl, r572, r573⟩ | ⟨z574, rfl, rfl, r575, r576, r577⟩
        · have bg566'' : gB g566 (-2147483648) (-1) := ⟨by omega, by omega⟩
          change G _ _ _ _ _ _ _ (.int (-1) :: _) _ _ _
          refine G_ws (ws' := [(q458, .inr (14, [.ref q459, .int p462, .int p463, .int p464, .int p465])), (q459, .inr (15, [.ref q460, .int p466])), (q460, .inl (I .byte, 8192, .inl f467))]) (cs' := 0) (sl' := 0) rfl rfl rfl ?_
          refine G_callS (As := [.int (-1)]) (wr := [(q458, .inr (14, [.ref q459, .int p462, .int p463, .int p464, .int p465])), (q459, .inr (15, [.ref q460, .int p466])), (q460, .inl (I .byte, 8192, .inl f467))]) (gV_ok D I) (ct_300_Signs_isDigit l hl0 D I (-1) ) d_cX9_takeDigits_26 ⟨w_3_24, w_1_4, w_3_26, by decide, rfl, (Nat.le_of_ble_eq_true rfl), (Nat.le_of_ble_eq_true rfl)⟩ w_3_25 [] [0, 1, 2] rfl rfl rfl rfl (by decide) (Nat.le_of_ble_eq_true rfl) (Nat.le_of_ble_eq_true rfl) (Nat.le_of_ble_eq_true rfl) (fun r w hp => ?_) (fun _ _ _ z => z.elim)
          rcases hp with ⟨rfl, rfl, r578⟩ | ⟨rfl, rfl, r579, r580⟩ | ⟨rfl, rfl, r581, r582⟩
          · rw [show Int32.toInt (-1) = (-1) from by decide] at r578
            change G _ _ _ _ _ _ _ (.int 0 :: _) _ _ _
            refine G_ws (ws' := [(q458, .inr (14, [.ref q459, .int p462, .int p463, .int p464, .int p465])), (q459, .inr (15, [.ref q460, .int p466])), (q460, .inl (I .byte, 8192, .inl f467))]) (cs' := 0) (sl' := 0) rfl rfl rfl ?_
            refine G_if_eq 65 d_cX9_takeDigits_29 (by decide +kernel) (fun _ => ?_) (fun hc => absurd hc (by decide))
            refine G_aload_n 2 d_cX9_takeDigits_65 rfl ?_
            refine G_iload 0 d_cX9_takeDigits_66 rfl ?_
            refine G_putf (ws' := [(q458, .inr (14, [.ref q459, .int p462, .int p463, .int p464, .int g566])), (q459, .inr (15, [.ref q460, .int p466])), (q460, .inl (I .byte, 8192, .inl f467))]) 0 4 d_cX9_takeDigits_68 rfl (gk_X9 D I) (Nat.le_of_ble_eq_true rfl) w_1_83 rfl rfl rfl (Nat.le_of_ble_eq_true rfl) rfl ?_
            refine G_lload_n 1 d_cX9_takeDigits_71 rfl ?_
            exact G_lret d_cX9_takeDigits_72 rfl (Nat.le_of_ble_eq_true rfl) (Nat.le_of_ble_eq_true rfl) ⟨gl567, g566, rfl, rfl, (gB_w bg566'' (by decide) (by decide))⟩
          · rw [show Int32.toInt (-1) = (-1) from by decide] at r579
            exact absurd (show False by omega) not_false
          · rw [show Int32.toInt (-1) = (-1) from by decide] at r581
            exact absurd (show False by omega) not_false
        · have bg566'' : gB g566 0 8191 := ⟨by omega, by omega⟩
          have bp466' : gB p466 0 8191 := ⟨by omega, by omega⟩
          change G _ _ _ _ _ _ _ (.int (-1) :: _) _ _ _
          refine G_ws (ws' := [(q458, .inr (14, [.ref q459, .int p462, .int p463, .int p464, .int p465])), (q459, .inr (15, [.ref q460, .int p466])), (q460, .inl (I .byte, 8192, .inl f467))]) (cs' := 0) (sl' := 0) rfl rfl rfl ?_
          refine G_callS (As := [.int (-1)]) (wr := [(q458, .inr (14, [.ref q459, .int p462, .int p463, .int p464, .int p465])), (q459, .inr (15, [.ref q460, .int p466])), (q460, .inl (I .byte, 8192, .inl f467))]) (gV_ok D I) (ct_300_Signs_isDigit l hl0 D I (-1) ) d_cX9_takeDigits_26 ⟨w_3_24, w_1_4, w_3_26, by decide, rfl, (Nat.le_of_ble_eq_true rfl), (Nat.le_of_ble_eq_true rfl)⟩ w_3_25 [] [0, 1, 2] rfl rfl rfl rfl (by decide) (Nat.le_of_ble_eq_true rfl) (Nat.le_of_ble_eq_true rfl) (Nat.le_of_ble_eq_true rfl) (fun r w hp => ?_) (fun _ _ _ z => z.elim)
          rcases hp with ⟨rfl, rfl, r583⟩ | ⟨rfl, rfl, r584, r585⟩ | ⟨rfl, rfl, r586, r587⟩
          · rw [show Int32.toInt (-1) = (-1) from by decide] at r583
            change G _ _ _ _ _ _ _ (.int 0 :: _) _ _ _
            refine G_ws (ws' := [(q458, .inr (14, [.ref q459, .int p462, .int p463, .int p464, .int p465])), (q459, .inr (15, [.ref q460, .int p466])), (q460, .inl (I .byte, 8192, .inl f467))]) (cs' := 0) (sl' := 0) rfl rfl rfl ?_
            refine G_if_eq 65 d_cX9_takeDigits_29 (by decide +kernel) (fun _ => ?_) (fun hc => absurd hc (by decide))
            refine G_aload_n 2 d_cX9_takeDigits_65 rfl ?_
            refine G_iload 0 d_cX9_takeDigits_66 rfl ?_
            refine G_putf (ws' := [(q458, .inr (14, [.ref q459, .int p462, .int p463, .int p464, .int g566])), (q459, .inr (15, [.ref q460, .int p466])), (q460, .inl (I .byte, 8192, .inl f467))]) 0 4 d_cX9_takeDigits_68 rfl (gk_X9 D I) (Nat.le_of_ble_eq_true rfl) w_1_83 rfl rfl rfl (Nat.le_of_ble_eq_true rfl) rfl ?_
            refine G_lload_n 1 d_cX9_takeDigits_71 rfl ?_
            exact G_lret d_cX9_takeDigits_72 rfl (Nat.le_of_ble_eq_true rfl) (Nat.le_of_ble_eq_true rfl) ⟨gl567, g566, rfl, rfl, (gB_w bg566'' (by decide) (by decide))⟩
          · rw [show Int32.toInt (-1) = (-1) from by decide] at r584
            exact absurd (show False by omega) not_false
          · rw [show Int32.toInt (-1) = (-1) from by decide] at r586
            exact absurd (show False by omega) not_false
        · have bg566'' : gB g566 0 8191 := ⟨by omega, by omega⟩
          have bp466' : gB p466 1 8192 := ⟨by omega, by omega⟩
          change G _ _ _ _ _ _ _ (.int z574 :: _) _ _ _
          refine G_ws (ws' := [(q458, .inr (14, [.ref q459, .int p462, .int p463, .int p464, .int p465])), (q459, .inr (15, [.ref q460, .int p466])), (q460, .inl (I .byte, 8192, .inl f467))]) (cs' := 0) (sl' := 0) rfl rfl rfl ?_
          refine G_callS (As := [.int z574]) (wr := [(q458, .inr (14, [.ref q459, .int p462, .int p463, .int p464, .int p465])), (q459, .inr (15, [.ref q460, .int p466])), (q460, .inl (I .byte, 8192, .inl f467))]) (gV_ok D I) (ct_300_Signs_isDigit l hl0 D I z574 ) d_cX9_takeDigits_26 ⟨w_3_24, w_1_4, w_3_26, by decide, rfl, (Nat.le_of_ble_eq_true rfl), (Nat.le_of_ble_eq_true rfl)⟩ w_3_25 [] [0, 1, 2] rfl rfl rfl rfl (by decide) (Nat.le_of_ble_eq_true rfl) (Nat.le_of_ble_eq_true rfl) (Nat.le_of_ble_eq_true rfl) (fun r w hp => ?_) (fun _ _ _ z => z.elim)
          rcases hp with ⟨rfl, rfl, r588⟩ | ⟨rfl, rfl, r589, r590⟩ | ⟨rfl, rfl, r591, r592⟩
          · have r577' : gB z574 0 47 := ⟨by omega, by omega⟩
            change G _ _ _ _ _ _ _ (.int 0 :: _) _ _ _
            refine G_ws (ws' := [(q458, .inr (14, [.ref q459, .int p462, .int p463, .int p464, .int p465])), (q459, .inr (15, [.ref q460, .int p466])), (q460, .inl (I .byte, 8192, .inl f467))]) (cs' := 0) (sl' := 0) rfl rfl rfl ?_
            refine G_if_eq 65 d_cX9_takeDigits_29 (by decide +kernel) (fun _ => ?_) (fun hc => absurd hc (by decide))
            refine G_aload_n 2 d_cX9_takeDigits_65 rfl ?_
            refine G_iload 0 d_cX9_takeDigits_66 rfl ?_
            refine G_putf (ws' := [(q458, .inr (14, [.ref q459, .int p462, .int p463, .int p464, .int g566])), (q459, .inr (15, [.ref q460, .int p466])), (q460, .inl (I .byte, 8192, .inl f467))]) 0 4 d_cX9_takeDigits_68 rfl (gk_X9 D I) (Nat.le_of_ble_eq_true rfl) w_1_83 rfl rfl rfl (Nat.le_of_ble_eq_true rfl) rfl ?_
            refine G_lload_n 1 d_cX9_takeDigits_71 rfl ?_
            exact G_lret d_cX9_takeDigits_72 rfl (Nat.le_of_ble_eq_true rfl) (Nat.le_of_ble_eq_true rfl) ⟨gl567, g566, rfl, rfl, (gB_w bg566'' (by decide) (by decide))⟩
          · have r577' : gB z574 48 255 := ⟨by omega, by omega⟩
            have r577'' : gB z574 58 255 := ⟨by omega, by omega⟩
            change G _ _ _ _ _ _ _ (.int 0 :: _) _ _ _
            refine G_ws (ws' := [(q458, .inr (14, [.ref q459, .int p462, .int p463, .int p464, .int p465])), (q459, .inr (15, [.ref q460, .int p466])), (q460, .inl (I .byte, 8192, .inl f467))]) (cs' := 0) (sl' := 0) rfl rfl rfl ?_
            refine G_if_eq 65 d_cX9_takeDigits_29 (by decide +kernel) (fun _ => ?_) (fun hc => absurd hc (by decide))
            refine G_aload_n 2 d_cX9_takeDigits_65 rfl ?_
            refine G_iload 0 d_cX9_takeDigits_66 rfl ?_
            refine G_putf (ws' := [(q458, .inr (14, [.ref q459, .int p462, .int p463, .int p464, .int g566])), (q459, .inr (15, [.ref q460, .int p466])), (q460, .inl (I .byte, 8192, .inl f467))]) 0 4 d_cX9_takeDigits_68 rfl (gk_X9 D I) (Nat.le_of_ble_eq_true rfl) w_1_83 rfl rfl rfl (Nat.le_of_ble_eq_true rfl) rfl ?_
            refine G_lload_n 1 d_cX9_takeDigits_71 rfl ?_
            exact G_lret d_cX9_takeDigits_72 rfl (Nat.le_of_ble_eq_true rfl) (Nat.le_of_ble_eq_true rfl) ⟨gl567, g566, rfl, rfl, (gB_w bg566'' (by decide) (by decide))⟩
          · have r577' : gB z574 48 255 := ⟨by omega, by omega⟩
            have r577'' : gB z574 48 57 := ⟨by omega, by omega⟩
            change G _ _ _ _ _ _ _ (.int 1 :: _) _ _ _
            refine G_ws (ws' := [(q458, .inr (14, [.ref q459, .int p462, .int p463, .int p464, .int p465])), (q459, .inr (15, [.ref q460, .int p466])), (q460, .inl (I .byte, 8192, .inl f467))]) (cs' := 0) (sl' := 0) rfl rfl rfl ?_
            refine G_if_eq 65 d_cX9_takeDigits_29 (by decide +kernel) (fun hc => absurd hc (by decide)) (fun _ => ?_)
            refine G_lload_n 1 d_cX9_takeDigits_32 rfl ?_
            refine G_ldc2 10 d_cX9_takeDigits_33 w_3_35 ?_
            refine G_lmul d_cX9_takeDigits_36 (G_namL fun u593 hu593 => ?_)
            refine G_aload_n 2 d_cX9_takeDigits_37 rfl ?_
            refine G_getf 0 0 d_cX9_takeDigits_38 rfl (gk_X9 D I) (Nat.le_of_ble_eq_true rfl) w_1_79 rfl ?_
            refine G_iload 0 d_cX9_takeDigits_41 rfl ?_
            refine G_callV (As := [.int g566]) (wr := [(q458, .inr (14, [.ref q459, .int p462, .int p463, .int p464, .int p465]))]) (gV_ok D I) (ct_30_Tape_byteAt l hl0 D I q459 q460 g566 p466 f467 (gB_w bp466' (by decide) (by decide)) bf467) d_cX9_takeDigits_43 ⟨w_3_20, w_1_2, w_3_23, by decide, rfl, (Nat.le_of_ble_eq_true rfl), (Nat.le_of_ble_eq_true rfl)⟩ w_3_21 w_3_22 1 rfl rfl [1, 2] [0] rfl rfl rfl rfl (by decide) (Nat.le_of_ble_eq_true rfl) (Nat.le_of_ble_eq_true rfl) (Nat.le_of_ble_eq_true rfl) (fun r w hp => ?_) (fun _ _ _ z => z.elim)
            rcases hp with ⟨rfl, rfl, r594⟩ | ⟨rfl, rfl, r595, r596⟩ | ⟨z597, rfl, rfl, r598, r599, r600⟩
            · exact absurd (show False by omega) not_false
            · have bp466'' : gB p466 1 8191 := ⟨by omega, by omega⟩
              have bg566''' : gB g566 1 8191 := ⟨by omega, by omega⟩
              change G _ _ _ _ _ _ _ (.int (-1) :: _) _ _ _
              refine G_ws (ws' := [(q458, .inr (14, [.ref q459, .int p462, .int p463, .int p464, .int p465])), (q459, .inr (15, [.ref q460, .int p466])), (q460, .inl (I .byte, 8192, .inl f467))]) (cs' := 0) (sl' := 0) rfl rfl rfl ?_
              refine G_i2l d_cX9_takeDigits_46 (G_namL fun u601 hu601 => ?_)
              refine G_ladd d_cX9_takeDigits_47 (G_namL fun u602 hu602 => ?_)
              refine G_ldc2 48 d_cX9_takeDigits_48 w_3_36 ?_
              refine G_lsub d_cX9_takeDigits_51 (G_namL fun u603 hu603 => ?_)
              refine G_ldc2 1099511627776 d_cX9_takeDigits_52 w_3_37 ?_
              refine G_callS (As := [.long u603, .long 1099511627776]) (wr := [(q458, .inr (14, [.ref q459, .int p462, .int p463, .int p464, .int p465])), (q459, .inr (15, [.ref q460, .int p466])), (q460, .inl (I .byte, 8192, .inl f467))]) (gV_ok D I) (ct_508_Math_min l hl0 D I u603 1099511627776 ) d_cX9_takeDigits_55 ⟨w_3_38, w_1_6, w_3_40, by decide, rfl, (Nat.le_of_ble_eq_true rfl), (Nat.le_of_ble_eq_true rfl)⟩ w_3_39 [] [0, 1, 2] rfl rfl rfl rfl (by decide) (Nat.le_of_ble_eq_true rfl) (Nat.le_of_ble_eq_true rfl) (Nat.le_of_ble_eq_true rfl) (fun r w hp => ?_) (fun _ _ _ z => z.elim)
              obtain ⟨ol604, rfl, rfl⟩ := hp
              change G _ _ _ _ _ _ _ (.long ol604 :: _) _ _ _
              refine G_ws (ws' := [(q458, .inr (14, [.ref q459, .int p462, .int p463, .int p464, .int p465])), (q459, .inr (15, [.ref q460, .int p466])), (q460, .inl (I .byte, 8192, .inl f467))]) (cs' := 0) (sl' := 0) rfl rfl rfl ?_
              refine G_lstore_n (L' := [(2, .long ol604), (4, .int g566), (0, .ref q458), (1, .int p461)]) d_cX9_takeDigits_58 (Nat.le_of_ble_eq_true rfl) rfl ?_
              obtain ⟨z605, hz605⟩ : ∃ z : Int32, z = g566 + Int32.ofInt 1 := ⟨_, rfl⟩
              have ez605 : z605.toInt = g566.toInt + 1 := gI_inc hz605 (by decide) bg566''' (by decide) (by decide)
              have bz605 : gB z605 2 8192 := ⟨by omega, by omega⟩
              refine G_iinc (L' := [(4, .int z605), (2, .long ol604), (0, .ref q458), (1, .int p461)]) z605 1 d_cX9_takeDigits_59 rfl hz605.symm (Nat.le_of_ble_eq_true rfl) rfl ?_
              refine G_goto 5 d_cX9_takeDigits_62 (by decide +kernel) ?_
              exact ih5_567 z605 ol604 (gB_w bz605 (by decide) (by decide)) (by omega)
            · change G _ _ _ _ _ _ _ (.int z597 :: _) _ _ _
              refine G_ws (ws' := [(q458, .inr (14, [.ref q459, .int p462, .int p463, .int p464, .int p465])), (q459, .inr (15, [.ref q460, .int p466])), (q460, .inl (I .byte, 8192, .inl f467))]) (cs' := 0) (sl' := 0) rfl rfl rfl ?_
              refine G_i2l d_cX9_takeDigits_46 (G_namL fun u606 hu606 => ?_)
              refine G_ladd d_cX9_takeDigits_47 (G_namL fun u607 hu607 => ?_)
              refine G_ldc2 48 d_cX9_takeDigits_48 w_3_36 ?_
              refine G_lsub d_cX9_takeDigits_51 (G_namL fun u608 hu608 => ?_)
              refine G_ldc2 1099511627776 d_cX9_takeDigits_52 w_3_37 ?_
              refine G_callS (As := [.long u608, .long 1099511627776]) (wr := [(q458, .inr (14, [.ref q459, .int p462, .int p463, .int p464, .int p465])), (q459, .inr (15, [.ref q460, .int p466])), (q460, .inl (I .byte, 8192, .inl f467))]) (gV_ok D I) (ct_508_Math_min l hl0 D I u608 1099511627776 ) d_cX9_takeDigits_55 ⟨w_3_38, w_1_6, w_3_40, by decide, rfl, (Nat.le_of_ble_eq_true rfl), (Nat.le_of_ble_eq_true rfl)⟩ w_3_39 [] [0, 1, 2] rfl rfl rfl rfl (by decide) (Nat.le_of_ble_eq_true rfl) (Nat.le_of_ble_eq_true rfl) (Nat.le_of_ble_eq_true rfl) (fun r w hp => ?_) (fun _ _ _ z => z.elim)
              obtain ⟨ol609, rfl, rfl⟩ := hp
              change G _ _ _ _ _ _ _ (.long ol609 :: _) _ _ _
              refine G_ws (ws' := [(q458, .inr (14, [.ref q459, .int p462, .int p463, .int p464, .int p465])), (q459, .inr (15, [.ref q460, .int p466])), (q460, .inl (I .byte, 8192, .inl f467))]) (cs' := 0) (sl' := 0) rfl rfl rfl ?_
              refine G_lstore_n (L' := [(2, .long ol609), (4, .int g566), (0, .ref q458), (1, .int p461)]) d_cX9_takeDigits_58 (Nat.le_of_ble_eq_true rfl) rfl ?_
              obtain ⟨z610, hz610⟩ : ∃ z : Int32, z = g566 + Int32.ofInt 1 := ⟨_, rfl⟩
              have ez610 : z610.toInt = g566.toInt + 1 := gI_inc hz610 (by decide) bg566'' (by decide) (by decide)
              have bz610 : gB z610 1 8192 := ⟨by omega, by omega⟩
              refine G_iinc (L' := [(4, .int z610), (2, .long ol609), (0, .ref q458), (1, .int p461)]) z610 1 d_cX9_takeDigits_59 rfl hz610.symm (Nat.le_of_ble_eq_true rfl) rfl ?_
              refine G_goto 5 d_cX9_takeDigits_62 (by decide +kernel) ?_
              exact ih5_567 z610 ol609 (gB_w bz610 (by decide) (by decide)) (by omega)
  exact hlp5_567 (((2147483648 : Int) - p461.toInt).toNat + 1) p461 0 bp461 (Nat.lt_succ_self _)
abbrev ky_624_Signs_takeNumber : gKey := (cX9_takeNumber, 6, yX9_takeNumber.cls, none, [], yX9_takeNumber.name, fun _ _ => True)
abbrev po_624_Signs_takeNumber (I : FieldType → ClassId) (q613 : Nat) (q614 : Nat) (q615 : Nat) (p616 : Int32) (p617 : Int32) (p618 : Int32) (p619 : Int32) (p620 : Int32) (p621 : Int32) (f622 : Nat → Int32) : Option Value → va_W → Prop := fun r w => ∃ (o646 : Int32) (o647 : Int32) (o648 : Int32), r = none ∧ w = [(q613, .inr (14, [.ref q614, .int o646, .int o647, .int p619, .int o648])), (q614, .inr (15, [.ref q615, .int p621])), (q615, .inl (I .byte, 8192, .inl f622))] ∧ gB o646 0 4 ∧ gB o647 (-2147483648) 2147483647 ∧ gB o648 (-2147483648) 2147483647 ∧ (o646.toInt ≠ 5 ∨ (0 ≤ o647.toInt ∧ o647.toInt ≤ 13))
set_option maxRecDepth 100000 in
set_option maxHeartbeats 4000000 in
theorem ct_624_Signs_takeNumber (l : Launch) (hl0 : l.stackTraces = false) (D : va_G) (I : FieldType → ClassId) (q613 : Nat) (q614 : Nat) (q615 : Nat) (p616 : Int32) (p617 : Int32) (p618 : Int32) (p619 : Int32) (p620 : Int32) (p621 : Int32) (f622 : Nat → Int32) (bp616 : gB p616 0 1) (bp621 : gB p621 0 8192) (bf622 : gF f622 (-128) 127) (x623 : (p617.toInt ≠ 5 ∨ (0 ≤ p618.toInt ∧ p618.toInt ≤ 13))) : Ct (gV D I) l yX9_takeNumber cX9_takeNumber 6 none 2 47 0 0 [.ref q613, .int p616] [(q613, .inr (14, [.ref q614, .int p617, .int p618, .int p619, .int p620])), (q614, .inr (15, [.ref q615, .int p621])), (q615, .inl (I .byte, 8192, .inl f622))] (po_624_Signs_takeNumber I q613 q614 q615 p616 p617 p618 p619 p620 p621 f622) gN := by
  refine Ct_of hl0 (by decide) (Nat.le_of_ble_eq_true rfl) ?_
  have bp617 := gB_any p617
  have bp618 := gB_any p618
  have bp619 := gB_any p619
  have bp620 := gB_any p620
  refine G_aload_n 0 d_cX9_takeNumber_0 rfl ?_
  refine G_iload_n 1 d_cX9_takeNumber_1 rfl ?_
  refine G_if_eq 14 d_cX9_takeNumber_2 (by decide +kernel) (fun hc625 => ?_) (fun hc625 => ?_)
  · have r626 : p616.toInt = 0 := gj_eq hc625 (show Int32.toInt 0 = 0 by decide)
    have bp616' : gB p616 0 0 := ⟨by omega, by omega⟩
    refine G_aload_n 0 d_cX9_takeNumber_14 rfl ?_
    refine G_getf 0 3 d_cX9_takeNumber_15 rfl (gk_X9 D I) (Nat.le_of_ble_eq_true rfl) w_1_82 rfl ?_
    refine G_callV (As := [.int p619]) (wr := []) (gV_ok D I) (ct_469_Signs_takeDigits l hl0 D I q613 q614 q615 p619 p617 p618 p619 p620 p621 f622 bp621 bf622 (by omega)) d_cX9_takeNumber_18 ⟨w_3_31, w_1_4, w_3_34, by decide, rfl, (Nat.le_of_ble_eq_true rfl), (Nat.le_of_ble_eq_true rfl)⟩ w_3_33 w_p_2 0 rfl rfl [0, 1, 2] [] rfl rfl rfl rfl (by decide) (Nat.le_of_ble_eq_true rfl) (Nat.le_of_ble_eq_true rfl) (Nat.le_of_ble_eq_true rfl) (fun r w hp => ?_) (fun _ _ _ z => z.elim)
    obtain ⟨ol627, o628, rfl, rfl, bo628⟩ := hp
    change G _ _ _ _ _ _ _ (.long ol627 :: _) _ _ _
    refine G_ws (ws' := [(q613, .inr (14, [.ref q614, .int p617, .int p618, .int p619, .int o628])), (q614, .inr (15, [.ref q615, .int p621])), (q615, .inl (I .byte, 8192, .inl f622))]) (cs' := 0) (sl' := 0) rfl rfl rfl ?_
    refine G_lstore_n (L' := [(2, .long ol627), (0, .ref q613), (1, .int p616)]) d_cX9_takeNumber_21 (Nat.le_of_ble_eq_true rfl) rfl ?_
    refine G_iload_n 2 d_cX9_takeNumber_22 rfl ?_
    refine G_if_eq 31 d_cX9_takeNumber_23 (by decide +kernel) (fun _ => ?_) (fun hc => absurd (show False by have := gj_neq hc (show Int32.toInt 0 = 0 by decide); omega) not_false)
    refine G_lload_n 0 d_cX9_takeNumber_31 rfl ?_
    refine G_lstore (L' := [(4, .long ol627), (2, .long ol627), (0, .ref q613), (1, .int p616)]) d_cX9_takeNumber_32 (Nat.le_of_ble_eq_true rfl) rfl ?_
    refine G_aload_n 2 d_cX9_takeNumber_34 rfl ?_
    refine G_lload 0 d_cX9_takeNumber_35 rfl ?_
    refine G_l2i d_cX9_takeNumber_37 (G_nam fun z629 hz629 => ?_)
    have bz629 : gB z629 (-2147483648) 2147483647 := gB_any z629
    refine G_putf (ws' := [(q613, .inr (14, [.ref q614, .int p617, .int z629, .int p619, .int o628])), (q614, .inr (15, [.ref q615, .int p621])), (q615, .inl (I .byte, 8192, .inl f622))]) 0 2 d_cX9_takeNumber_38 rfl (gk_X9 D I) (Nat.le_of_ble_eq_true rfl) w_1_81 rfl rfl rfl (Nat.le_of_ble_eq_true rfl) rfl ?_
    refine G_aload_n 2 d_cX9_takeNumber_41 rfl ?_
    refine G_aload_n 2 d_cX9_takeNumber_42 rfl ?_
    refine G_getf 0 2 d_cX9_takeNumber_43 rfl (gk_X9 D I) (Nat.le_of_ble_eq_true rfl) w_1_81 rfl ?_
    refine G_i2l d_cX9_takeNumber_46 (G_namL fun u630 hu630 => ?_)
    refine G_lload 0 d_cX9_takeNumber_47 rfl ?_
    refine G_lcmp d_cX9_takeNumber_49 (G_nam fun z631 hz631 => ?_)
    have bz631 : gB z631 (-1) 1 := gB_cmp hz631
    refine G_if_ne 57 d_cX9_takeNumber_50 (by decide +kernel) (fun hc632 => ?_) (fun hc632 => ?_)
    · have r633 : z631.toInt ≠ 0 := gj_neq hc632 (show Int32.toInt 0 = 0 by decide)
      have lhc632 := gC_cmpN hz631 hc632
      refine G_iconst 0 d_cX9_takeNumber_57 (by decide +kernel) ?_
      refine G_putf (ws' := [(q613, .inr (14, [.ref q614, .int 0, .int z629, .int p619, .int o628])), (q614, .inr (15, [.ref q615, .int p621])), (q615, .inl (I .byte, 8192, .inl f622))]) 0 1 d_cX9_takeNumber_58 rfl (gk_X9 D I) (Nat.le_of_ble_eq_true rfl) w_1_80 rfl rfl rfl (Nat.le_of_ble_eq_true rfl) rfl ?_
      exact G_vret d_cX9_takeNumber_61 rfl (Nat.le_of_ble_eq_true rfl) (Nat.le_of_ble_eq_true rfl) ⟨0, z629, o628, rfl, rfl, (gB_w (gBl (show Int32.toInt 0 = 0 by decide)) (by decide) (by decide)), bz629, bo628, (by have qa0 : Int32.toInt 0 = 0 := (by decide); omega)⟩
    · have r634 : z631.toInt = 0 := gj_eq hc632 (show Int32.toInt 0 = 0 by decide)
      have bz631' : gB z631 0 0 := ⟨by omega, by omega⟩
      have lhc632 := gC_cmpE hz631 hc632
      refine G_iconst 4 d_cX9_takeNumber_53 (by decide +kernel) ?_
      refine G_goto 58 d_cX9_takeNumber_54 (by decide +kernel) ?_
      refine G_putf (ws' := [(q613, .inr (14, [.ref q614, .int 4, .int z629, .int p619, .int o628])), (q614, .inr (15, [.ref q615, .int p621])), (q615, .inl (I .byte, 8192, .inl f622))]) 0 1 d_cX9_takeNumber_58 rfl (gk_X9 D I) (Nat.le_of_ble_eq_true rfl) w_1_80 rfl rfl rfl (Nat.le_of_ble_eq_true rfl) rfl ?_
      exact G_vret d_cX9_takeNumber_61 rfl (Nat.le_of_ble_eq_true rfl) (Nat.le_of_ble_eq_true rfl) ⟨4, z629, o628, rfl, rfl, (gB_w (gBl (show Int32.toInt 4 = 4 by decide)) (by decide) (by decide)), bz629, bo628, (by have qa0 : Int32.toInt 4 = 4 := (by decide); omega)⟩
  · have r635 : p616.toInt ≠ 0 := gj_neq hc625 (show Int32.toInt 0 = 0 by decide)
    have bp616' : gB p616 1 1 := ⟨by omega, by omega⟩
    refine G_aload_n 0 d_cX9_takeNumber_5 rfl ?_
    refine G_getf 0 3 d_cX9_takeNumber_6 rfl (gk_X9 D I) (Nat.le_of_ble_eq_true rfl) w_1_82 rfl ?_
    refine G_iconst 1 d_cX9_takeNumber_9 (by decide +kernel) ?_
    refine G_iadd d_cX9_takeNumber_10 (G_nam fun z636 hz636 => ?_)
    have bz636 : gB z636 (-2147483648) 2147483647 := gB_any z636
    refine G_goto 18 d_cX9_takeNumber_11 (by decide +kernel) ?_
    refine G_callV (As := [.int z636]) (wr := []) (gV_ok D I) (ct_469_Signs_takeDigits l hl0 D I q613 q614 q615 z636 p617 p618 p619 p620 p621 f622 bp621 bf622 (by omega)) d_cX9_takeNumber_18 ⟨w_3_31, w_1_4, w_3_34, by decide, rfl, (Nat.le_of_ble_eq_true rfl), (Nat.le_of_ble_eq_true rfl)⟩ w_3_33 w_p_2 0 rfl rfl [0, 1, 2] [] rfl rfl rfl rfl (by decide) (Nat.le_of_ble_eq_true rfl) (Nat.le_of_ble_eq_true rfl) (Nat.le_of_ble_eq_true rfl) (fun r w hp => ?_) (fun _ _ _ z => z.elim)
    obtain ⟨ol637, o638, rfl, rfl, bo638⟩ := hp
    change G _ _ _ _ _ _ _ (.long ol637 :: _) _ _ _
    refine G_ws (ws' := [(q613, .inr (14, [.ref q614, .int p617, .int p618, .int p619, .int o638])), (q614, .inr (15, [.ref q615, .int p621])), (q615, .inl (I .byte, 8192, .inl f622))]) (cs' := 0) (sl' := 0) rfl rfl rfl ?_
    refine G_lstore_n (L' := [(2, .long ol637), (0, .ref q613), (1, .int p616)]) d_cX9_takeNumber_21 (Nat.le_of_ble_eq_true rfl) rfl ?_
    refine G_iload_n 2 d_cX9_takeNumber_22 rfl ?_
    refine G_if_eq 31 d_cX9_takeNumber_23 (by decide +kernel) (fun hc => absurd (show False by have := gj_eq hc (show Int32.toInt 0 = 0 by decide); omega) not_false) (fun _ => ?_)
    refine G_lload_n 0 d_cX9_takeNumber_26 rfl ?_
    refine G_lneg d_cX9_takeNumber_27 (G_namL fun u639 hu639 => ?_)
    refine G_goto 32 d_cX9_takeNumber_28 (by decide +kernel) ?_
    refine G_lstore (L' := [(4, .long u639), (2, .long ol637), (0, .ref q613), (1, .int p616)]) d_cX9_takeNumber_32 (Nat.le_of_ble_eq_true rfl) rfl ?_
    refine G_aload_n 2 d_cX9_takeNumber_34 rfl ?_
    refine G_lload 0 d_cX9_takeNumber_35 rfl ?_
    refine G_l2i d_cX9_takeNumber_37 (G_nam fun z640 hz640 => ?_)
    have bz640 : gB z640 (-2147483648) 2147483647 := gB_any z640
    refine G_putf (ws' := [(q613, .inr (14, [.ref q614, .int p617, .int z640, .int p619, .int o638])), (q614, .inr (15, [.ref q615, .int p621])), (q615, .inl (I .byte, 8192, .inl f622))]) 0 2 d_cX9_takeNumber_38 rfl (gk_X9 D I) (Nat.le_of_ble_eq_true rfl) w_1_81 rfl rfl rfl (Nat.le_of_ble_eq_true rfl) rfl ?_
    refine G_aload_n 2 d_cX9_takeNumber_41 rfl ?_
    refine G_aload_n 2 d_cX9_takeNumber_42 rfl ?_
    refine G_getf 0 2 d_cX9_takeNumber_43 rfl (gk_X9 D I) (Nat.le_of_ble_eq_true rfl) w_1_81 rfl ?_
    refine G_i2l d_cX9_takeNumber_46 (G_namL fun u641 hu641 => ?_)
    refine G_lload 0 d_cX9_takeNumber_47 rfl ?_
    refine G_lcmp d_cX9_takeNumber_49 (G_nam fun z642 hz642 => ?_)
    have bz642 : gB z642 (-1) 1 := gB_cmp hz642
    refine G_if_ne 57 d_cX9_takeNumber_50 (by decide +kernel) (fun hc643 => ?_) (fun hc643 => ?_)
    · have r644 : z642.toInt ≠ 0 := gj_neq hc643 (show Int32.toInt 0 = 0 by decide)
      have lhc643 := gC_cmpN hz642 hc643
      refine G_iconst 0 d_cX9_takeNumber_57 (by decide +kernel) ?_
      refine G_putf (ws' := [(q613, .inr (14, [.ref q614, .int 0, .int z640, .int p619, .int o638])), (q614, .inr (15, [.ref q615, .int p621])), (q615, .inl (I .byte, 8192, .inl f622))]) 0 1 d_cX9_takeNumber_58 rfl (gk_X9 D I) (Nat.le_of_ble_eq_true rfl) w_1_80 rfl rfl rfl (Nat.le_of_ble_eq_true rfl) rfl ?_
      exact G_vret d_cX9_takeNumber_61 rfl (Nat.le_of_ble_eq_true rfl) (Nat.le_of_ble_eq_true rfl) ⟨0, z640, o638, rfl, rfl, (gB_w (gBl (show Int32.toInt 0 = 0 by decide)) (by decide) (by decide)), bz640, bo638, (by have qa0 : Int32.toInt 0 = 0 := (by decide); omega)⟩
    · have r645 : z642.toInt = 0 := gj_eq hc643 (show Int32.toInt 0 = 0 by decide)
      have bz642' : gB z642 0 0 := ⟨by omega, by omega⟩
      have lhc643 := gC_cmpE hz642 hc643
      refine G_iconst 4 d_cX9_takeNumber_53 (by decide +kernel) ?_
      refine G_goto 58 d_cX9_takeNumber_54 (by decide +kernel) ?_
      refine G_putf (ws' := [(q613, .inr (14, [.ref q614, .int 4, .int z640, .int p619, .int o638])), (q614, .inr (15, [.ref q615, .int p621])), (q615, .inl (I .byte, 8192, .inl f622))]) 0 1 d_cX9_takeNumber_58 rfl (gk_X9 D I) (Nat.le_of_ble_eq_true rfl) w_1_80 rfl rfl rfl (Nat.le_of_ble_eq_true rfl) rfl ?_
      exact G_vret d_cX9_takeNumber_61 rfl (Nat.le_of_ble_eq_true rfl) (Nat.le_of_ble_eq_true rfl) ⟨4, z640, o638, rfl, rfl, (gB_w (gBl (show Int32.toInt 4 = 4 by decide)) (by decide) (by decide)), bz640, bo638, (by have qa0 : Int32.toInt 4 = 4 := (by decide); omega)⟩
abbrev ky_661_Signs_takeNamed : gKey := (cX9_takeNamed, 5, yX9_takeNamed.cls, none, [], yX9_takeNamed.name, fun _ _ => True)
abbrev po_661_Signs_takeNamed (I : FieldType → ClassId) (q649 : Nat) (q650 : Nat) (q651 : Nat) (p652 : Int32) (p653 : Int32) (p654 : Int32) (p655 : Int32) (p656 : Int32) (p657 : Int32) (p658 : Int32) (f659 : Nat → Int32) : Option Value → va_W → Prop := fun r w => ∃ (o671 : Int32) (o672 : Int32) (o673 : Int32), r = none ∧ w = [(q649, .inr (14, [.ref q650, .int o671, .int o672, .int p656, .int o673])), (q650, .inr (15, [.ref q651, .int p658])), (q651, .inl (I .byte, 8192, .inl f659))] ∧ gB o671 0 3 ∧ gB o672 (-2147483648) 2147483647 ∧ gB o673 (-2147483648) 2147483647 ∧ (o671.toInt ≠ 5 ∨ (0 ≤ o672.toInt ∧ o672.toInt ≤ 13))
set_option maxRecDepth 100000 in
set_option maxHeartbeats 4000000 in
theorem ct_661_Signs_takeNamed (l : Launch) (hl0 : l.stackTraces = false) (D : va_G) (I : FieldType → ClassId) (q649 : Nat) (q650 : Nat) (q651 : Nat) (p652 : Int32) (p653 : Int32) (p654 : Int32) (p655 : Int32) (p656 : Int32) (p657 : Int32) (p658 : Int32) (f659 : Nat → Int32) (bp652 : gB p652 2 3) (bp658 : gB p658 0 8192) (bf659 : gF f659 (-128) 127) (x660 : (p654.toInt ≠ 5 ∨ (0 ≤ p655.toInt ∧ p655.toInt ≤ 13))) : Ct (gV D I) l yX9_takeNamed cX9_takeNamed 5 none 2 47 0 0 [.ref q649, .int p652, .int p653] [(q649, .inr (14, [.ref q650, .int p654, .int p655, .int p656, .int p657])), (q650, .inr (15, [.ref q651, .int p658])), (q651, .inl (I .byte, 8192, .inl f659))] (po_661_Signs_takeNamed I q649 q650 q651 p652 p653 p654 p655 p656 p657 p658 f659) gN := by
  refine Ct_of hl0 (by decide) (Nat.le_of_ble_eq_true rfl) ?_
  have bp653 := gB_any p653
  have bp654 := gB_any p654
  have bp655 := gB_any p655
  have bp656 := gB_any p656
  have bp657 := gB_any p657
  refine G_aload_n 0 d_cX9_takeNamed_0 rfl ?_
  refine G_aload_n 0 d_cX9_takeNamed_1 rfl ?_
  refine G_getf 0 3 d_cX9_takeNamed_2 rfl (gk_X9 D I) (Nat.le_of_ble_eq_true rfl) w_1_82 rfl ?_
  refine G_iconst 1 d_cX9_takeNamed_5 (by decide +kernel) ?_
  refine G_iadd d_cX9_takeNamed_6 (G_nam fun z662 hz662 => ?_)
  have bz662 : gB z662 (-2147483648) 2147483647 := gB_any z662
  refine G_callV (As := [.int z662]) (wr := []) (gV_ok D I) (ct_469_Signs_takeDigits l hl0 D I q649 q650 q651 z662 p654 p655 p656 p657 p658 f659 bp658 bf659 (by omega)) d_cX9_takeNamed_7 ⟨w_3_31, w_1_4, w_3_34, by decide, rfl, (Nat.le_of_ble_eq_true rfl), (Nat.le_of_ble_eq_true rfl)⟩ w_3_33 w_p_2 0 rfl rfl [0, 1, 2] [] rfl rfl rfl rfl (by decide) (Nat.le_of_ble_eq_true rfl) (Nat.le_of_ble_eq_true rfl) (Nat.le_of_ble_eq_true rfl) (fun r w hp => ?_) (fun _ _ _ z => z.elim)
  obtain ⟨ol663, o664, rfl, rfl, bo664⟩ := hp
  change G _ _ _ _ _ _ _ (.long ol663 :: _) _ _ _
  refine G_ws (ws' := [(q649, .inr (14, [.ref q650, .int p654, .int p655, .int p656, .int o664])), (q650, .inr (15, [.ref q651, .int p658])), (q651, .inl (I .byte, 8192, .inl f659))]) (cs' := 0) (sl' := 0) rfl rfl rfl ?_
  refine G_lstore_n (L' := [(3, .long ol663), (0, .ref q649), (1, .int p652), (2, .int p653)]) d_cX9_takeNamed_10 (Nat.le_of_ble_eq_true rfl) rfl ?_
  refine G_aload_n 1 d_cX9_takeNamed_11 rfl ?_
  refine G_lload_n 0 d_cX9_takeNamed_12 rfl ?_
  refine G_l2i d_cX9_takeNamed_13 (G_nam fun z665 hz665 => ?_)
  have bz665 : gB z665 (-2147483648) 2147483647 := gB_any z665
  refine G_putf (ws' := [(q649, .inr (14, [.ref q650, .int p654, .int z665, .int p656, .int o664])), (q650, .inr (15, [.ref q651, .int p658])), (q651, .inl (I .byte, 8192, .inl f659))]) 0 2 d_cX9_takeNamed_14 rfl (gk_X9 D I) (Nat.le_of_ble_eq_true rfl) w_1_81 rfl rfl rfl (Nat.le_of_ble_eq_true rfl) rfl ?_
  refine G_aload_n 1 d_cX9_takeNamed_17 rfl ?_
  refine G_lload_n 0 d_cX9_takeNamed_18 rfl ?_
  refine G_iload_n 3 d_cX9_takeNamed_19 rfl ?_
  refine G_i2l d_cX9_takeNamed_20 (G_namL fun u666 hu666 => ?_)
  refine G_lcmp d_cX9_takeNamed_21 (G_nam fun z667 hz667 => ?_)
  have bz667 : gB z667 (-1) 1 := gB_cmp hz667
  refine G_if_ge 29 d_cX9_takeNamed_22 (by decide +kernel) (fun hc668 => ?_) (fun hc668 => ?_)
  · have r669 : 0 ≤ z667.toInt := gj_leL hc668 (show Int32.toInt 0 = 0 by decide)
    have bz667' : gB z667 0 1 := ⟨by omega, by omega⟩
    refine G_iconst 0 d_cX9_takeNamed_29 (by decide +kernel) ?_
    refine G_putf (ws' := [(q649, .inr (14, [.ref q650, .int 0, .int z665, .int p656, .int o664])), (q650, .inr (15, [.ref q651, .int p658])), (q651, .inl (I .byte, 8192, .inl f659))]) 0 1 d_cX9_takeNamed_30 rfl (gk_X9 D I) (Nat.le_of_ble_eq_true rfl) w_1_80 rfl rfl rfl (Nat.le_of_ble_eq_true rfl) rfl ?_
    exact G_vret d_cX9_takeNamed_33 rfl (Nat.le_of_ble_eq_true rfl) (Nat.le_of_ble_eq_true rfl) ⟨0, z665, o664, rfl, rfl, (gB_w (gBl (show Int32.toInt 0 = 0 by decide)) (by decide) (by decide)), bz665, bo664, (by have qa0 : Int32.toInt 0 = 0 := (by decide); omega)⟩
  · have r670 : z667.toInt < 0 := gj_nleL hc668 (show Int32.toInt 0 = 0 by decide)
    have bz667' : gB z667 (-1) (-1) := ⟨by omega, by omega⟩
    have lhc668 := gC_cmpS hz667 (by omega)
    refine G_iload_n 2 d_cX9_takeNamed_25 rfl ?_
    refine G_goto 30 d_cX9_takeNamed_26 (by decide +kernel) ?_
    refine G_putf (ws' := [(q649, .inr (14, [.ref q650, .int p652, .int z665, .int p656, .int o664])), (q650, .inr (15, [.ref q651, .int p658])), (q651, .inl (I .byte, 8192, .inl f659))]) 0 1 d_cX9_takeNamed_30 rfl (gk_X9 D I) (Nat.le_of_ble_eq_true rfl) w_1_80 rfl rfl rfl (Nat.le_of_ble_eq_true rfl) rfl ?_
    exact G_vret d_cX9_takeNamed_33 rfl (Nat.le_of_ble_eq_true rfl) (Nat.le_of_ble_eq_true rfl) ⟨p652, z665, o664, rfl, rfl, (gB_w bp652 (by decide) (by decide)), bz665, bo664, (by omega)⟩
