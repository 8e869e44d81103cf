theorem d_cX10_size_0 : decode cX10_size 0 = .ok (.aload_n 0, 1) := by decide +kernel
theorem d_cX10_size_1 : decode cX10_size 1 = .ok (.getfield 15, 3) := by decide +kernel
theorem w_1_60 : (Jvm.Cond.fieldLink "SpillForge$Tape" (15 : Nat) "SpillForge$Tape" "size" "I") ∈ gw := gw_1 60 rfl rfl
theorem d_cX10_size_4 : decode cX10_size 4 = .ok (.ireturn, 1) := by decide +kernel
theorem d_cX10_hasRoom_0 : decode cX10_hasRoom 0 = .ok (.aload_n 0, 1) := by decide +kernel
theorem d_cX10_hasRoom_1 : decode cX10_hasRoom 1 = .ok (.getfield 15, 3) := by decide +kernel
theorem d_cX10_hasRoom_4 : decode cX10_hasRoom 4 = .ok (.iload_n 1, 1) := by decide +kernel
theorem d_cX10_hasRoom_5 : decode cX10_hasRoom 5 = .ok (.iadd, 1) := by decide +kernel
theorem d_cX10_hasRoom_6 : decode cX10_hasRoom 6 = .ok (.aload_n 0, 1) := by decide +kernel
theorem d_cX10_hasRoom_7 : decode cX10_hasRoom 7 = .ok (.getfield 9, 3) := by decide +kernel
theorem w_1_59 : (Jvm.Cond.fieldLink "SpillForge$Tape" (9 : Nat) "SpillForge$Tape" "bytes" "[B") ∈ gw := gw_1 59 rfl rfl
theorem d_cX10_hasRoom_10 : decode cX10_hasRoom 10 = .ok (.arraylength, 1) := by decide +kernel
theorem d_cX10_hasRoom_11 : decode cX10_hasRoom 11 = .ok (.if_icmp .gt 7, 3) := by decide +kernel
theorem d_cX10_hasRoom_18 : decode cX10_hasRoom 18 = .ok (.iconst 0, 1) := by decide +kernel
theorem d_cX10_hasRoom_19 : decode cX10_hasRoom 19 = .ok (.ireturn, 1) := by decide +kernel
theorem d_cX10_hasRoom_14 : decode cX10_hasRoom 14 = .ok (.iconst 1, 1) := by decide +kernel
theorem d_cX10_hasRoom_15 : decode cX10_hasRoom 15 = .ok (.goto 4, 3) := by decide +kernel
theorem d_cX10_cutTo_0 : decode cX10_cutTo 0 = .ok (.aload_n 0, 1) := by decide +kernel
theorem d_cX10_cutTo_1 : decode cX10_cutTo 1 = .ok (.iconst 0, 1) := by decide +kernel
theorem d_cX10_cutTo_2 : decode cX10_cutTo 2 = .ok (.iload_n 1, 1) := by decide +kernel
theorem d_cX10_cutTo_3 : decode cX10_cutTo 3 = .ok (.aload_n 0, 1) := by decide +kernel
theorem d_cX10_cutTo_4 : decode cX10_cutTo 4 = .ok (.getfield 15, 3) := by decide +kernel
theorem d_cX10_cutTo_7 : decode cX10_cutTo 7 = .ok (.invokestatic 19, 3) := by decide +kernel
theorem w_3_226 : (Jvm.Cond.methodLink "SpillForge$Tape" (19 : Nat) ({ cls := "java/lang/Math", name := "min", desc := "(II)I" } : Jvm.MethodName)) ∈ gw := gw_3 226 rfl rfl
theorem w_3_227 : (Jvm.Cond.static ({ cls := "java/lang/Math", name := "min", desc := "(II)I" } : Jvm.MethodName)) ∈ gw := gw_3 227 rfl rfl
theorem w_1_6 : (Jvm.Cond.initialized "java/lang/Math") ∈ gw := gw_1 6 rfl rfl
theorem w_3_228 : (Jvm.Cond.code ({ cls := "java/lang/Math", name := "min", desc := "(II)I" } : Jvm.MethodName) prog_32_method_69_code (2 : Nat) (Option.some Jvm.ClassFile.FieldType.int)) ∈ gw := gw_3 228 rfl rfl
theorem d_cX10_cutTo_10 : decode cX10_cutTo 10 = .ok (.invokestatic 25, 3) := by decide +kernel
theorem w_3_229 : (Jvm.Cond.methodLink "SpillForge$Tape" (25 : Nat) ({ cls := "java/lang/Math", name := "max", desc := "(II)I" } : Jvm.MethodName)) ∈ gw := gw_3 229 rfl rfl
theorem w_1_140 : (Jvm.Cond.static ({ cls := "java/lang/Math", name := "max", desc := "(II)I" } : Jvm.MethodName)) ∈ gw := gw_1 140 rfl rfl
theorem w_1_141 : (Jvm.Cond.code ({ cls := "java/lang/Math", name := "max", desc := "(II)I" } : Jvm.MethodName) prog_32_method_65_code (2 : Nat) (Option.some Jvm.ClassFile.FieldType.int)) ∈ gw := gw_1 141 rfl rfl
theorem d_cX10_cutTo_13 : decode cX10_cutTo 13 = .ok (.putfield 15, 3) := by decide +kernel
theorem d_cX10_cutTo_16 : decode cX10_cutTo 16 = .ok (.return_, 1) := by decide +kernel
theorem d_cX10_byteAt_0 : decode cX10_byteAt 0 = .ok (.iload_n 1, 1) := by decide +kernel
theorem d_cX10_byteAt_1 : decode cX10_byteAt 1 = .ok (.ifCond .lt 24, 3) := by decide +kernel
theorem d_cX10_byteAt_25 : decode cX10_byteAt 25 = .ok (.iconst (-1), 1) := by decide +kernel
theorem d_cX10_byteAt_26 : decode cX10_byteAt 26 = .ok (.ireturn, 1) := by decide +kernel
theorem d_cX10_byteAt_4 : decode cX10_byteAt 4 = .ok (.iload_n 1, 1) := by decide +kernel
theorem d_cX10_byteAt_5 : decode cX10_byteAt 5 = .ok (.aload_n 0, 1) := by decide +kernel
theorem d_cX10_byteAt_6 : decode cX10_byteAt 6 = .ok (.getfield 15, 3) := by decide +kernel
theorem d_cX10_byteAt_9 : decode cX10_byteAt 9 = .ok (.if_icmp .ge 16, 3) := by decide +kernel
theorem d_cX10_byteAt_12 : decode cX10_byteAt 12 = .ok (.aload_n 0, 1) := by decide +kernel
theorem d_cX10_byteAt_13 : decode cX10_byteAt 13 = .ok (.getfield 9, 3) := by decide +kernel
theorem d_cX10_byteAt_16 : decode cX10_byteAt 16 = .ok (.iload_n 1, 1) := by decide +kernel
theorem d_cX10_byteAt_17 : decode cX10_byteAt 17 = .ok (.baload, 1) := by decide +kernel
theorem d_cX10_byteAt_18 : decode cX10_byteAt 18 = .ok (.sipush 255, 3) := by decide +kernel
theorem d_cX10_byteAt_21 : decode cX10_byteAt 21 = .ok (.iand, 1) := by decide +kernel
theorem d_cX10_byteAt_22 : decode cX10_byteAt 22 = .ok (.goto 4, 3) := by decide +kernel
theorem d_cX10_addInt_0 : decode cX10_addInt 0 = .ok (.bipush 24, 2) := by decide +kernel
theorem d_cX10_addInt_2 : decode cX10_addInt 2 = .ok (.istore_n 2, 1) := by decide +kernel
theorem d_cX10_addInt_3 : decode cX10_addInt 3 = .ok (.iload_n 2, 1) := by decide +kernel
theorem d_cX10_addInt_4 : decode cX10_addInt 4 = .ok (.ifCond .lt 44, 3) := by decide +kernel
theorem d_cX10_addInt_48 : decode cX10_addInt 48 = .ok (.return_, 1) := by decide +kernel
theorem d_cX10_addInt_7 : decode cX10_addInt 7 = .ok (.aload_n 0, 1) := by decide +kernel
theorem d_cX10_addInt_8 : decode cX10_addInt 8 = .ok (.getfield 15, 3) := by decide +kernel
theorem d_cX10_addInt_11 : decode cX10_addInt 11 = .ok (.aload_n 0, 1) := by decide +kernel
theorem d_cX10_addInt_12 : decode cX10_addInt 12 = .ok (.getfield 9, 3) := by decide +kernel
theorem d_cX10_addInt_15 : decode cX10_addInt 15 = .ok (.arraylength, 1) := by decide +kernel
theorem d_cX10_addInt_16 : decode cX10_addInt 16 = .ok (.if_icmp .ge 32, 3) := by decide +kernel
theorem d_cX10_addInt_19 : decode cX10_addInt 19 = .ok (.aload_n 0, 1) := by decide +kernel
theorem d_cX10_addInt_20 : decode cX10_addInt 20 = .ok (.getfield 9, 3) := by decide +kernel
theorem d_cX10_addInt_23 : decode cX10_addInt 23 = .ok (.aload_n 0, 1) := by decide +kernel
theorem d_cX10_addInt_24 : decode cX10_addInt 24 = .ok (.getfield 15, 3) := by decide +kernel
theorem d_cX10_addInt_27 : decode cX10_addInt 27 = .ok (.iload_n 1, 1) := by decide +kernel
theorem d_cX10_addInt_28 : decode cX10_addInt 28 = .ok (.iload_n 2, 1) := by decide +kernel
theorem d_cX10_addInt_29 : decode cX10_addInt 29 = .ok (.ishr, 1) := by decide +kernel
theorem d_cX10_addInt_30 : decode cX10_addInt 30 = .ok (.i2b, 1) := by decide +kernel
theorem d_cX10_addInt_31 : decode cX10_addInt 31 = .ok (.bastore, 1) := by decide +kernel
theorem d_cX10_addInt_32 : decode cX10_addInt 32 = .ok (.aload_n 0, 1) := by decide +kernel
theorem d_cX10_addInt_33 : decode cX10_addInt 33 = .ok (.dup, 1) := by decide +kernel
theorem d_cX10_addInt_34 : decode cX10_addInt 34 = .ok (.getfield 15, 3) := by decide +kernel
theorem d_cX10_addInt_37 : decode cX10_addInt 37 = .ok (.iconst 1, 1) := by decide +kernel
theorem d_cX10_addInt_38 : decode cX10_addInt 38 = .ok (.iadd, 1) := by decide +kernel
theorem d_cX10_addInt_39 : decode cX10_addInt 39 = .ok (.putfield 15, 3) := by decide +kernel
theorem d_cX10_addInt_42 : decode cX10_addInt 42 = .ok (.iinc 2 (-8), 3) := by decide +kernel
theorem d_cX10_addInt_45 : decode cX10_addInt 45 = .ok (.goto (-42), 3) := by decide +kernel
theorem d_cX10_intAt_0 : decode cX10_intAt 0 = .ok (.iconst 0, 1) := by decide +kernel
theorem d_cX10_intAt_1 : decode cX10_intAt 1 = .ok (.istore_n 2, 1) := by decide +kernel
theorem d_cX10_intAt_2 : decode cX10_intAt 2 = .ok (.iconst 0, 1) := by decide +kernel
theorem d_cX10_intAt_3 : decode cX10_intAt 3 = .ok (.istore_n 3, 1) := by decide +kernel
theorem d_cX10_intAt_4 : decode cX10_intAt 4 = .ok (.iload_n 3, 1) := by decide +kernel
theorem d_cX10_intAt_5 : decode cX10_intAt 5 = .ok (.iconst 4, 1) := by decide +kernel
theorem d_cX10_intAt_6 : decode cX10_intAt 6 = .ok (.if_icmp .ge 26, 3) := by decide +kernel
theorem d_cX10_intAt_32 : decode cX10_intAt 32 = .ok (.iload_n 2, 1) := by decide +kernel
theorem d_cX10_intAt_33 : decode cX10_intAt 33 = .ok (.ireturn, 1) := by decide +kernel
theorem d_cX10_intAt_9 : decode cX10_intAt 9 = .ok (.iload_n 2, 1) := by decide +kernel
theorem d_cX10_intAt_10 : decode cX10_intAt 10 = .ok (.bipush 8, 2) := by decide +kernel
theorem d_cX10_intAt_12 : decode cX10_intAt 12 = .ok (.ishl, 1) := by decide +kernel
theorem d_cX10_intAt_13 : decode cX10_intAt 13 = .ok (.aload_n 0, 1) := by decide +kernel
theorem d_cX10_intAt_14 : decode cX10_intAt 14 = .ok (.iload_n 1, 1) := by decide +kernel
theorem d_cX10_intAt_15 : decode cX10_intAt 15 = .ok (.iload_n 3, 1) := by decide +kernel
theorem d_cX10_intAt_16 : decode cX10_intAt 16 = .ok (.iadd, 1) := by decide +kernel
theorem d_cX10_intAt_17 : decode cX10_intAt 17 = .ok (.invokevirtual 28, 3) := by decide +kernel
theorem w_4_182 : (Jvm.Cond.methodLink "SpillForge$Tape" (28 : Nat) ({ cls := "SpillForge$Tape", name := "byteAt", desc := "(I)I" } : Jvm.MethodName)) ∈ gw := gw_4 182 rfl rfl
theorem w_1_2 : (Jvm.Cond.initialized "SpillForge$Tape") ∈ gw := gw_1 2 rfl rfl
theorem w_3_23 : (Jvm.Cond.code ({ cls := "SpillForge$Tape", name := "byteAt", desc := "(I)I" } : Jvm.MethodName) prog_12_method_6_code (2 : Nat) (Option.some Jvm.ClassFile.FieldType.int)) ∈ gw := gw_3 23 rfl rfl
theorem w_3_21 : (Jvm.Cond.instanceMethod ({ cls := "SpillForge$Tape", name := "byteAt", desc := "(I)I" } : Jvm.MethodName)) ∈ gw := gw_3 21 rfl rfl
theorem w_3_22 : (Jvm.Cond.selects "SpillForge$Tape" ({ cls := "SpillForge$Tape", name := "byteAt", desc := "(I)I" } : Jvm.MethodName) ({ cls := "SpillForge$Tape", name := "byteAt", desc := "(I)I" } : Jvm.MethodName)) ∈ gw := gw_3 22 rfl rfl
theorem d_cX10_intAt_20 : decode cX10_intAt 20 = .ok (.sipush 255, 3) := by decide +kernel
theorem d_cX10_intAt_23 : decode cX10_intAt 23 = .ok (.iand, 1) := by decide +kernel
theorem d_cX10_intAt_24 : decode cX10_intAt 24 = .ok (.ior, 1) := by decide +kernel
theorem d_cX10_intAt_25 : decode cX10_intAt 25 = .ok (.istore_n 2, 1) := by decide +kernel
theorem d_cX10_intAt_26 : decode cX10_intAt 26 = .ok (.iinc 3 1, 3) := by decide +kernel
theorem d_cX10_intAt_29 : decode cX10_intAt 29 = .ok (.goto (-25), 3) := by decide +kernel
theorem d_cX9_kind_0 : decode cX9_kind 0 = .ok (.aload_n 0, 1) := by decide +kernel
theorem d_cX9_kind_1 : decode cX9_kind 1 = .ok (.getfield 15, 3) := by decide +kernel
theorem w_1_80 : (Jvm.Cond.fieldLink "SpillForge$Signs" (15 : Nat) "SpillForge$Signs" "kind" "I") ∈ gw := gw_1 80 rfl rfl
theorem d_cX9_kind_4 : decode cX9_kind 4 = .ok (.ireturn, 1) := by decide +kernel
theorem d_cX9_value_0 : decode cX9_value 0 = .ok (.aload_n 0, 1) := by decide +kernel
theorem d_cX9_value_1 : decode cX9_value 1 = .ok (.getfield 19, 3) := by decide +kernel
theorem w_1_81 : (Jvm.Cond.fieldLink "SpillForge$Signs" (19 : Nat) "SpillForge$Signs" "value" "I") ∈ gw := gw_1 81 rfl rfl
theorem d_cX9_value_4 : decode cX9_value 4 = .ok (.ireturn, 1) := by decide +kernel
theorem d_cX9_place_0 : decode cX9_place 0 = .ok (.aload_n 0, 1) := by decide +kernel
theorem d_cX9_place_1 : decode cX9_place 1 = .ok (.getfield 22, 3) := by decide +kernel
theorem w_1_82 : (Jvm.Cond.fieldLink "SpillForge$Signs" (22 : Nat) "SpillForge$Signs" "place" "I") ∈ gw := gw_1 82 rfl rfl
theorem d_cX9_place_4 : decode cX9_place 4 = .ok (.ireturn, 1) := by decide +kernel
theorem d_cX9_isDigit_0 : decode cX9_isDigit 0 = .ok (.iload_n 0, 1) := by decide +kernel
theorem d_cX9_isDigit_1 : decode cX9_isDigit 1 = .ok (.bipush 48, 2) := by decide +kernel
theorem d_cX9_isDigit_3 : decode cX9_isDigit 3 = .ok (.if_icmp .lt 13, 3) := by decide +kernel
theorem d_cX9_isDigit_16 : decode cX9_isDigit 16 = .ok (.iconst 0, 1) := by decide +kernel
theorem d_cX9_isDigit_17 : decode cX9_isDigit 17 = .ok (.ireturn, 1) := by decide +kernel
theorem d_cX9_isDigit_6 : decode cX9_isDigit 6 = .ok (.iload_n 0, 1) := by decide +kernel
theorem d_cX9_isDigit_7 : decode cX9_isDigit 7 = .ok (.bipush 57, 2) := by decide +kernel
theorem d_cX9_isDigit_9 : decode cX9_isDigit 9 = .ok (.if_icmp .gt 7, 3) := by decide +kernel
theorem d_cX9_isDigit_12 : decode cX9_isDigit 12 = .ok (.iconst 1, 1) := by decide +kernel
theorem d_cX9_isDigit_13 : decode cX9_isDigit 13 = .ok (.goto 4, 3) := by decide +kernel
theorem d_cX9_isLetter_0 : decode cX9_isLetter 0 = .ok (.iload_n 0, 1) := by decide +kernel
theorem d_cX9_isLetter_1 : decode cX9_isLetter 1 = .ok (.bipush 97, 2) := by decide +kernel
theorem d_cX9_isLetter_3 : decode cX9_isLetter 3 = .ok (.if_icmp .lt 13, 3) := by decide +kernel
theorem d_cX9_isLetter_16 : decode cX9_isLetter 16 = .ok (.iconst 0, 1) := by decide +kernel
theorem d_cX9_isLetter_17 : decode cX9_isLetter 17 = .ok (.ireturn, 1) := by decide +kernel
theorem d_cX9_isLetter_6 : decode cX9_isLetter 6 = .ok (.iload_n 0, 1) := by decide +kernel
theorem d_cX9_isLetter_7 : decode cX9_isLetter 7 = .ok (.bipush 122, 2) := by decide +kernel
theorem d_cX9_isLetter_9 : decode cX9_isLetter 9 = .ok (.if_icmp .gt 7, 3) := by decide +kernel
theorem d_cX9_isLetter_12 : decode cX9_isLetter 12 = .ok (.iconst 1, 1) := by decide +kernel
theorem d_cX9_isLetter_13 : decode cX9_isLetter 13 = .ok (.goto 4, 3) := by decide +kernel
theorem d_cX9_skipBlanks_0 : decode cX9_skipBlanks 0 = .ok (.iconst 0, 1) := by decide +kernel
theorem d_cX9_skipBlanks_1 : decode cX9_skipBlanks 1 = .ok (.istore_n 2, 1) := by decide +kernel
theorem d_cX9_skipBlanks_2 : decode cX9_skipBlanks 2 = .ok (.iload_n 1, 1) := by decide +kernel
theorem d_cX9_skipBlanks_3 : decode cX9_skipBlanks 3 = .ok (.istore_n 3, 1) := by decide +kernel
theorem d_cX9_skipBlanks_4 : decode cX9_skipBlanks 4 = .ok (.iload_n 3, 1) := by decide +kernel
theorem d_cX9_skipBlanks_5 : decode cX9_skipBlanks 5 = .ok (.aload_n 0, 1) := by decide +kernel
theorem d_cX9_skipBlanks_6 : decode cX9_skipBlanks 6 = .ok (.getfield 9, 3) := by decide +kernel
theorem w_1_79 : (Jvm.Cond.fieldLink "SpillForge$Signs" (9 : Nat) "SpillForge$Signs" "tape" "LSpillForge$Tape;") ∈ gw := gw_1 79 rfl rfl
theorem d_cX9_skipBlanks_9 : decode cX9_skipBlanks 9 = .ok (.invokevirtual 61, 3) := by decide +kernel
theorem w_3_16 : (Jvm.Cond.methodLink "SpillForge$Signs" (61 : Nat) ({ cls := "SpillForge$Tape", name := "size", desc := "()I" } : Jvm.MethodName)) ∈ gw := gw_3 16 rfl rfl
theorem w_3_19 : (Jvm.Cond.code ({ cls := "SpillForge$Tape", name := "size", desc := "()I" } : Jvm.MethodName) prog_12_method_2_code (1 : Nat) (Option.some Jvm.ClassFile.FieldType.int)) ∈ gw := gw_3 19 rfl rfl
theorem w_3_17 : (Jvm.Cond.instanceMethod ({ cls := "SpillForge$Tape", name := "size", desc := "()I" } : Jvm.MethodName)) ∈ gw := gw_3 17 rfl rfl
theorem w_3_18 : (Jvm.Cond.selects "SpillForge$Tape" ({ cls := "SpillForge$Tape", name := "size", desc := "()I" } : Jvm.MethodName) ({ cls := "SpillForge$Tape", name := "size", desc := "()I" } : Jvm.MethodName)) ∈ gw := gw_3 18 rfl rfl
theorem d_cX9_skipBlanks_12 : decode cX9_skipBlanks 12 = .ok (.if_icmp .ge 77, 3) := by decide +kernel
theorem d_cX9_skipBlanks_89 : decode cX9_skipBlanks 89 = .ok (.aload_n 0, 1) := by decide +kernel
theorem d_cX9_skipBlanks_90 : decode cX9_skipBlanks 90 = .ok (.getfield 9, 3) := by decide +kernel
theorem d_cX9_skipBlanks_93 : decode cX9_skipBlanks 93 = .ok (.invokevirtual 61, 3) := by decide +kernel
theorem d_cX9_skipBlanks_96 : decode cX9_skipBlanks 96 = .ok (.ireturn, 1) := by decide +kernel
theorem d_cX9_skipBlanks_15 : decode cX9_skipBlanks 15 = .ok (.aload_n 0, 1) := by decide +kernel
theorem d_cX9_skipBlanks_16 : decode cX9_skipBlanks 16 = .ok (.getfield 9, 3) := by decide +kernel
theorem d_cX9_skipBlanks_19 : decode cX9_skipBlanks 19 = .ok (.iload_n 3, 1) := by decide +kernel
theorem d_cX9_skipBlanks_20 : decode cX9_skipBlanks 20 = .ok (.invokevirtual 35, 3) := by decide +kernel
theorem w_3_20 : (Jvm.Cond.methodLink "SpillForge$Signs" (35 : Nat) ({ cls := "SpillForge$Tape", name := "byteAt", desc := "(I)I" } : Jvm.MethodName)) ∈ gw := gw_3 20 rfl rfl
theorem d_cX9_skipBlanks_23 : decode cX9_skipBlanks 23 = .ok (.istore 4, 2) := by decide +kernel
theorem d_cX9_skipBlanks_25 : decode cX9_skipBlanks 25 = .ok (.iload 4, 2) := by decide +kernel
theorem d_cX9_skipBlanks_27 : decode cX9_skipBlanks 27 = .ok (.bipush 10, 2) := by decide +kernel
theorem d_cX9_skipBlanks_29 : decode cX9_skipBlanks 29 = .ok (.if_icmp .eq 18, 3) := by decide +kernel
theorem d_cX9_skipBlanks_32 : decode cX9_skipBlanks 32 = .ok (.iload_n 2, 1) := by decide +kernel
theorem d_cX9_skipBlanks_33 : decode cX9_skipBlanks 33 = .ok (.ifCond .ne 10, 3) := by decide +kernel
theorem d_cX9_skipBlanks_43 : decode cX9_skipBlanks 43 = .ok (.iconst 1, 1) := by decide +kernel
theorem d_cX9_skipBlanks_44 : decode cX9_skipBlanks 44 = .ok (.goto 4, 3) := by decide +kernel
theorem d_cX9_skipBlanks_48 : decode cX9_skipBlanks 48 = .ok (.istore_n 2, 1) := by decide +kernel
theorem d_cX9_skipBlanks_49 : decode cX9_skipBlanks 49 = .ok (.iload_n 2, 1) := by decide +kernel
theorem d_cX9_skipBlanks_50 : decode cX9_skipBlanks 50 = .ok (.ifCond .ne 33, 3) := by decide +kernel
theorem d_cX9_skipBlanks_83 : decode cX9_skipBlanks 83 = .ok (.iinc 3 1, 3) := by decide +kernel
theorem d_cX9_skipBlanks_86 : decode cX9_skipBlanks 86 = .ok (.goto (-82), 3) := by decide +kernel
theorem d_cX9_skipBlanks_36 : decode cX9_skipBlanks 36 = .ok (.iload 4, 2) := by decide +kernel
theorem d_cX9_skipBlanks_38 : decode cX9_skipBlanks 38 = .ok (.bipush 59, 2) := by decide +kernel
theorem d_cX9_skipBlanks_40 : decode cX9_skipBlanks 40 = .ok (.if_icmp .ne 7, 3) := by decide +kernel
theorem d_cX9_skipBlanks_47 : decode cX9_skipBlanks 47 = .ok (.iconst 0, 1) := by decide +kernel
theorem d_cX9_skipBlanks_53 : decode cX9_skipBlanks 53 = .ok (.iload 4, 2) := by decide +kernel
theorem d_cX9_skipBlanks_55 : decode cX9_skipBlanks 55 = .ok (.bipush 9, 2) := by decide +kernel
theorem d_cX9_skipBlanks_57 : decode cX9_skipBlanks 57 = .ok (.if_icmp .eq 26, 3) := by decide +kernel
theorem d_cX9_skipBlanks_60 : decode cX9_skipBlanks 60 = .ok (.iload 4, 2) := by decide +kernel
theorem d_cX9_skipBlanks_62 : decode cX9_skipBlanks 62 = .ok (.bipush 10, 2) := by decide +kernel
theorem d_cX9_skipBlanks_64 : decode cX9_skipBlanks 64 = .ok (.if_icmp .eq 19, 3) := by decide +kernel
theorem d_cX9_skipBlanks_67 : decode cX9_skipBlanks 67 = .ok (.iload 4, 2) := by decide +kernel
theorem d_cX9_skipBlanks_69 : decode cX9_skipBlanks 69 = .ok (.bipush 13, 2) := by decide +kernel
theorem d_cX9_skipBlanks_71 : decode cX9_skipBlanks 71 = .ok (.if_icmp .eq 12, 3) := by decide +kernel
theorem d_cX9_skipBlanks_74 : decode cX9_skipBlanks 74 = .ok (.iload 4, 2) := by decide +kernel
theorem d_cX9_skipBlanks_76 : decode cX9_skipBlanks 76 = .ok (.bipush 32, 2) := by decide +kernel
theorem d_cX9_skipBlanks_78 : decode cX9_skipBlanks 78 = .ok (.if_icmp .eq 5, 3) := by decide +kernel
theorem d_cX9_skipBlanks_81 : decode cX9_skipBlanks 81 = .ok (.iload_n 3, 1) := by decide +kernel
theorem d_cX9_skipBlanks_82 : decode cX9_skipBlanks 82 = .ok (.ireturn, 1) := by decide +kernel
theorem d_cJ9_min_f86c9_0 : decode cJ9_min_f86c9 0 = .ok (.lload_n 0, 1) := by decide +kernel
theorem d_cJ9_min_f86c9_1 : decode cJ9_min_f86c9 1 = .ok (.lload_n 2, 1) := by decide +kernel
theorem d_cJ9_min_f86c9_2 : decode cJ9_min_f86c9 2 = .ok (.lcmp, 1) := by decide +kernel
theorem d_cJ9_min_f86c9_3 : decode cJ9_min_f86c9 3 = .ok (.ifCond .gt 7, 3) := by decide +kernel
theorem d_cJ9_min_f86c9_10 : decode cJ9_min_f86c9 10 = .ok (.lload_n 2, 1) := by decide +kernel
theorem d_cJ9_min_f86c9_11 : decode cJ9_min_f86c9 11 = .ok (.lreturn, 1) := by decide +kernel
theorem d_cJ9_min_f86c9_6 : decode cJ9_min_f86c9 6 = .ok (.lload_n 0, 1) := by decide +kernel
theorem d_cJ9_min_f86c9_7 : decode cJ9_min_f86c9 7 = .ok (.goto 4, 3) := by decide +kernel
theorem d_cX9_takeDigits_0 : decode cX9_takeDigits 0 = .ok (.lconst 0, 1) := by decide +kernel
theorem d_cX9_takeDigits_1 : decode cX9_takeDigits 1 = .ok (.lstore_n 2, 1) := by decide +kernel
theorem d_cX9_takeDigits_2 : decode cX9_takeDigits 2 = .ok (.iload_n 1, 1) := by decide +kernel
theorem d_cX9_takeDigits_3 : decode cX9_takeDigits 3 = .ok (.istore 4, 2) := by decide +kernel
theorem d_cX9_takeDigits_5 : decode cX9_takeDigits 5 = .ok (.iload 4, 2) := by decide +kernel
theorem d_cX9_takeDigits_7 : decode cX9_takeDigits 7 = .ok (.aload_n 0, 1) := by decide +kernel
theorem d_cX9_takeDigits_8 : decode cX9_takeDigits 8 = .ok (.getfield 9, 3) := by decide +kernel
theorem d_cX9_takeDigits_11 : decode cX9_takeDigits 11 = .ok (.invokevirtual 61, 3) := by decide +kernel
theorem d_cX9_takeDigits_14 : decode cX9_takeDigits 14 = .ok (.if_icmp .ge 51, 3) := by decide +kernel
theorem d_cX9_takeDigits_65 : decode cX9_takeDigits 65 = .ok (.aload_n 0, 1) := by decide +kernel
theorem d_cX9_takeDigits_66 : decode cX9_takeDigits 66 = .ok (.iload 4, 2) := by decide +kernel
theorem d_cX9_takeDigits_68 : decode cX9_takeDigits 68 = .ok (.putfield 25, 3) := by decide +kernel
theorem w_1_83 : (Jvm.Cond.fieldLink "SpillForge$Signs" (25 : Nat) "SpillForge$Signs" "behind" "I") ∈ gw := gw_1 83 rfl rfl
theorem d_cX9_takeDigits_71 : decode cX9_takeDigits 71 = .ok (.lload_n 2, 1) := by decide +kernel
theorem d_cX9_takeDigits_72 : decode cX9_takeDigits 72 = .ok (.lreturn, 1) := by decide +kernel
theorem d_cX9_takeDigits_17 : decode cX9_takeDigits 17 = .ok (.aload_n 0, 1) := by decide +kernel
theorem d_cX9_takeDigits_18 : decode cX9_takeDigits 18 = .ok (.getfield 9, 3) := by decide +kernel
theorem d_cX9_takeDigits_21 : decode cX9_takeDigits 21 = .ok (.iload 4, 2) := by decide +kernel
theorem d_cX9_takeDigits_23 : decode cX9_takeDigits 23 = .ok (.invokevirtual 35, 3) := by decide +kernel
theorem d_cX9_takeDigits_26 : decode cX9_takeDigits 26 = .ok (.invokestatic 40, 3) := by decide +kernel
theorem w_3_24 : (Jvm.Cond.methodLink "SpillForge$Signs" (40 : Nat) ({ cls := "SpillForge$Signs", name := "isDigit", desc := "(I)Z" } : Jvm.MethodName)) ∈ gw := gw_3 24 rfl rfl
theorem w_1_4 : (Jvm.Cond.initialized "SpillForge$Signs") ∈ gw := gw_1 4 rfl rfl
theorem w_3_26 : (Jvm.Cond.code ({ cls := "SpillForge$Signs", name := "isDigit", desc := "(I)Z" } : Jvm.MethodName) prog_11_method_15_code (1 : Nat) (Option.some Jvm.ClassFile.FieldType.boolean)) ∈ gw := gw_3 26 rfl rfl
theorem w_3_25 : (Jvm.Cond.static ({ cls := "SpillForge$Signs", name := "isDigit", desc := "(I)Z" } : Jvm.MethodName)) ∈ gw := gw_3 25 rfl rfl
theorem d_cX9_takeDigits_29 : decode cX9_takeDigits 29 = .ok (.ifCond .eq 36, 3) := by decide +kernel
theorem d_cX9_takeDigits_32 : decode cX9_takeDigits 32 = .ok (.lload_n 2, 1) := by decide +kernel
theorem d_cX9_takeDigits_33 : decode cX9_takeDigits 33 = .ok (.ldc2_w 69, 3) := by decide +kernel
theorem w_3_35 : (Jvm.Cond.constantLong "SpillForge$Signs" (69 : Nat) (10 : Int64)) ∈ gw := gw_3 35 rfl rfl
theorem d_cX9_takeDigits_36 : decode cX9_takeDigits 36 = .ok (.lmul, 1) := by decide +kernel
theorem d_cX9_takeDigits_37 : decode cX9_takeDigits 37 = .ok (.aload_n 0, 1) := by decide +kernel
theorem d_cX9_takeDigits_38 : decode cX9_takeDigits 38 = .ok (.getfield 9, 3) := by decide +kernel
theorem d_cX9_takeDigits_41 : decode cX9_takeDigits 41 = .ok (.iload 4, 2) := by decide +kernel
theorem d_cX9_takeDigits_43 : decode cX9_takeDigits 43 = .ok (.invokevirtual 35, 3) := by decide +kernel
theorem d_cX9_takeDigits_46 : decode cX9_takeDigits 46 = .ok (.i2l, 1) := by decide +kernel
theorem d_cX9_takeDigits_47 : decode cX9_takeDigits 47 = .ok (.ladd, 1) := by decide +kernel
theorem d_cX9_takeDigits_48 : decode cX9_takeDigits 48 = .ok (.ldc2_w 71, 3) := by decide +kernel
theorem w_3_36 : (Jvm.Cond.constantLong "SpillForge$Signs" (71 : Nat) (48 : Int64)) ∈ gw := gw_3 36 rfl rfl
theorem d_cX9_takeDigits_51 : decode cX9_takeDigits 51 = .ok (.lsub, 1) := by decide +kernel
theorem d_cX9_takeDigits_52 : decode cX9_takeDigits 52 = .ok (.ldc2_w 73, 3) := by decide +kernel
theorem w_3_37 : (Jvm.Cond.constantLong "SpillForge$Signs" (73 : Nat) (1099511627776 : Int64)) ∈ gw := gw_3 37 rfl rfl
theorem d_cX9_takeDigits_55 : decode cX9_takeDigits 55 = .ok (.invokestatic 75, 3) := by decide +kernel
theorem w_3_38 : (Jvm.Cond.methodLink "SpillForge$Signs" (75 : Nat) ({ cls := "java/lang/Math", name := "min", desc := "(JJ)J" } : Jvm.MethodName)) ∈ gw := gw_3 38 rfl rfl
theorem w_3_40 : (Jvm.Cond.code ({ cls := "java/lang/Math", name := "min", desc := "(JJ)J" } : Jvm.MethodName) prog_32_method_70_code (4 : Nat) (Option.some Jvm.ClassFile.FieldType.long)) ∈ gw := gw_3 40 rfl rfl
theorem w_3_39 : (Jvm.Cond.static ({ cls := "java/lang/Math", name := "min", desc := "(JJ)J" } : Jvm.MethodName)) ∈ gw := gw_3 39 rfl rfl
theorem d_cX9_takeDigits_58 : decode cX9_takeDigits 58 = .ok (.lstore_n 2, 1) := by decide +kernel
theorem d_cX9_takeDigits_59 : decode cX9_takeDigits 59 = .ok (.iinc 4 1, 3) := by decide +kernel
theorem d_cX9_takeDigits_62 : decode cX9_takeDigits 62 = .ok (.goto (-57), 3) := by decide +kernel
theorem d_cX9_takeNumber_0 : decode cX9_takeNumber 0 = .ok (.aload_n 0, 1) := by decide +kernel
theorem d_cX9_takeNumber_1 : decode cX9_takeNumber 1 = .ok (.iload_n 1, 1) := by decide +kernel
theorem d_cX9_takeNumber_2 : decode cX9_takeNumber 2 = .ok (.ifCond .eq 12, 3) := by decide +kernel
theorem d_cX9_takeNumber_14 : decode cX9_takeNumber 14 = .ok (.aload_n 0, 1) := by decide +kernel
theorem d_cX9_takeNumber_15 : decode cX9_takeNumber 15 = .ok (.getfield 22, 3) := by decide +kernel
theorem d_cX9_takeNumber_18 : decode cX9_takeNumber 18 = .ok (.invokevirtual 65, 3) := by decide +kernel
theorem w_3_31 : (Jvm.Cond.methodLink "SpillForge$Signs" (65 : Nat) ({ cls := "SpillForge$Signs", name := "takeDigits", desc := "(I)J" } : Jvm.MethodName)) ∈ gw := gw_3 31 rfl rfl
theorem w_3_34 : (Jvm.Cond.code ({ cls := "SpillForge$Signs", name := "takeDigits", desc := "(I)J" } : Jvm.MethodName) prog_11_method_10_code (5 : Nat) (Option.some Jvm.ClassFile.FieldType.long)) ∈ gw := gw_3 34 rfl rfl
theorem w_3_33 : (Jvm.Cond.instanceMethod ({ cls := "SpillForge$Signs", name := "takeDigits", desc := "(I)J" } : Jvm.MethodName)) ∈ gw := gw_3 33 rfl rfl
theorem w_p_2 : Cond.selects "SpillForge$Signs" ⟨"SpillForge$Signs", "takeDigits", "(I)J"⟩ ⟨"SpillForge$Signs", "takeDigits", "(I)J"⟩ ∈ gw := gw_p _ 2 rfl rfl rfl
theorem d_cX9_takeNumber_21 : decode cX9_takeNumber 21 = .ok (.lstore_n 2, 1) := by decide +kernel
theorem d_cX9_takeNumber_22 : decode cX9_takeNumber 22 = .ok (.iload_n 1, 1) := by decide +kernel
theorem d_cX9_takeNumber_23 : decode cX9_takeNumber 23 = .ok (.ifCond .eq 8, 3) := by decide +kernel
theorem d_cX9_takeNumber_31 : decode cX9_takeNumber 31 = .ok (.lload_n 2, 1) := by decide +kernel
theorem d_cX9_takeNumber_32 : decode cX9_takeNumber 32 = .ok (.lstore 4, 2) := by decide +kernel
theorem d_cX9_takeNumber_34 : decode cX9_takeNumber 34 = .ok (.aload_n 0, 1) := by decide +kernel
theorem d_cX9_takeNumber_35 : decode cX9_takeNumber 35 = .ok (.lload 4, 2) := by decide +kernel
theorem d_cX9_takeNumber_37 : decode cX9_takeNumber 37 = .ok (.l2i, 1) := by decide +kernel
theorem d_cX9_takeNumber_38 : decode cX9_takeNumber 38 = .ok (.putfield 19, 3) := by decide +kernel
theorem d_cX9_takeNumber_41 : decode cX9_takeNumber 41 = .ok (.aload_n 0, 1) := by decide +kernel
theorem d_cX9_takeNumber_42 : decode cX9_takeNumber 42 = .ok (.aload_n 0, 1) := by decide +kernel
theorem d_cX9_takeNumber_43 : decode cX9_takeNumber 43 = .ok (.getfield 19, 3) := by decide +kernel
theorem d_cX9_takeNumber_46 : decode cX9_takeNumber 46 = .ok (.i2l, 1) := by decide +kernel
theorem d_cX9_takeNumber_47 : decode cX9_takeNumber 47 = .ok (.lload 4, 2) := by decide +kernel
theorem d_cX9_takeNumber_49 : decode cX9_takeNumber 49 = .ok (.lcmp, 1) := by decide +kernel
theorem d_cX9_takeNumber_50 : decode cX9_takeNumber 50 = .ok (.ifCond .ne 7, 3) := by decide +kernel
theorem d_cX9_takeNumber_57 : decode cX9_takeNumber 57 = .ok (.iconst 0, 1) := by decide +kernel
theorem d_cX9_takeNumber_58 : decode cX9_takeNumber 58 = .ok (.putfield 15, 3) := by decide +kernel
theorem d_cX9_takeNumber_61 : decode cX9_takeNumber 61 = .ok (.return_, 1) := by decide +kernel
theorem d_cX9_takeNumber_53 : decode cX9_takeNumber 53 = .ok (.iconst 4, 1) := by decide +kernel
theorem d_cX9_takeNumber_54 : decode cX9_takeNumber 54 = .ok (.goto 4, 3) := by decide +kernel
theorem d_cX9_takeNumber_5 : decode cX9_takeNumber 5 = .ok (.aload_n 0, 1) := by decide +kernel
theorem d_cX9_takeNumber_6 : decode cX9_takeNumber 6 = .ok (.getfield 22, 3) := by decide +kernel
theorem d_cX9_takeNumber_9 : decode cX9_takeNumber 9 = .ok (.iconst 1, 1) := by decide +kernel
theorem d_cX9_takeNumber_10 : decode cX9_takeNumber 10 = .ok (.iadd, 1) := by decide +kernel
theorem d_cX9_takeNumber_11 : decode cX9_takeNumber 11 = .ok (.goto 7, 3) := by decide +kernel
theorem d_cX9_takeNumber_26 : decode cX9_takeNumber 26 = .ok (.lload_n 2, 1) := by decide +kernel
theorem d_cX9_takeNumber_27 : decode cX9_takeNumber 27 = .ok (.lneg, 1) := by decide +kernel
theorem d_cX9_takeNumber_28 : decode cX9_takeNumber 28 = .ok (.goto 4, 3) := by decide +kernel
theorem d_cX9_takeNamed_0 : decode cX9_takeNamed 0 = .ok (.aload_n 0, 1) := by decide +kernel
theorem d_cX9_takeNamed_1 : decode cX9_takeNamed 1 = .ok (.aload_n 0, 1) := by decide +kernel
theorem d_cX9_takeNamed_2 : decode cX9_takeNamed 2 = .ok (.getfield 22, 3) := by decide +kernel
theorem d_cX9_takeNamed_5 : decode cX9_takeNamed 5 = .ok (.iconst 1, 1) := by decide +kernel
theorem d_cX9_takeNamed_6 : decode cX9_takeNamed 6 = .ok (.iadd, 1) := by decide +kernel
theorem d_cX9_takeNamed_7 : decode cX9_takeNamed 7 = .ok (.invokevirtual 65, 3) := by decide +kernel
theorem d_cX9_takeNamed_10 : decode cX9_takeNamed 10 = .ok (.lstore_n 3, 1) := by decide +kernel
theorem d_cX9_takeNamed_11 : decode cX9_takeNamed 11 = .ok (.aload_n 0, 1) := by decide +kernel
theorem d_cX9_takeNamed_12 : decode cX9_takeNamed 12 = .ok (.lload_n 3, 1) := by decide +kernel
theorem d_cX9_takeNamed_13 : decode cX9_takeNamed 13 = .ok (.l2i, 1) := by decide +kernel
theorem d_cX9_takeNamed_14 : decode cX9_takeNamed 14 = .ok (.putfield 19, 3) := by decide +kernel
theorem d_cX9_takeNamed_17 : decode cX9_takeNamed 17 = .ok (.aload_n 0, 1) := by decide +kernel
theorem d_cX9_takeNamed_18 : decode cX9_takeNamed 18 = .ok (.lload_n 3, 1) := by decide +kernel
theorem d_cX9_takeNamed_19 : decode cX9_takeNamed 19 = .ok (.iload_n 2, 1) := by decide +kernel
theorem d_cX9_takeNamed_20 : decode cX9_takeNamed 20 = .ok (.i2l, 1) := by decide +kernel
theorem d_cX9_takeNamed_21 : decode cX9_takeNamed 21 = .ok (.lcmp, 1) := by decide +kernel
theorem d_cX9_takeNamed_22 : decode cX9_takeNamed 22 = .ok (.ifCond .ge 7, 3) := by decide +kernel
theorem d_cX9_takeNamed_29 : decode cX9_takeNamed 29 = .ok (.iconst 0, 1) := by decide +kernel
theorem d_cX9_takeNamed_30 : decode cX9_takeNamed 30 = .ok (.putfield 15, 3) := by decide +kernel
theorem d_cX9_takeNamed_33 : decode cX9_takeNamed 33 = .ok (.return_, 1) := by decide +kernel
theorem d_cX9_takeNamed_25 : decode cX9_takeNamed 25 = .ok (.iload_n 1, 1) := by decide +kernel
theorem d_cX9_takeNamed_26 : decode cX9_takeNamed 26 = .ok (.goto 4, 3) := by decide +kernel
abbrev ky_5_Tape_size : gKey := (cX10_size, 1, yX10_size.cls, (some FieldType.int), [], yX10_size.name, fun _ _ => True)
abbrev po_5_Tape_size (I : FieldType → ClassId) (q1 : Nat) (q2 : Nat) (p3 : Int32) (f4 : Nat → Int32) : Option Value → va_W → Prop := fun r w => r = some (.int p3) ∧ w = [(q1, .inr (15, [.ref q2, .int p3])), (q2, .inl (I .byte, 8192, .inl f4))]
set_option maxRecDepth 100000 in
set_option maxHeartbeats 4000000 in
theorem ct_5_Tape_size (l : Launch) (hl0 : l.stackTraces = false) (D : va_G) (I : FieldType → ClassId) (q1 : Nat) (q2 : Nat) (p3 : Int32) (f4 : Nat → Int32) (bp3 : gB p3 0 8192) (bf4 : gF f4 (-128) 127) : Ct (gV D I) l yX10_size cX10_size 1 (some FieldType.int) 0 0 0 0 [.ref q1] [(q1, .inr (15, [.ref q2, .int p3])), (q2, .inl (I .byte, 8192, .inl f4))] (po_5_Tape_size I q1 q2 p3 f4) gN := by
  refine Ct_of hl0 (by decide) (Nat.le_of_ble_eq_true rfl) ?_
  refine G_aload_n 0 d_cX10_size_0 rfl ?_
  refine G_getf 0 1 d_cX10_size_1 rfl (gk_X10 D I) (Nat.le_of_ble_eq_true rfl) w_1_60 rfl ?_
  exact G_iret d_cX10_size_4 rfl (Nat.le_of_ble_eq_true rfl) (Nat.le_of_ble_eq_true rfl) ⟨rfl, rfl⟩
abbrev ky_11_Tape_hasRoom : gKey := (cX10_hasRoom, 2, yX10_hasRoom.cls, (some FieldType.boolean), [], yX10_hasRoom.name, fun _ _ => True)
abbrev po_11_Tape_hasRoom (I : FieldType → ClassId) (q6 : Nat) (q7 : Nat) (p8 : Int32) (p9 : Int32) (f10 : Nat → Int32) : Option Value → va_W → Prop := fun r w => ∃ (o16 : Int32), r = some (.int o16) ∧ w = [(q6, .inr (15, [.ref q7, .int p9])), (q7, .inl (I .byte, 8192, .inl f10))] ∧ gB o16 0 1 ∧ ((o16.toInt = 1 ∧ p9.toInt + p8.toInt ≤ 8192) ∨ (o16.toInt = 0 ∧ 8192 < p9.toInt + p8.toInt))
set_option maxRecDepth 100000 in
set_option maxHeartbeats 4000000 in
theorem ct_11_Tape_hasRoom (l : Launch) (hl0 : l.stackTraces = false) (D : va_G) (I : FieldType → ClassId) (q6 : Nat) (q7 : Nat) (p8 : Int32) (p9 : Int32) (f10 : Nat → Int32) (bp8 : gB p8 0 8192) (bp9 : gB p9 0 8192) (bf10 : gF f10 (-128) 127) : Ct (gV D I) l yX10_hasRoom cX10_hasRoom 2 (some FieldType.boolean) 0 0 0 0 [.ref q6, .int p8] [(q6, .inr (15, [.ref q7, .int p9])), (q7, .inl (I .byte, 8192, .inl f10))] (po_11_Tape_hasRoom I q6 q7 p8 p9 f10) gN := by
  refine Ct_of hl0 (by decide) (Nat.le_of_ble_eq_true rfl) ?_
  refine G_aload_n 0 d_cX10_hasRoom_0 rfl ?_
  refine G_getf 0 1 d_cX10_hasRoom_1 rfl (gk_X10 D I) (Nat.le_of_ble_eq_true rfl) w_1_60 rfl ?_
  refine G_iload_n 1 d_cX10_hasRoom_4 rfl ?_
  refine G_iadd d_cX10_hasRoom_5 (G_nam fun z12 hz12 => ?_)
  have ez12 : z12.toInt = p9.toInt + p8.toInt := by rw [gI_add hz12 bp9 bp8 (by decide) (by decide)]
  have bz12 : gB z12 0 16384 := gB_add (gI_add hz12 bp9 bp8 (by decide) (by decide)) bp9 bp8 (by decide) (by decide)
  refine G_aload_n 0 d_cX10_hasRoom_6 rfl ?_
  refine G_getf 0 0 d_cX10_hasRoom_7 rfl (gk_X10 D I) (Nat.le_of_ble_eq_true rfl) w_1_59 rfl ?_
  refine G_alen 8192 1 1 d_cX10_hasRoom_10 rfl rfl rfl ?_
  refine G_icmp_gt 18 d_cX10_hasRoom_11 (by decide +kernel) (fun hc13 => ?_) (fun hc13 => ?_)
  · have r14 : 8192 < z12.toInt := gj_ltL hc13 (show Int32.toInt 8192 = 8192 by decide)
    have bz12' : gB z12 8193 16384 := ⟨by omega, by omega⟩
    refine G_iconst 0 d_cX10_hasRoom_18 (by decide +kernel) ?_
    exact G_zret FieldType.boolean d_cX10_hasRoom_19 rfl rfl (Nat.le_of_ble_eq_true rfl) (Nat.le_of_ble_eq_true rfl) ⟨0, rfl, rfl, (gB_w (gBl (show Int32.toInt 0 = 0 by decide)) (by decide) (by decide)), (by have qa0 : Int32.toInt 0 = 0 := (by decide); omega)⟩
  · have r15 : z12.toInt ≤ 8192 := gj_nltL hc13 (show Int32.toInt 8192 = 8192 by decide)
    have bz12' : gB z12 0 8192 := ⟨by omega, by omega⟩
    refine G_iconst 1 d_cX10_hasRoom_14 (by decide +kernel) ?_
    refine G_goto 19 d_cX10_hasRoom_15 (by decide +kernel) ?_
    exact G_zret FieldType.boolean d_cX10_hasRoom_19 rfl rfl (Nat.le_of_ble_eq_true rfl) (Nat.le_of_ble_eq_true rfl) ⟨1, rfl, rfl, (gB_w (gBl (show Int32.toInt 1 = 1 by decide)) (by decide) (by decide)), (by have qa0 : Int32.toInt 1 = 1 := (by decide); omega)⟩
abbrev ky_22_Tape_cutTo : gKey := (cX10_cutTo, 2, yX10_cutTo.cls, none, [], yX10_cutTo.name, fun _ _ => True)
abbrev po_22_Tape_cutTo (I : FieldType → ClassId) (q17 : Nat) (q18 : Nat) (p19 : Int32) (p20 : Int32) (f21 : Nat → Int32) : Option Value → va_W → Prop := fun r w => ∃ (o25 : Int32), r = none ∧ w = [(q17, .inr (15, [.ref q18, .int o25])), (q18, .inl (I .byte, 8192, .inl f21))] ∧ gB o25 0 8192 ∧ (p19.toInt < 0 ∨ p20.toInt < p19.toInt ∨ o25.toInt = p19.toInt)
set_option maxRecDepth 100000 in
set_option maxHeartbeats 4000000 in
theorem ct_22_Tape_cutTo (l : Launch) (hl0 : l.stackTraces = false) (D : va_G) (I : FieldType → ClassId) (q17 : Nat) (q18 : Nat) (p19 : Int32) (p20 : Int32) (f21 : Nat → Int32) (bp20 : gB p20 0 8192) (bf21 : gF f21 (-128) 127) : Ct (gV D I) l yX10_cutTo cX10_cutTo 2 none 1 15 0 0 [.ref q17, .int p19] [(q17, .inr (15, [.ref q18, .int p20])), (q18, .inl (I .byte, 8192, .inl f21))] (po_22_Tape_cutTo I q17 q18 p19 p20 f21) gN := by
  refine Ct_of hl0 (by decide) (Nat.le_of_ble_eq_true rfl) ?_
  have bp19 := gB_any p19
  refine G_aload_n 0 d_cX10_cutTo_0 rfl ?_
  refine G_iconst 0 d_cX10_cutTo_1 (by decide +kernel) ?_
  refine G_iload_n 1 d_cX10_cutTo_2 rfl ?_
  refine G_aload_n 0 d_cX10_cutTo_3 rfl ?_
  refine G_getf 0 1 d_cX10_cutTo_4 rfl (gk_X10 D I) (Nat.le_of_ble_eq_true rfl) w_1_60 rfl ?_
  refine G_mmin d_cX10_cutTo_7 w_3_226 w_3_227 w_1_6 w_3_228 (Nat.le_of_ble_eq_true rfl) (Nat.le_of_ble_eq_true rfl) (Nat.le_of_ble_eq_true rfl) (Nat.le_of_ble_eq_true rfl) (G_nam fun z23 hz23 => ?_)
  have ez23 : p19.toInt ≥ z23.toInt ∧ p20.toInt ≥ z23.toInt ∧ (z23.toInt = p19.toInt ∨ z23.toInt = p20.toInt) := by have := gI_min hz23; omega
  have bz23 : gB z23 (-2147483648) 8192 := ⟨by omega, by omega⟩
  refine G_mmax d_cX10_cutTo_10 w_3_229 w_1_140 w_1_6 w_1_141 (Nat.le_of_ble_eq_true rfl) (Nat.le_of_ble_eq_true rfl) (Nat.le_of_ble_eq_true rfl) (Nat.le_of_ble_eq_true rfl) (G_nam fun z24 hz24 => ?_)
  have ez24 : 0 ≤ z24.toInt ∧ z23.toInt ≤ z24.toInt ∧ (z24.toInt = 0 ∨ z24.toInt = z23.toInt) := by have := gI_max hz24; rw [show Int32.toInt 0 = 0 from by decide] at this; omega
  have bz24 : gB z24 0 8192 := ⟨by omega, by omega⟩
  refine G_putf (ws' := [(q17, .inr (15, [.ref q18, .int z24])), (q18, .inl (I .byte, 8192, .inl f21))]) 0 1 d_cX10_cutTo_13 rfl (gk_X10 D I) (Nat.le_of_ble_eq_true rfl) w_1_60 rfl rfl rfl (Nat.le_of_ble_eq_true rfl) rfl ?_
  exact G_vret d_cX10_cutTo_16 rfl (Nat.le_of_ble_eq_true rfl) (Nat.le_of_ble_eq_true rfl) ⟨z24, rfl, rfl, bz24, (by omega)⟩
abbrev ky_31_Tape_byteAt : gKey := (cX10_byteAt, 2, yX10_byteAt.cls, (some FieldType.int), [], yX10_byteAt.name, fun _ _ => True)
abbrev po_31_Tape_byteAt (I : FieldType → ClassId) (q26 : Nat) (q27 : Nat) (p28 : Int32) (p29 : Int32) (f30 : Nat → Int32) : Option Value → va_W → Prop := fun r w => (r = some (.int (-1)) ∧ w = [(q26, .inr (15, [.ref q27, .int p29])), (q27, .inl (I .byte, 8192, .inl f30))] ∧ p28.toInt < 0) ∨ (r = some (.int (-1)) ∧ w = [(q26, .inr (15, [.ref q27, .int p29])), (q27, .inl (I .byte, 8192, .inl f30))] ∧ 0 ≤ p28.toInt ∧ p29.toInt ≤ p28.toInt) ∨ (∃ (z39 : Int32), r = some (.int z39) ∧ w = [(q26, .inr (15, [.ref q27, .int p29])), (q27, .inl (I .byte, 8192, .inl f30))] ∧ 0 ≤ p28.toInt ∧ p28.toInt < p29.toInt ∧ gB z39 0 255)
set_option maxRecDepth 100000 in
set_option maxHeartbeats 4000000 in
theorem ct_31_Tape_byteAt (l : Launch) (hl0 : l.stackTraces = false) (D : va_G) (I : FieldType → ClassId) (q26 : Nat) (q27 : Nat) (p28 : Int32) (p29 : Int32) (f30 : Nat → Int32) (bp29 : gB p29 0 8192) (bf30 : gF f30 (-128) 127) : Ct (gV D I) l yX10_byteAt cX10_byteAt 2 (some FieldType.int) 0 0 0 0 [.ref q26, .int p28] [(q26, .inr (15, [.ref q27, .int p29])), (q27, .inl (I .byte, 8192, .inl f30))] (po_31_Tape_byteAt I q26 q27 p28 p29 f30) gN := by
  refine Ct_of hl0 (by decide) (Nat.le_of_ble_eq_true rfl) ?_
  have bp28 := gB_any p28
  refine G_iload_n 1 d_cX10_byteAt_0 rfl ?_
  refine G_if_lt 25 d_cX10_byteAt_1 (by decide +kernel) (fun hc32 => ?_) (fun hc32 => ?_)
  · have r33 : p28.toInt < 0 := gj_lt hc32 (show Int32.toInt 0 = 0 by decide)
    have bp28' : gB p28 (-2147483648) (-1) := ⟨by omega, by omega⟩
    refine G_iconst (-1) d_cX10_byteAt_25 (by decide +kernel) ?_
    exact G_iret d_cX10_byteAt_26 rfl (Nat.le_of_ble_eq_true rfl) (Nat.le_of_ble_eq_true rfl) (Or.inl ⟨rfl, rfl, r33⟩)
  · have r34 : 0 ≤ p28.toInt := gj_nlt hc32 (show Int32.toInt 0 = 0 by decide)
    have bp28' : gB p28 0 2147483647 := ⟨by omega, by omega⟩
    refine G_iload_n 1 d_cX10_byteAt_4 rfl ?_
    refine G_aload_n 0 d_cX10_byteAt_5 rfl ?_
    refine G_getf 0 1 d_cX10_byteAt_6 rfl (gk_X10 D I) (Nat.le_of_ble_eq_true rfl) w_1_60 rfl ?_
    refine G_icmp_ge 25 d_cX10_byteAt_9 (by decide +kernel) (fun hc35 => ?_) (fun hc35 => ?_)
    · have r36 : p29.toInt ≤ p28.toInt := gC_le hc35
      refine G_iconst (-1) d_cX10_byteAt_25 (by decide +kernel) ?_
      exact G_iret d_cX10_byteAt_26 rfl (Nat.le_of_ble_eq_true rfl) (Nat.le_of_ble_eq_true rfl) (Or.inr (Or.inl ⟨rfl, rfl, r34, r36⟩))
    · have r37 : p28.toInt < p29.toInt := gC_nle hc35
      have bp28'' : gB p28 0 8191 := ⟨by omega, by omega⟩
      have bp29' : gB p29 1 8192 := ⟨by omega, by omega⟩
      refine G_aload_n 0 d_cX10_byteAt_12 rfl ?_
      refine G_getf 0 0 d_cX10_byteAt_13 rfl (gk_X10 D I) (Nat.le_of_ble_eq_true rfl) w_1_59 rfl ?_
      refine G_iload_n 1 d_cX10_byteAt_16 rfl ?_
      refine G_bald 1 1 d_cX10_byteAt_17 rfl rfl (gB_in bp28'' (by decide) (by decide)) (G_nam fun z38 hz38 => ?_)
      have bz38 : gB z38 (-128) 127 := by rw [hz38]; exact bf30 _
      refine G_sipush 255 d_cX10_byteAt_18 (by decide +kernel) ?_
      refine G_iand d_cX10_byteAt_21 (G_nam fun z39 hz39 => ?_)
      have bz39 : gB z39 0 255 := gB_and hz39 (gBl (show Int32.toInt 255 = 255 by decide)) (by decide)
      refine G_goto 26 d_cX10_byteAt_22 (by decide +kernel) ?_
      exact G_iret d_cX10_byteAt_26 rfl (Nat.le_of_ble_eq_true rfl) (Nat.le_of_ble_eq_true rfl) (Or.inr (Or.inr (⟨z39, rfl, rfl, r34, r37, bz39⟩)))
abbrev ky_47_Tape_addInt : gKey := (cX10_addInt, 3, yX10_addInt.cls, none, [], yX10_addInt.name, fun _ _ => True)
abbrev po_47_Tape_addInt (I : FieldType → ClassId) (q40 : Nat) (q41 : Nat) (p42 : Int32) (p43 : Int32) (f44 : Nat → Int32) (N46 : Int) : Option Value → va_W → Prop := fun r w => ∃ (o131 : Int32) (f132 : Nat → Int32), r = none ∧ w = [(q40, .inr (15, [.ref q41, .int o131])), (q41, .inl (I .byte, 8192, .inl f132))] ∧ gB o131 0 8192 ∧ gF f132 (-128) 127 ∧ (8188 < N46 ∨ o131.toInt = N46 + 4)
set_option maxRecDepth 100000 in
set_option maxHeartbeats 4000000 in
theorem ct_47_Tape_addInt (l : Launch) (hl0 : l.stackTraces = false) (D : va_G) (I : FieldType → ClassId) (q40 : Nat) (q41 : Nat) (p42 : Int32) (p43 : Int32) (f44 : Nat → Int32) (N46 : Int) (bp43 : gB p43 0 8192) (bf44 : gF f44 (-128) 127) (x45 : p43.toInt = N46) : Ct (gV D I) l yX10_addInt cX10_addInt 3 none 0 0 0 0 [.ref q40, .int p42] [(q40, .inr (15, [.ref q41, .int p43])), (q41, .inl (I .byte, 8192, .inl f44))] (po_47_Tape_addInt I q40 q41 p42 p43 f44 N46) gN := by
  refine Ct_of hl0 (by decide) (Nat.le_of_ble_eq_true rfl) ?_
  have bp42 := gB_any p42
  refine G_bipush 24 d_cX10_addInt_0 (by decide +kernel) ?_
  refine G_istore_n (L' := [(2, .int 24), (0, .ref q40), (1, .int p42)]) d_cX10_addInt_2 (Nat.le_of_ble_eq_true rfl) rfl ?_
  have hlp3_119 : ∀ (n3_119 : Nat) (g116 : Int32) (g117 : Int32) (f118 : Nat → Int32), gB g116 (-8) 24 → gB g117 0 8192 → gF f118 (-128) 127 → 8 * (g117.toInt - N46) + g116.toInt = 24 → ((g116.toInt : Int) - (-9)).toNat < n3_119 → G (gV D I) l (gRm 0 0 0 0) (gM (gV D I) (po_47_Tape_addInt I q40 q41 p42 p43 f44 N46) gN 0 0) ky_47_Tape_addInt 3 [(2, .int g116), (0, .ref q40), (1, .int p42)] [] [(q40, .inr (15, [.ref q41, .int g117])), (q41, .inl (I .byte, 8192, .inl f118))] 0 0 := by
    intro n3_119
    induction n3_119 with
    | zero => intro g116 g117 f118 bg116 bg117 bf118 x119 hm3_119; exact absurd hm3_119 (Nat.not_lt_zero _)
    | succ n3_119 ih3_119 =>
      intro g116 g117 f118 bg116 bg117 bf118 x119 hm3_119
      refine G_iload_n 0 d_cX10_addInt_3 rfl ?_
      refine G_if_lt 48 d_cX10_addInt_4 (by decide +kernel) (fun hc120 => ?_) (fun hc120 => ?_)
      · have r121 : g116.toInt < 0 := gj_lt hc120 (show Int32.toInt 0 = 0 by decide)
        have bg116' : gB g116 (-8) (-1) := ⟨by omega, by omega⟩
        exact G_vret d_cX10_addInt_48 rfl (Nat.le_of_ble_eq_true rfl) (Nat.le_of_ble_eq_true rfl) ⟨g117, f118, rfl, rfl, bg117, bf118, (by omega)⟩
      · have r122 : 0 ≤ g116.toInt := gj_nlt hc120 (show Int32.toInt 0 = 0 by decide)
        have bg116' : gB g116 0 24 := ⟨by omega, by omega⟩
        refine G_aload_n 1 d_cX10_addInt_7 rfl ?_
        refine G_getf 0 1 d_cX10_addInt_8 rfl (gk_X10 D I) (Nat.le_of_ble_eq_true rfl) w_1_60 rfl ?_
        refine G_aload_n 1 d_cX10_addInt_11 rfl ?_
        refine G_getf 0 0 d_cX10_addInt_12 rfl (gk_X10 D I) (Nat.le_of_ble_eq_true rfl) w_1_59 rfl ?_
        refine G_alen 8192 1 1 d_cX10_addInt_15 rfl rfl rfl ?_
        refine G_icmp_ge 48 d_cX10_addInt_16 (by decide +kernel) (fun hc123 => ?_) (fun hc123 => ?_)
        · have r124 : 8192 ≤ g117.toInt := gj_leL hc123 (show Int32.toInt 8192 = 8192 by decide)
          have bg117' : gB g117 8192 8192 := ⟨by omega, by omega⟩
          exact G_vret d_cX10_addInt_48 rfl (Nat.le_of_ble_eq_true rfl) (Nat.le_of_ble_eq_true rfl) ⟨g117, f118, rfl, rfl, (gB_w bg117' (by decide) (by decide)), bf118, (by omega)⟩
        · have r125 : g117.toInt < 8192 := gj_nleL hc123 (show Int32.toInt 8192 = 8192 by decide)
          have bg117' : gB g117 0 8191 := ⟨by omega, by omega⟩
          refine G_aload_n 1 d_cX10_addInt_19 rfl ?_
          refine G_getf 0 0 d_cX10_addInt_20 rfl (gk_X10 D I) (Nat.le_of_ble_eq_true rfl) w_1_59 rfl ?_
          refine G_aload_n 1 d_cX10_addInt_23 rfl ?_
          refine G_getf 0 1 d_cX10_addInt_24 rfl (gk_X10 D I) (Nat.le_of_ble_eq_true rfl) w_1_60 rfl ?_
          refine G_iload_n 2 d_cX10_addInt_27 rfl ?_
          refine G_iload_n 0 d_cX10_addInt_28 rfl ?_
          refine G_ishr d_cX10_addInt_29 (G_nam fun z126 hz126 => ?_)
          have bz126 : gB z126 (-2147483648) 2147483647 := gB_any z126
          refine G_i2b d_cX10_addInt_30 (G_nam fun z127 hz127 => ?_)
          have bz127 : gB z127 (-128) 127 := gB_i2b hz127
          refine G_bastN 1 1 d_cX10_addInt_31 rfl rfl (gB_in bg117' (by decide) (by decide)) (fun f128 hf128 => ?_)
          refine G_ws (ws' := [(q40, .inr (15, [.ref q41, .int g117])), (q41, .inl (I .byte, 8192, .inl f128))]) (cs' := 0) (sl' := 0) rfl rfl rfl ?_
          have bf128 : gF f128 (-128) 127 := gF_upd hf128 bf118 gB_byte
          refine G_aload_n 1 d_cX10_addInt_32 rfl ?_
          refine G_dup d_cX10_addInt_33 rfl ?_
          refine G_getf 0 1 d_cX10_addInt_34 rfl (gk_X10 D I) (Nat.le_of_ble_eq_true rfl) w_1_60 rfl ?_
          refine G_iconst 1 d_cX10_addInt_37 (by decide +kernel) ?_
          refine G_iadd d_cX10_addInt_38 (G_nam fun z129 hz129 => ?_)
          have ez129 : z129.toInt = g117.toInt + 1 := by rw [gI_add hz129 bg117' (gBl (show Int32.toInt 1 = 1 by decide)) (by decide) (by decide), show Int32.toInt 1 = 1 from by decide]
          have bz129 : gB z129 1 8192 := gB_add (gI_add hz129 bg117' (gBl (show Int32.toInt 1 = 1 by decide)) (by decide) (by decide)) bg117' (gBl (show Int32.toInt 1 = 1 by decide)) (by decide) (by decide)
          refine G_putf (ws' := [(q40, .inr (15, [.ref q41, .int z129])), (q41, .inl (I .byte, 8192, .inl f128))]) 0 1 d_cX10_addInt_39 rfl (gk_X10 D I) (Nat.le_of_ble_eq_true rfl) w_1_60 rfl rfl rfl (Nat.le_of_ble_eq_true rfl) rfl ?_
          obtain ⟨z130, hz130⟩ : ∃ z : Int32, z = g116 + Int32.ofInt (-8) := ⟨_, rfl⟩
          have ez130 : z130.toInt = g116.toInt + (-8) := gI_inc hz130 (by decide) bg116' (by decide) (by decide)
          have bz130 : gB z130 (-8) 16 := ⟨by omega, by omega⟩
          refine G_iinc (L' := [(2, .int z130), (0, .ref q40), (1, .int p42)]) z130 0 d_cX10_addInt_42 rfl hz130.symm (Nat.le_of_ble_eq_true rfl) rfl ?_
          refine G_goto 3 d_cX10_addInt_45 (by decide +kernel) ?_
          exact ih3_119 z130 z129 f128 (gB_w bz130 (by decide) (by decide)) (gB_w bz129 (by decide) (by decide)) bf128 (by omega) (by omega)
  exact hlp3_119 (((24 : Int) - (-9)).toNat + 1) 24 p43 f44 (gB_w (gBl (show Int32.toInt 24 = 24 by decide)) (by decide) (by decide)) bp43 bf44 (by have qa0 : Int32.toInt 24 = 24 := (by decide); omega) (Nat.lt_succ_self _)
abbrev ky_138_Tape_intAt : gKey := (cX10_intAt, 4, yX10_intAt.cls, (some FieldType.int), [], yX10_intAt.name, fun _ _ => True)
abbrev po_138_Tape_intAt (I : FieldType → ClassId) (q133 : Nat) (q134 : Nat) (p135 : Int32) (p136 : Int32) (f137 : Nat → Int32) : Option Value → va_W → Prop := fun r w => ∃ (o269 : Int32), r = some (.int o269) ∧ w = [(q133, .inr (15, [.ref q134, .int p136])), (q134, .inl (I .byte, 8192, .inl f137))] ∧ gB o269 (-2147483648) 2147483647
set_option maxRecDepth 100000 in
set_option maxHeartbeats 4000000 in
theorem ct_138_Tape_intAt (l : Launch) (hl0 : l.stackTraces = false) (D : va_G) (I : FieldType → ClassId) (q133 : Nat) (q134 : Nat) (p135 : Int32) (p136 : Int32) (f137 : Nat → Int32) (bp136 : gB p136 0 8192) (bf137 : gF f137 (-128) 127) : Ct (gV D I) l yX10_intAt cX10_intAt 4 (some FieldType.int) 1 21 0 0 [.ref q133, .int p135] [(q133, .inr (15, [.ref q134, .int p136])), (q134, .inl (I .byte, 8192, .inl f137))] (po_138_Tape_intAt I q133 q134 p135 p136 f137) gN := by
  refine Ct_of hl0 (by decide) (Nat.le_of_ble_eq_true rfl) ?_
  have bp135 := gB_any p135
  refine G_iconst 0 d_cX10_intAt_0 (by decide +kernel) ?_
  refine G_istore_n (L' := [(2, .int 0), (0, .ref q133), (1, .int p135)]) d_cX10_intAt_1 (Nat.le_of_ble_eq_true rfl) rfl ?_
  refine G_iconst 0 d_cX10_intAt_2 (by decide +kernel) ?_
  refine G_istore_n (L' := [(3, .int 0), (2, .int 0), (0, .ref q133), (1, .int p135)]) d_cX10_intAt_3 (Nat.le_of_ble_eq_true rfl) rfl ?_
  have hlp4_249 : ∀ (n4_249 : Nat) (g248 : Int32) (g249 : Int32), gB g248 0 4 → gB g249 (-2147483648) 2147483647 → ((5 : Int) - g248.toInt).toNat < n4_249 → G (gV D I) l (gRm 1 21 0 0) (gM (gV D I) (po_138_Tape_intAt I q133 q134 p135 p136 f137) gN 0 0) ky_138_Tape_intAt 4 [(3, .int g248), (2, .int g249), (0, .ref q133), (1, .int p135)] [] [(q133, .inr (15, [.ref q134, .int p136])), (q134, .inl (I .byte, 8192, .inl f137))] 0 0 := by
    intro n4_249
    induction n4_249 with
    | zero => intro g248 g249 bg248 bg249 hm4_249; exact absurd hm4_249 (Nat.not_lt_zero _)
    | succ n4_249 ih4_249 =>
      intro g248 g249 bg248 bg249 hm4_249
      refine G_iload_n 0 d_cX10_intAt_4 rfl ?_
      refine G_iconst 4 d_cX10_intAt_5 (by decide +kernel) ?_
      refine G_icmp_ge 32 d_cX10_intAt_6 (by decide +kernel) (fun hc250 => ?_) (fun hc250 => ?_)
      · have r251 : 4 ≤ g248.toInt := gj_leL hc250 (show Int32.toInt 4 = 4 by decide)
        have bg248' : gB g248 4 4 := ⟨by omega, by omega⟩
        refine G_iload_n 1 d_cX10_intAt_32 rfl ?_
        exact G_iret d_cX10_intAt_33 rfl (Nat.le_of_ble_eq_true rfl) (Nat.le_of_ble_eq_true rfl) ⟨g249, rfl, rfl, bg249⟩
      · have r252 : g248.toInt < 4 := gj_nleL hc250 (show Int32.toInt 4 = 4 by decide)
        have bg248' : gB g248 0 3 := ⟨by omega, by omega⟩
        refine G_iload_n 1 d_cX10_intAt_9 rfl ?_
        refine G_bipush 8 d_cX10_intAt_10 (by decide +kernel) ?_
        refine G_ishl d_cX10_intAt_12 (G_nam fun z253 hz253 => ?_)
        have bz253 : gB z253 (-2147483648) 2147483647 := gB_any z253
        refine G_aload_n 2 d_cX10_intAt_13 rfl ?_
        refine G_iload_n 3 d_cX10_intAt_14 rfl ?_
        refine G_iload_n 0 d_cX10_intAt_15 rfl ?_
        refine G_iadd d_cX10_intAt_16 (G_nam fun z254 hz254 => ?_)
        have bz254 : gB z254 (-2147483648) 2147483647 := gB_any z254
        refine G_callV (As := [.int z254]) (wr := []) (gV_ok D I) (ct_31_Tape_byteAt l hl0 D I q133 q134 z254 p136 f137 bp136 bf137) d_cX10_intAt_17 ⟨w_4_182, w_1_2, w_3_23, by decide, rfl, (Nat.le_of_ble_eq_true rfl), (Nat.le_of_ble_eq_true rfl)⟩ w_3_21 w_3_22 0 rfl rfl [0, 1] [] rfl rfl rfl rfl (by decide) (Nat.le_of_ble_eq_true rfl) (Nat.le_of_ble_eq_true rfl) (Nat.le_of_ble_eq_true rfl) (fun r w hp => ?_) (fun _ _ _ z => z.elim)
        rcases hp with ⟨rfl, rfl, r255⟩ | ⟨rfl, rfl, r256, r257⟩ | ⟨z258, rfl, rfl, r259, r260, r261⟩
        · have bz254' : gB z254 (-2147483648) (-1) := ⟨by omega, by omega⟩
          change G _ _ _ _ _ _ _ (.int (-1) :: _) _ _ _
          refine G_ws (ws' := [(q133, .inr (15, [.ref q134, .int p136])), (q134, .inl (I .byte, 8192, .inl f137))]) (cs' := 0) (sl' := 0) rfl rfl rfl ?_
          refine G_sipush 255 d_cX10_intAt_20 (by decide +kernel) ?_
          refine G_iand d_cX10_intAt_23 ?_
          refine G_eqi (y := 255) (by decide) ?_
          refine G_ior d_cX10_intAt_24 (G_nam fun z262 hz262 => ?_)
          have bz262 : gB z262 (-2147483648) 2147483647 := gB_any z262
          refine G_istore_n (L' := [(2, .int z262), (3, .int g248), (0, .ref q133), (1, .int p135)]) d_cX10_intAt_25 (Nat.le_of_ble_eq_true rfl) rfl ?_
          obtain ⟨z263, hz263⟩ : ∃ z : Int32, z = g248 + Int32.ofInt 1 := ⟨_, rfl⟩
          have ez263 : z263.toInt = g248.toInt + 1 := gI_inc hz263 (by decide) bg248' (by decide) (by decide)
          have bz263 : gB z263 1 4 := ⟨by omega, by omega⟩
          refine G_iinc (L' := [(3, .int z263), (2, .int z262), (0, .ref q133), (1, .int p135)]) z263 1 d_cX10_intAt_26 rfl hz263.symm (Nat.le_of_ble_eq_true rfl) rfl ?_
          refine G_goto 4 d_cX10_intAt_29 (by decide +kernel) ?_
          exact ih4_249 z263 z262 (gB_w bz263 (by decide) (by decide)) bz262 (by omega)
        · have bz254' : gB z254 0 2147483647 := ⟨by omega, by omega⟩
          change G _ _ _ _ _ _ _ (.int (-1) :: _) _ _ _
          refine G_ws (ws' := [(q133, .inr (15, [.ref q134, .int p136])), (q134, .inl (I .byte, 8192, .inl f137))]) (cs' := 0) (sl' := 0) rfl rfl rfl ?_
          refine G_sipush 255 d_cX10_intAt_20 (by decide +kernel) ?_
          refine G_iand d_cX10_intAt_23 ?_
          refine G_eqi (y := 255) (by decide) ?_
          refine G_ior d_cX10_intAt_24 (G_nam fun z264 hz264 => ?_)
          have bz264 : gB z264 (-2147483648) 2147483647 := gB_any z264
          refine G_istore_n (L' := [(2, .int z264), (3, .int g248), (0, .ref q133), (1, .int p135)]) d_cX10_intAt_25 (Nat.le_of_ble_eq_true rfl) rfl ?_
          obtain ⟨z265, hz265⟩ : ∃ z : Int32, z = g248 + Int32.ofInt 1 := ⟨_, rfl⟩
          have ez265 : z265.toInt = g248.toInt + 1 := gI_inc hz265 (by decide) bg248' (by decide) (by decide)
          have bz265 : gB z265 1 4 := ⟨by omega, by omega⟩
          refine G_iinc (L' := [(3, .int z265), (2, .int z264), (0, .ref q133), (1, .int p135)]) z265 1 d_cX10_intAt_26 rfl hz265.symm (Nat.le_of_ble_eq_true rfl) rfl ?_
          refine G_goto 4 d_cX10_intAt_29 (by decide +kernel) ?_
          exact ih4_249 z265 z264 (gB_w bz265 (by decide) (by decide)) bz264 (by omega)
        · have bz254' : gB z254 0 2147483647 := ⟨by omega, by omega⟩
          have bz254'' : gB z254 0 8191 := ⟨by omega, by omega⟩
          have bp136' : gB p136 1 8192 := ⟨by omega, by omega⟩
          change G _ _ _ _ _ _ _ (.int z258 :: _) _ _ _
          refine G_ws (ws' := [(q133, .inr (15, [.ref q134, .int p136])), (q134, .inl (I .byte, 8192, .inl f137))]) (cs' := 0) (sl' := 0) rfl rfl rfl ?_
          refine G_sipush 255 d_cX10_intAt_20 (by decide +kernel) ?_
          refine G_iand d_cX10_intAt_23 (G_nam fun z266 hz266 => ?_)
          have bz266 : gB z266 0 255 := gB_and hz266 (gBl (show Int32.toInt 255 = 255 by decide)) (by decide)
          refine G_ior d_cX10_intAt_24 (G_nam fun z267 hz267 => ?_)
          have bz267 : gB z267 (-2147483648) 2147483647 := gB_any z267
          refine G_istore_n (L' := [(2, .int z267), (3, .int g248), (0, .ref q133), (1, .int p135)]) d_cX10_intAt_25 (Nat.le_of_ble_eq_true rfl) rfl ?_
          obtain ⟨z268, hz268⟩ : ∃ z : Int32, z = g248 + Int32.ofInt 1 := ⟨_, rfl⟩
          have ez268 : z268.toInt = g248.toInt + 1 := gI_inc hz268 (by decide) bg248' (by decide) (by decide)
          have bz268 : gB z268 1 4 := ⟨by omega, by omega⟩
          refine G_iinc (L' := [(3, .int z268), (2, .int z267), (0, .ref q133), (1, .int p135)]) z268 1 d_cX10_intAt_26 rfl hz268.symm (Nat.le_of_ble_eq_true rfl) rfl ?_
          refine G_goto 4 d_cX10_intAt_29 (by decide +kernel) ?_
          exact ih4_249 z268 z267 (gB_w bz268 (by decide) (by decide)) bz267 (by omega)
  exact hlp4_249 (((5 : Int) - 0).toNat + 1) 0 0 (gB_w (gBl (show Int32.toInt 0 = 0 by decide)) (by decide) (by decide)) (gB_w (gBl (show Int32.toInt 0 = 0 by decide)) (by decide) (by decide)) (Nat.lt_succ_self _)
abbrev ky_280_Signs_kind : gKey := (cX9_kind, 1, yX9_kind.cls, (some FieldType.int), [], yX9_kind.name, fun _ _ => True)
abbrev po_280_Signs_kind (I : FieldType → ClassId) (q270 : Nat) (q271 : Nat) (q272 : Nat) (p273 : Int32) (p274 : Int32) (p275 : Int32) (p276 : Int32) (p277 : Int32) (f278 : Nat → Int32) : Option Value → va_W → Prop := fun r w => r = some (.int p273) ∧ w = [(q270, .inr (14, [.ref q271, .int p273, .int p274, .int p275, .int p276])), (q271, .inr (15, [.ref q272, .int p277])), (q272, .inl (I .byte, 8192, .inl f278))]
set_option maxRecDepth 100000 in
set_option maxHeartbeats 4000000 in
theorem ct_280_Signs_kind (l : Launch) (hl0 : l.stackTraces = false) (D : va_G) (I : FieldType → ClassId) (q270 : Nat) (q271 : Nat) (q272 : Nat) (p273 : Int32) (p274 : Int32) (p275 : Int32) (p276 : Int32) (p277 : Int32) (f278 : Nat → Int32) (bp277 : gB p277 0 8192) (bf278 : gF f278 (-128) 127) (x279 : (p273.toInt ≠ 5 ∨ (0 ≤ p274.toInt ∧ p274.toInt ≤ 13))) : Ct (gV D I) l yX9_kind cX9_kind 1 (some FieldType.int) 0 0 0 0 [.ref q270] [(q270, .inr (14, [.ref q271, .int p273, .int p274, .int p275, .int p276])), (q271, .inr (15, [.ref q272, .int p277])), (q272, .inl (I .byte, 8192, .inl f278))] (po_280_Signs_kind I q270 q271 q272 p273 p274 p275 p276 p277 f278) gN := by
  refine Ct_of hl0 (by decide) (Nat.le_of_ble_eq_true rfl) ?_
  have bp273 := gB_any p273
  have bp274 := gB_any p274
  have bp275 := gB_any p275
  have bp276 := gB_any p276
  refine G_aload_n 0 d_cX9_kind_0 rfl ?_
  refine G_getf 0 1 d_cX9_kind_1 rfl (gk_X9 D I) (Nat.le_of_ble_eq_true rfl) w_1_80 rfl ?_
  exact G_iret d_cX9_kind_4 rfl (Nat.le_of_ble_eq_true rfl) (Nat.le_of_ble_eq_true rfl) ⟨rfl, rfl⟩
abbrev ky_291_Signs_value : gKey := (cX9_value, 1, yX9_value.cls, (some FieldType.int), [], yX9_value.name, fun _ _ => True)
abbrev po_291_Signs_value (I : FieldType → ClassId) (q281 : Nat) (q282 : Nat) (q283 : Nat) (p284 : Int32) (p285 : Int32) (p286 : Int32) (p287 : Int32) (p288 : Int32) (f289 : Nat → Int32) : Option Value → va_W → Prop := fun r w => r = some (.int p285) ∧ w = [(q281, .inr (14, [.ref q282, .int p284, .int p285, .int p286, .int p287])), (q282, .inr (15, [.ref q283, .int p288])), (q283, .inl (I .byte, 8192, .inl f289))]
set_option maxRecDepth 100000 in
set_option maxHeartbeats 4000000 in
theorem ct_291_Signs_value (l : Launch) (hl0 : l.stackTraces = false) (D : va_G) (I : FieldType → ClassId) (q281 : Nat) (q282 : Nat) (q283 : Nat) (p284 : Int32) (p285 : Int32) (p286 : Int32) (p287 : Int32) (p288 : Int32) (f289 : Nat → Int32) (bp288 : gB p288 0 8192) (bf289 : gF f289 (-128) 127) (x290 : (p284.toInt ≠ 5 ∨ (0 ≤ p285.toInt ∧ p285.toInt ≤ 13))) : Ct (gV D I) l yX9_value cX9_value 1 (some FieldType.int) 0 0 0 0 [.ref q281] [(q281, .inr (14, [.ref q282, .int p284, .int p285, .int p286, .int p287])), (q282, .inr (15, [.ref q283, .int p288])), (q283, .inl (I .byte, 8192, .inl f289))] (po_291_Signs_value I q281 q282 q283 p284 p285 p286 p287 p288 f289) gN := by
  refine Ct_of hl0 (by decide) (Nat.le_of_ble_eq_true rfl) ?_
  have bp284 := gB_any p284
  have bp285 := gB_any p285
  have bp286 := gB_any p286
  have bp287 := gB_any p287
  refine G_aload_n 0 d_cX9_value_0 rfl ?_
  refine G_getf 0 2 d_cX9_value_1 rfl (gk_X9 D I) (Nat.le_of_ble_eq_true rfl) w_1_81 rfl ?_
  exact G_iret d_cX9_value_4 rfl (Nat.le_of_ble_eq_true rfl) (Nat.le_of_ble_eq_true rfl) ⟨rfl, rfl⟩
abbrev ky_302_Signs_place : gKey := (cX9_place, 1, yX9_place.cls, (some FieldType.int), [], yX9_place.name, fun _ _ => True)
abbrev po_302_Signs_place (I : FieldType → ClassId) (q292 : Nat) (q293 : Nat) (q294 : Nat) (p295 : Int32) (p296 : Int32) (p297 : Int32) (p298 : Int32) (p299 : Int32) (f300 : Nat → Int32) : Option Value → va_W → Prop := fun r w => r = some (.int p297) ∧ w = [(q292, .inr (14, [.ref q293, .int p295, .int p296, .int p297, .int p298])), (q293, .inr (15, [.ref q294, .int p299])), (q294, .inl (I .byte, 8192, .inl f300))]
set_option maxRecDepth 100000 in
set_option maxHeartbeats 4000000 in
theorem ct_302_Signs_place (l : Launch) (hl0 : l.stackTraces = false) (D : va_G) (I : FieldType → ClassId) (q292 : Nat) (q293 : Nat) (q294 : Nat) (p295 : Int32) (p296 : Int32) (p297 : Int32) (p298 : Int32) (p299 : Int32) (f300 : Nat → Int32) (bp299 : gB p299 0 8192) (bf300 : gF f300 (-128) 127) (x301 : (p295.toInt ≠ 5 ∨ (0 ≤ p296.toInt ∧ p296.toInt ≤ 13))) : Ct (gV D I) l yX9_place cX9_place 1 (some FieldType.int) 0 0 0 0 [.ref q292] [(q292, .inr (14, [.ref q293, .int p295, .int p296, .int p297, .int p298])), (q293, .inr (15, [.ref q294, .int p299])), (q294, .inl (I .byte, 8192, .inl f300))] (po_302_Signs_place I q292 q293 q294 p295 p296 p297 p298 p299 f300) gN := by
  refine Ct_of hl0 (by decide) (Nat.le_of_ble_eq_true rfl) ?_
  have bp295 := gB_any p295
  have bp296 := gB_any p296
  have bp297 := gB_any p297
  have bp298 := gB_any p298
  refine G_aload_n 0 d_cX9_place_0 rfl ?_
  refine G_getf 0 3 d_cX9_place_1 rfl (gk_X9 D I) (Nat.le_of_ble_eq_true rfl) w_1_82 rfl ?_
  exact G_iret d_cX9_place_4 rfl (Nat.le_of_ble_eq_true rfl) (Nat.le_of_ble_eq_true rfl) ⟨rfl, rfl⟩
abbrev ky_304_Signs_isDigit : gKey := (cX9_isDigit, 1, yX9_isDigit.cls, (some FieldType.boolean), [], yX9_isDigit.name, fun _ _ => True)
abbrev po_304_Signs_isDigit (I : FieldType → ClassId) (p303 : Int32) : Option Value → va_W → Prop := fun r w => (r = some (.int 0) ∧ w = [] ∧ p303.toInt < 48) ∨ (r = some (.int 0) ∧ w = [] ∧ 48 ≤ p303.toInt ∧ 57 < p303.toInt) ∨ (r = some (.int 1) ∧ w = [] ∧ 48 ≤ p303.toInt ∧ p303.toInt ≤ 57)
set_option maxRecDepth 100000 in
set_option maxHeartbeats 4000000 in
theorem ct_304_Signs_isDigit (l : Launch) (hl0 : l.stackTraces = false) (D : va_G) (I : FieldType → ClassId) (p303 : Int32)  : Ct (gV D I) l yX9_isDigit cX9_isDigit 1 (some FieldType.boolean) 0 0 0 0 [.int p303] [] (po_304_Signs_isDigit I p303) gN := by
  refine Ct_of hl0 (by decide) (Nat.le_of_ble_eq_true rfl) ?_
  have bp303 := gB_any p303
  refine G_iload_n 0 d_cX9_isDigit_0 rfl ?_
  refine G_bipush 48 d_cX9_isDigit_1 (by decide +kernel) ?_
  refine G_icmp_lt 16 d_cX9_isDigit_3 (by decide +kernel) (fun hc305 => ?_) (fun hc305 => ?_)
  · have r306 : p303.toInt < 48 := gj_lt hc305 (show Int32.toInt 48 = 48 by decide)
    have bp303' : gB p303 (-2147483648) 47 := ⟨by omega, by omega⟩
    refine G_iconst 0 d_cX9_isDigit_16 (by decide +kernel) ?_
    exact G_zret FieldType.boolean d_cX9_isDigit_17 rfl rfl (Nat.le_of_ble_eq_true rfl) (Nat.le_of_ble_eq_true rfl) (Or.inl ⟨rfl, rfl, r306⟩)
  · have r307 : 48 ≤ p303.toInt := gj_nlt hc305 (show Int32.toInt 48 = 48 by decide)
    have bp303' : gB p303 48 2147483647 := ⟨by omega, by omega⟩
    refine G_iload_n 0 d_cX9_isDigit_6 rfl ?_
    refine G_bipush 57 d_cX9_isDigit_7 (by decide +kernel) ?_
    refine G_icmp_gt 16 d_cX9_isDigit_9 (by decide +kernel) (fun hc308 => ?_) (fun hc308 => ?_)
    · have r309 : 57 < p303.toInt := gj_ltL hc308 (show Int32.toInt 57 = 57 by decide)
      have bp303'' : gB p303 58 2147483647 := ⟨by omega, by omega⟩
      refine G_iconst 0 d_cX9_isDigit_16 (by decide +kernel) ?_
      exact G_zret FieldType.boolean d_cX9_isDigit_17 rfl rfl (Nat.le_of_ble_eq_true rfl) (Nat.le_of_ble_eq_true rfl) (Or.inr (Or.inl ⟨rfl, rfl, r307, r309⟩))
    · have r310 : p303.toInt ≤ 57 := gj_nltL hc308 (show Int32.toInt 57 = 57 by decide)
      have bp303'' : gB p303 48 57 := ⟨by omega, by omega⟩
      refine G_iconst 1 d_cX9_isDigit_12 (by decide +kernel) ?_
      refine G_goto 17 d_cX9_isDigit_13 (by decide +kernel) ?_
      exact G_zret FieldType.boolean d_cX9_isDigit_17 rfl rfl (Nat.le_of_ble_eq_true rfl) (Nat.le_of_ble_eq_true rfl) (Or.inr (Or.inr (⟨rfl, rfl, r307, r310⟩)))
abbrev ky_312_Signs_isLetter : gKey := (cX9_isLetter, 1, yX9_isLetter.cls, (some FieldType.boolean), [], yX9_isLetter.name, fun _ _ => True)
abbrev po_312_Signs_isLetter (I : FieldType → ClassId) (p311 : Int32) : Option Value → va_W → Prop := fun r w => (r = some (.int 0) ∧ w = [] ∧ p311.toInt < 97) ∨ (r = some (.int 0) ∧ w = [] ∧ 97 ≤ p311.toInt ∧ 122 < p311.toInt) ∨ (r = some (.int 1) ∧ w = [] ∧ 97 ≤ p311.toInt ∧ p311.toInt ≤ 122)
set_option maxRecDepth 100000 in
set_option maxHeartbeats 4000000 in
theorem ct_312_Signs_isLetter (l : Launch) (hl0 : l.stackTraces = false) (D : va_G) (I : FieldType → ClassId) (p311 : Int32)  : Ct (gV D I) l yX9_isLetter cX9_isLetter 1 (some FieldType.boolean) 0 0 0 0 [.int p311] [] (po_312_Signs_isLetter I p311) gN := by
  refine Ct_of hl0 (by decide) (Nat.le_of_ble_eq_true rfl) ?_
  have bp311 := gB_any p311
  refine G_iload_n 0 d_cX9_isLetter_0 rfl ?_
  refine G_bipush 97 d_cX9_isLetter_1 (by decide +kernel) ?_
  refine G_icmp_lt 16 d_cX9_isLetter_3 (by decide +kernel) (fun hc313 => ?_) (fun hc313 => ?_)
  · have r314 : p311.toInt < 97 := gj_lt hc313 (show Int32.toInt 97 = 97 by decide)
    have bp311' : gB p311 (-2147483648) 96 := ⟨by omega, by omega⟩
    refine G_iconst 0 d_cX9_isLetter_16 (by decide +kernel) ?_
    exact G_zret FieldType.boolean d_cX9_isLetter_17 rfl rfl (Nat.le_of_ble_eq_true rfl) (Nat.le_of_ble_eq_true rfl) (Or.inl ⟨rfl, rfl, r314⟩)
  · have r315 : 97 ≤ p311.toInt := gj_nlt hc313 (show Int32.toInt 97 = 97 by decide)
    have bp311' : gB p311 97 2147483647 := ⟨by omega, by omega⟩
    refine G_iload_n 0 d_cX9_isLetter_6 rfl ?_
    refine G_bipush 122 d_cX9_isLetter_7 (by decide +kernel) ?_
    refine G_icmp_gt 16 d_cX9_isLetter_9 (by decide +kernel) (fun hc316 => ?_) (fun hc316 => ?_)
    · have r317 : 122 < p311.toInt := gj_ltL hc316 (show Int32.toInt 122 = 122 by decide)
      have bp311'' : gB p311 123 2147483647 := ⟨by omega, by omega⟩
      refine G_iconst 0 d_cX9_isLetter_16 (by decide +kernel) ?_
      exact G_zret FieldType.boolean d_cX9_isLetter_17 rfl rfl (Nat.le_of_ble_eq_true rfl) (Nat.le_of_ble_eq_true rfl) (Or.inr (Or.inl ⟨rfl, rfl, r315, r317⟩))
    · have r318 : p311.toInt ≤ 122 := gj_nltL hc316 (show Int32.toInt 122 = 122 by decide)
      have bp311'' : gB p311 97 122 := ⟨by omega, by omega⟩
      refine G_iconst 1 d_cX9_isLetter_12 (by decide +kernel) ?_
      refine G_goto 17 d_cX9_isLetter_13 (by decide +kernel) ?_
      exact G_zret FieldType.boolean d_cX9_isLetter_17 rfl rfl (Nat.le_of_ble_eq_true rfl) (Nat.le_of_ble_eq_true rfl) (Or.inr (Or.inr (⟨rfl, rfl, r315, r318⟩)))
abbrev ky_330_Signs_skipBlanks : gKey := (cX9_skipBlanks, 5, yX9_skipBlanks.cls, (some FieldType.int), [], yX9_skipBlanks.name, fun _ _ => True)
abbrev po_330_Signs_skipBlanks (I : FieldType → ClassId) (q319 : Nat) (q320 : Nat) (q321 : Nat) (p322 : Int32) (p323 : Int32) (p324 : Int32) (p325 : Int32) (p326 : Int32) (p327 : Int32) (f328 : Nat → Int32) : Option Value → va_W → Prop := fun r w => ∃ (o461 : Int32), r = some (.int o461) ∧ w = [(q319, .inr (14, [.ref q320, .int p323, .int p324, .int p325, .int p326])), (q320, .inr (15, [.ref q321, .int p327])), (q321, .inl (I .byte, 8192, .inl f328))] ∧ gB o461 (-2147483648) 8192
set_option maxRecDepth 100000 in
set_option maxHeartbeats 4000000 in
theorem ct_330_Signs_skipBlanks (l : Launch) (hl0 : l.stackTraces = false) (D : va_G) (I : FieldType → ClassId) (q319 : Nat) (q320 : Nat) (q321 : Nat) (p322 : Int32) (p323 : Int32) (p324 : Int32) (p325 : Int32) (p326 : Int32) (p327 : Int32) (f328 : Nat → Int32) (bp327 : gB p327 0 8192) (bf328 : gF f328 (-128) 127) (x329 : (p323.toInt ≠ 5 ∨ (0 ≤ p324.toInt ∧ p324.toInt ≤ 13))) : Ct (gV D I) l yX9_skipBlanks cX9_skipBlanks 5 (some FieldType.int) 1 21 0 0 [.ref q319, .int p322] [(q319, .inr (14, [.ref q320, .int p323, .int p324, .int p325, .int p326])), (q320, .inr (15, [.ref q321, .int p327])), (q321, .inl (I .byte, 8192, .inl f328))] (po_330_Signs_skipBlanks I q319 q320 q321 p322 p323 p324 p325 p326 p327 f328) gN := by
  refine Ct_of hl0 (by decide) (Nat.le_of_ble_eq_true rfl) ?_
  have bp322 := gB_any p322
  have bp323 := gB_any p323
  have bp324 := gB_any p324
  have bp325 := gB_any p325
  have bp326 := gB_any p326
  refine G_iconst 0 d_cX9_skipBlanks_0 (by decide +kernel) ?_
  refine G_istore_n (L' := [(2, .int 0), (0, .ref q319), (1, .int p322)]) d_cX9_skipBlanks_1 (Nat.le_of_ble_eq_true rfl) rfl ?_
  refine G_iload_n 2 d_cX9_skipBlanks_2 rfl ?_
  refine G_istore_n (L' := [(3, .int p322), (2, .int 0), (0, .ref q319), (1, .int p322)]) d_cX9_skipBlanks_3 (Nat.le_of_ble_eq_true rfl) rfl ?_
  have hlp4_414 : ∀ (n4_414 : Nat) (g413 : Int32) (g414 : Int32), gB g413 (-2147483648) 2147483647 → gB g414 0 1 → ((2147483648 : Int) - g413.toInt).toNat < n4_414 → G (gV D I) l (gRm 1 21 0 0) (gM (gV D I) (po_330_Signs_skipBlanks I q319 q320 q321 p322 p323 p324 p325 p326 p327 f328) gN 0 0) ky_330_Signs_skipBlanks 4 [(3, .int g413), (2, .int g414), (0, .ref q319), (1, .int p322)] [] [(q319, .inr (14, [.ref q320, .int p323, .int p324, .int p325, .int p326])), (q320, .inr (15, [.ref q321, .int p327])), (q321, .inl (I .byte, 8192, .inl f328))] 0 0 := by
    intro n4_414
    induction n4_414 with
    | zero => intro g413 g414 bg413 bg414 hm4_414; exact absurd hm4_414 (Nat.not_lt_zero _)
    | succ n4_414 ih4_414 =>
      intro g413 g414 bg413 bg414 hm4_414
      refine G_iload_n 0 d_cX9_skipBlanks_4 rfl ?_
      refine G_aload_n 2 d_cX9_skipBlanks_5 rfl ?_
      refine G_getf 0 0 d_cX9_skipBlanks_6 rfl (gk_X9 D I) (Nat.le_of_ble_eq_true rfl) w_1_79 rfl ?_
      refine G_callV (As := []) (wr := [(q319, .inr (14, [.ref q320, .int p323, .int p324, .int p325, .int p326]))]) (gV_ok D I) (ct_5_Tape_size l hl0 D I q320 q321 p327 f328 bp327 bf328) d_cX9_skipBlanks_9 ⟨w_3_16, w_1_2, w_3_19, by decide, rfl, (Nat.le_of_ble_eq_true rfl), (Nat.le_of_ble_eq_true rfl)⟩ w_3_17 w_3_18 1 rfl rfl [1, 2] [0] rfl rfl rfl rfl (by decide) (Nat.le_of_ble_eq_true rfl) (Nat.le_of_ble_eq_true rfl) (Nat.le_of_ble_eq_true rfl) (fun r w hp => ?_) (fun _ _ _ z => z.elim)
      obtain ⟨rfl, rfl⟩ := hp
      change G _ _ _ _ _ _ _ (.int p327 :: _) _ _ _
      refine G_ws (ws' := [(q319, .inr (14, [.ref q320, .int p323, .int p324, .int p325, .int p326])), (q320, .inr (15, [.ref q321, .int p327])), (q321, .inl (I .byte, 8192, .inl f328))]) (cs' := 0) (sl' := 0) rfl rfl rfl ?_
      refine G_icmp_ge 89 d_cX9_skipBlanks_12 (by decide +kernel) (fun hc415 => ?_) (fun hc415 => ?_)
      · have r416 : p327.toInt ≤ g413.toInt := gC_le hc415
        have bg413' : gB g413 0 2147483647 := ⟨by omega, by omega⟩
        refine G_aload_n 2 d_cX9_skipBlanks_89 rfl ?_
        refine G_getf 0 0 d_cX9_skipBlanks_90 rfl (gk_X9 D I) (Nat.le_of_ble_eq_true rfl) w_1_79 rfl ?_
        refine G_callV (As := []) (wr := [(q319, .inr (14, [.ref q320, .int p323, .int p324, .int p325, .int p326]))]) (gV_ok D I) (ct_5_Tape_size l hl0 D I q320 q321 p327 f328 bp327 bf328) d_cX9_skipBlanks_93 ⟨w_3_16, w_1_2, w_3_19, by decide, rfl, (Nat.le_of_ble_eq_true rfl), (Nat.le_of_ble_eq_true rfl)⟩ w_3_17 w_3_18 1 rfl rfl [1, 2] [0] rfl rfl rfl rfl (by decide) (Nat.le_of_ble_eq_true rfl) (Nat.le_of_ble_eq_true rfl) (Nat.le_of_ble_eq_true rfl) (fun r w hp => ?_) (fun _ _ _ z => z.elim)
        obtain ⟨rfl, rfl⟩ := hp
        change G _ _ _ _ _ _ _ (.int p327 :: _) _ _ _
        refine G_ws (ws' := [(q319, .inr (14, [.ref q320, .int p323, .int p324, .int p325, .int p326])), (q320, .inr (15, [.ref q321, .int p327])), (q321, .inl (I .byte, 8192, .inl f328))]) (cs' := 0) (sl' := 0) rfl rfl rfl ?_
        exact G_iret d_cX9_skipBlanks_96 rfl (Nat.le_of_ble_eq_true rfl) (Nat.le_of_ble_eq_true rfl) ⟨p327, rfl, rfl, (gB_w bp327 (by decide) (by decide))⟩
      · have r417 : g413.toInt < p327.toInt := gC_nle hc415
        have bg413' : gB g413 (-2147483648) 8191 := ⟨by omega, by omega⟩
        refine G_aload_n 2 d_cX9_skipBlanks_15 rfl ?_
        refine G_getf 0 0 d_cX9_skipBlanks_16 rfl (gk_X9 D I) (Nat.le_of_ble_eq_true rfl) w_1_79 rfl ?_
        refine G_iload_n 0 d_cX9_skipBlanks_19 rfl ?_
        refine G_callV (As := [.int g413]) (wr := [(q319, .inr (14, [.ref q320, .int p323, .int p324, .int p325, .int p326]))]) (gV_ok D I) (ct_31_Tape_byteAt l hl0 D I q320 q321 g413 p327 f328 bp327 bf328) d_cX9_skipBlanks_20 ⟨w_3_20, w_1_2, w_3_23, by decide, rfl, (Nat.le_of_ble_eq_true rfl), (Nat.le_of_ble_eq_true rfl)⟩ w_3_21 w_3_22 1 rfl rfl [1, 2] [0] rfl rfl rfl rfl (by decide) (Nat.le_of_ble_eq_true rfl) (Nat.le_of_ble_eq_true rfl) (Nat.le_of_ble_eq_true rfl) (fun r w hp => ?_) (fun _ _ _ z => z.elim)
        rcases hp with ⟨rfl, rfl, r418⟩ | ⟨rfl, rfl, r419, r420⟩ | ⟨z421, rfl, rfl, r422, r423, r424⟩
        · have bg413'' : gB g413 (-2147483648) (-1) := ⟨by omega, by omega⟩
          change G _ _ _ _ _ _ _ (.int (-1) :: _) _ _ _
          refine G_ws (ws' := [(q319, .inr (14, [.ref q320, .int p323, .int p324, .int p325, .int p326])), (q320, .inr (15, [.ref q321, .int p327])), (q321, .inl (I .byte, 8192, .inl f328))]) (cs' := 0) (sl' := 0) rfl rfl rfl ?_
          refine G_istore (L' := [(4, .int (-1)), (3, .int g413), (2, .int g414), (0, .ref q319), (1, .int p322)]) d_cX9_skipBlanks_23 (Nat.le_of_ble_eq_true rfl) rfl ?_
          refine G_iload 0 d_cX9_skipBlanks_25 rfl ?_
          refine G_bipush 10 d_cX9_skipBlanks_27 (by decide +kernel) ?_
          refine G_icmp_eq 47 d_cX9_skipBlanks_29 (by decide +kernel) (fun hc => absurd hc (by decide)) (fun _ => ?_)
          refine G_iload_n 2 d_cX9_skipBlanks_32 rfl ?_
          refine G_if_ne 43 d_cX9_skipBlanks_33 (by decide +kernel) (fun hc425 => ?_) (fun hc425 => ?_)
          · have r426 : g414.toInt ≠ 0 := gj_neq hc425 (show Int32.toInt 0 = 0 by decide)
            have bg414' : gB g414 1 1 := ⟨by omega, by omega⟩
            refine G_iconst 1 d_cX9_skipBlanks_43 (by decide +kernel) ?_
            refine G_goto 48 d_cX9_skipBlanks_44 (by decide +kernel) ?_
            refine G_istore_n (L' := [(2, .int 1), (4, .int (-1)), (3, .int g413), (0, .ref q319), (1, .int p322)]) d_cX9_skipBlanks_48 (Nat.le_of_ble_eq_true rfl) rfl ?_
            refine G_iload_n 0 d_cX9_skipBlanks_49 rfl ?_
            refine G_if_ne 83 d_cX9_skipBlanks_50 (by decide +kernel) (fun _ => ?_) (fun hc => absurd hc (by decide))
            obtain ⟨z427, hz427⟩ : ∃ z : Int32, z = g413 + Int32.ofInt 1 := ⟨_, rfl⟩
            have ez427 : z427.toInt = g413.toInt + 1 := gI_inc hz427 (by decide) bg413'' (by decide) (by decide)
            have bz427 : gB z427 (-2147483647) 0 := ⟨by omega, by omega⟩
            refine G_iinc (L' := [(3, .int z427), (2, .int 1), (4, .int (-1)), (0, .ref q319), (1, .int p322)]) z427 2 d_cX9_skipBlanks_83 rfl hz427.symm (Nat.le_of_ble_eq_true rfl) rfl ?_
            refine G_goto 4 d_cX9_skipBlanks_86 (by decide +kernel) ?_
            refine G_lv (L' := [(3, .int z427), (2, .int 1), (0, .ref q319), (1, .int p322)]) [0, 1, 3, 4] rfl ?_
            exact ih4_414 z427 1 (gB_w bz427 (by decide) (by decide)) (gB_w (gBl (show Int32.toInt 1 = 1 by decide)) (by decide) (by decide)) (by have qa0 : Int32.toInt 1 = 1 := (by decide); omega)
          · have r428 : g414.toInt = 0 := gj_eq hc425 (show Int32.toInt 0 = 0 by decide)
            have bg414' : gB g414 0 0 := ⟨by omega, by omega⟩
            refine G_iload 0 d_cX9_skipBlanks_36 rfl ?_
            refine G_bipush 59 d_cX9_skipBlanks_38 (by decide +kernel) ?_
            refine G_icmp_ne 47 d_cX9_skipBlanks_40 (by decide +kernel) (fun _ => ?_) (fun hc => absurd hc (by decide))
            refine G_iconst 0 d_cX9_skipBlanks_47 (by decide +kernel) ?_
            refine G_istore_n (L' := [(2, .int 0), (4, .int (-1)), (3, .int g413), (0, .ref q319), (1, .int p322)]) d_cX9_skipBlanks_48 (Nat.le_of_ble_eq_true rfl) rfl ?_
            refine G_iload_n 0 d_cX9_skipBlanks_49 rfl ?_
            refine G_if_ne 83 d_cX9_skipBlanks_50 (by decide +kernel) (fun hc => absurd hc (by decide)) (fun _ => ?_)
            refine G_iload 1 d_cX9_skipBlanks_53 rfl ?_
            refine G_bipush 9 d_cX9_skipBlanks_55 (by decide +kernel) ?_
            refine G_icmp_eq 83 d_cX9_skipBlanks_57 (by decide +kernel) (fun hc => absurd hc (by decide)) (fun _ => ?_)
            refine G_iload 1 d_cX9_skipBlanks_60 rfl ?_
            refine G_bipush 10 d_cX9_skipBlanks_62 (by decide +kernel) ?_
            refine G_icmp_eq 83 d_cX9_skipBlanks_64 (by decide +kernel) (fun hc => absurd hc (by decide)) (fun _ => ?_)
            refine G_iload 1 d_cX9_skipBlanks_67 rfl ?_
            refine G_bipush 13 d_cX9_skipBlanks_69 (by decide +kernel) ?_
            refine G_icmp_eq 83 d_cX9_skipBlanks_71 (by decide +kernel) (fun hc => absurd hc (by decide)) (fun _ => ?_)
            refine G_iload 1 d_cX9_skipBlanks_74 rfl ?_
            refine G_bipush 32 d_cX9_skipBlanks_76 (by decide +kernel) ?_
            refine G_icmp_eq 83 d_cX9_skipBlanks_78 (by decide +kernel) (fun hc => absurd hc (by decide)) (fun _ => ?_)
            refine G_iload_n 2 d_cX9_skipBlanks_81 rfl ?_
            exact G_iret d_cX9_skipBlanks_82 rfl (Nat.le_of_ble_eq_true rfl) (Nat.le_of_ble_eq_true rfl) ⟨g413, rfl, rfl, (gB_w bg413'' (by decide) (by decide))⟩
        · have bg413'' : gB g413 0 8191 := ⟨by omega, by omega⟩
          have bp327' : gB p327 0 8191 := ⟨by omega, by omega⟩
          change G _ _ _ _ _ _ _ (.int (-1) :: _) _ _ _
          refine G_ws (ws' := [(q319, .inr (14, [.ref q320, .int p323, .int p324, .int p325, .int p326])), (q320, .inr (15, [.ref q321, .int p327])), (q321, .inl (I .byte, 8192, .inl f328))]) (cs' := 0) (sl' := 0) rfl rfl rfl ?_
          refine G_istore (L' := [(4, .int (-1)), (3, .int g413), (2, .int g414), (0, .ref q319), (1, .int p322)]) d_cX9_skipBlanks_23 (Nat.le_of_ble_eq_true rfl) rfl ?_
          refine G_iload 0 d_cX9_skipBlanks_25 rfl ?_
          refine G_bipush 10 d_cX9_skipBlanks_27 (by decide +kernel) ?_
          refine G_icmp_eq 47 d_cX9_skipBlanks_29 (by decide +kernel) (fun hc => absurd hc (by decide)) (fun _ => ?_)
          refine G_iload_n 2 d_cX9_skipBlanks_32 rfl ?_
          refine G_if_ne 43 d_cX9_skipBlanks_33 (by decide +kernel) (fun hc429 => ?_) (fun hc429 => ?_)
          · have r430 : g414.toInt ≠ 0 := gj_neq hc429 (show Int32.toInt 0 = 0 by decide)
            have bg414' : gB g414 1 1 := ⟨by omega, by omega⟩
            refine G_iconst 1 d_cX9_skipBlanks_43 (by decide +kernel) ?_
            refine G_goto 48 d_cX9_skipBlanks_44 (by decide +kernel) ?_
            refine G_istore_n (L' := [(2, .int 1), (4, .int (-1)), (3, .int g413), (0, .ref q319), (1, .int p322)]) d_cX9_skipBlanks_48 (Nat.le_of_ble_eq_true rfl) rfl ?_
            refine G_iload_n 0 d_cX9_skipBlanks_49 rfl ?_
            refine G_if_ne 83 d_cX9_skipBlanks_50 (by decide +kernel) (fun _ => ?_) (fun hc => absurd hc (by decide))
            obtain ⟨z431, hz431⟩ : ∃ z : Int32, z = g413 + Int32.ofInt 1 := ⟨_, rfl⟩
            have ez431 : z431.toInt = g413.toInt + 1 := gI_inc hz431 (by decide) bg413'' (by decide) (by decide)
            have bz431 : gB z431 1 8192 := ⟨by omega, by omega⟩
            refine G_iinc (L' := [(3, .int z431), (2, .int 1), (4, .int (-1)), (0, .ref q319), (1, .int p322)]) z431 2 d_cX9_skipBlanks_83 rfl hz431.symm (Nat.le_of_ble_eq_true rfl) rfl ?_
            refine G_goto 4 d_cX9_skipBlanks_86 (by decide +kernel) ?_
            refine G_lv (L' := [(3, .int z431), (2, .int 1), (0, .ref q319), (1, .int p322)]) [0, 1, 3, 4] rfl ?_
            exact ih4_414 z431 1 (gB_w bz431 (by decide) (by decide)) (gB_w (gBl (show Int32.toInt 1 = 1 by decide)) (by decide) (by decide)) (by have qa0 : Int32.toInt 1 = 1 := (by decide); omega)
          · have r432 : g414.toInt = 0 := gj_eq hc429 (show Int32.toInt 0 = 0 by decide)
            have bg414' : gB g414 0 0 := ⟨by omega, by omega⟩
            refine G_iload 0 d_cX9_skipBlanks_36 rfl ?_
            refine G_bipush 59 d_cX9_skipBlanks_38 (by decide +kernel) ?_
            refine G_icmp_ne 47 d_cX9_skipBlanks_40 (by decide +kernel) (fun _ => ?_) (fun hc => absurd hc (by decide))
            refine G_iconst 0 d_cX9_skipBlanks_47 (by decide +kernel) ?_
            refine G_istore_n (L' := [(2, .int 0), (4, .int (-1)), (3, .int g413), (0, .ref q319), (1, .int p322)]) d_cX9_skipBlanks_48 (Nat.le_of_ble_eq_true rfl) rfl ?_
            refine G_iload_n 0 d_cX9_skipBlanks_49 rfl ?_
            refine G_if_ne 83 d_cX9_skipBlanks_50 (by decide +kernel) (fun hc => absurd hc (by decide)) (fun _ => ?_)
            refine G_iload 1 d_cX9_skipBlanks_53 rfl ?_
            refine G_bipush 9 d_cX9_skipBlanks_55 (by decide +kernel) ?_
            refine G_icmp_eq 83 d_cX9_skipBlanks_57 (by decide +kernel) (fun hc => absurd hc (by decide)) (fun _ => ?_)
            refine G_iload 1 d_cX9_skipBlanks_60 rfl ?_
            refine G_bipush 10 d_cX9_skipBlanks_62 (by decide +kernel) ?_
            refine G_icmp_eq 83 d_cX9_skipBlanks_64 (by decide +kernel) (fun hc => absurd hc (by decide)) (fun _ => ?_)
            refine G_iload 1 d_cX9_skipBlanks_67 rfl ?_
            refine G_bipush 13 d_cX9_skipBlanks_69 (by decide +kernel) ?_
            refine G_icmp_eq 83 d_cX9_skipBlanks_71 (by decide +kernel) (fun hc => absurd hc (by decide)) (fun _ => ?_)
            refine G_iload 1 d_cX9_skipBlanks_74 rfl ?_
            refine G_bipush 32 d_cX9_skipBlanks_76 (by decide +kernel) ?_
            refine G_icmp_eq 83 d_cX9_skipBlanks_78 (by decide +kernel) (fun hc => absurd hc (by decide)) (fun _ => ?_)
            refine G_iload_n 2 d_cX9_skipBlanks_81 rfl ?_
            exact G_iret d_cX9_skipBlanks_82 rfl (Nat.le_of_ble_eq_true rfl) (Nat.le_of_ble_eq_true rfl) ⟨g413, rfl, rfl, (gB_w bg413'' (by decide) (by decide))⟩
        · have bg413'' : gB g413 0 8191 := ⟨by omega, by omega⟩
          have bp327' : gB p327 1 8192 := ⟨by omega, by omega⟩
          change G _ _ _ _ _ _ _ (.int z421 :: _) _ _ _
          refine G_ws (ws' := [(q319, .inr (14, [.ref q320, .int p323, .int p324, .int p325, .int p326])), (q320, .inr (15, [.ref q321, .int p327])), (q321, .inl (I .byte, 8192, .inl f328))]) (cs' := 0) (sl' := 0) rfl rfl rfl ?_
          refine G_istore (L' := [(4, .int z421), (3, .int g413), (2, .int g414), (0, .ref q319), (1, .int p322)]) d_cX9_skipBlanks_23 (Nat.le_of_ble_eq_true rfl) rfl ?_
          refine G_iload 0 d_cX9_skipBlanks_25 rfl ?_
          refine G_bipush 10 d_cX9_skipBlanks_27 (by decide +kernel) ?_
          refine G_icmp_eq 47 d_cX9_skipBlanks_29 (by decide +kernel) (fun hc433 => ?_) (fun hc433 => ?_)
          · have r434 : z421.toInt = 10 := gj_eq hc433 (show Int32.toInt 10 = 10 by decide)
            have r424' : gB z421 10 10 := ⟨by omega, by omega⟩
            refine G_iconst 0 d_cX9_skipBlanks_47 (by decide +kernel) ?_
            refine G_istore_n (L' := [(2, .int 0), (4, .int z421), (3, .int g413), (0, .ref q319), (1, .int p322)]) d_cX9_skipBlanks_48 (Nat.le_of_ble_eq_true rfl) rfl ?_
            refine G_iload_n 0 d_cX9_skipBlanks_49 rfl ?_
            refine G_if_ne 83 d_cX9_skipBlanks_50 (by decide +kernel) (fun hc => absurd hc (by decide)) (fun _ => ?_)
            refine G_iload 1 d_cX9_skipBlanks_53 rfl ?_
            refine G_bipush 9 d_cX9_skipBlanks_55 (by decide +kernel) ?_
            refine G_icmp_eq 83 d_cX9_skipBlanks_57 (by decide +kernel) (fun hc => absurd (show False by have := gj_eq hc (show Int32.toInt 9 = 9 by decide); omega) not_false) (fun _ => ?_)
            refine G_iload 1 d_cX9_skipBlanks_60 rfl ?_
            refine G_bipush 10 d_cX9_skipBlanks_62 (by decide +kernel) ?_
            refine G_icmp_eq 83 d_cX9_skipBlanks_64 (by decide +kernel) (fun _ => ?_) (fun hc => absurd (show False by have := gj_neq hc (show Int32.toInt 10 = 10 by decide); omega) not_false)
            obtain ⟨z435, hz435⟩ : ∃ z : Int32, z = g413 + Int32.ofInt 1 := ⟨_, rfl⟩
            have ez435 : z435.toInt = g413.toInt + 1 := gI_inc hz435 (by decide) bg413'' (by decide) (by decide)
            have bz435 : gB z435 1 8192 := ⟨by omega, by omega⟩
            refine G_iinc (L' := [(3, .int z435), (2, .int 0), (4, .int z421), (0, .ref q319), (1, .int p322)]) z435 2 d_cX9_skipBlanks_83 rfl hz435.symm (Nat.le_of_ble_eq_true rfl) rfl ?_
            refine G_goto 4 d_cX9_skipBlanks_86 (by decide +kernel) ?_
            refine G_lv (L' := [(3, .int z435), (2, .int 0), (0, .ref q319), (1, .int p322)]) [0, 1, 3, 4] rfl ?_
            exact ih4_414 z435 0 (gB_w bz435 (by decide) (by decide)) (gB_w (gBl (show Int32.toInt 0 = 0 by decide)) (by decide) (by decide)) (by have qa0 : Int32.toInt 0 = 0 := (by decide); omega)
          · have r436 : z421.toInt ≠ 10 := gj_neq hc433 (show Int32.toInt 10 = 10 by decide)
            refine G_iload_n 2 d_cX9_skipBlanks_32 rfl ?_
            refine G_if_ne 43 d_cX9_skipBlanks_33 (by decide +kernel) (fun hc437 => ?_) (fun hc437 => ?_)
            · have r438 : g414.toInt ≠ 0 := gj_neq hc437 (show Int32.toInt 0 = 0 by decide)
              have bg414' : gB g414 1 1 := ⟨by omega, by omega⟩
              refine G_iconst 1 d_cX9_skipBlanks_43 (by decide +kernel) ?_
              refine G_goto 48 d_cX9_skipBlanks_44 (by decide +kernel) ?_
              refine G_istore_n (L' := [(2, .int 1), (4, .int z421), (3, .int g413), (0, .ref q319), (1, .int p322)]) d_cX9_skipBlanks_48 (Nat.le_of_ble_eq_true rfl) rfl ?_
              refine G_iload_n 0 d_cX9_skipBlanks_49 rfl ?_
              refine G_if_ne 83 d_cX9_skipBlanks_50 (by decide +kernel) (fun _ => ?_) (fun hc => absurd hc (by decide))
              obtain ⟨z439, hz439⟩ : ∃ z : Int32, z = g413 + Int32.ofInt 1 := ⟨_, rfl⟩
              have ez439 : z439.toInt = g413.toInt + 1 := gI_inc hz439 (by decide) bg413'' (by decide) (by decide)
              have bz439 : gB z439 1 8192 := ⟨by omega, by omega⟩
              refine G_iinc (L' := [(3, .int z439), (2, .int 1), (4, .int z421), (0, .ref q319), (1, .int p322)]) z439 2 d_cX9_skipBlanks_83 rfl hz439.symm (Nat.le_of_ble_eq_true rfl) rfl ?_
              refine G_goto 4 d_cX9_skipBlanks_86 (by decide +kernel) ?_
              refine G_lv (L' := [(3, .int z439), (2, .int 1), (0, .ref q319), (1, .int p322)]) [0, 1, 3, 4] rfl ?_
              exact ih4_414 z439 1 (gB_w bz439 (by decide) (by decide)) (gB_w (gBl (show Int32.toInt 1 = 1 by decide)) (by decide) (by decide)) (by have qa0 : Int32.toInt 1 = 1 := (by decide); omega)
            · have r440 : g414.toInt = 0 := gj_eq hc437 (show Int32.toInt 0 = 0 by decide)
              have bg414' : gB g414 0 0 := ⟨by omega, by omega⟩
              refine G_iload 0 d_cX9_skipBlanks_36 rfl ?_
              refine G_bipush 59 d_cX9_skipBlanks_38 (by decide +kernel) ?_
              refine G_icmp_ne 47 d_cX9_skipBlanks_40 (by decide +kernel) (fun hc441 => ?_) (fun hc441 => ?_)
              · have r442 : z421.toInt ≠ 59 := gj_neq hc441 (show Int32.toInt 59 = 59 by decide)
                refine G_iconst 0 d_cX9_skipBlanks_47 (by decide +kernel) ?_
                refine G_istore_n (L' := [(2, .int 0), (4, .int z421), (3, .int g413), (0, .ref q319), (1, .int p322)]) d_cX9_skipBlanks_48 (Nat.le_of_ble_eq_true rfl) rfl ?_
                refine G_iload_n 0 d_cX9_skipBlanks_49 rfl ?_
                refine G_if_ne 83 d_cX9_skipBlanks_50 (by decide +kernel) (fun hc => absurd hc (by decide)) (fun _ => ?_)
                refine G_iload 1 d_cX9_skipBlanks_53 rfl ?_
                refine G_bipush 9 d_cX9_skipBlanks_55 (by decide +kernel) ?_
                refine G_icmp_eq 83 d_cX9_skipBlanks_57 (by decide +kernel) (fun hc443 => ?_) (fun hc443 => ?_)
                · have r444 : z421.toInt = 9 := gj_eq hc443 (show Int32.toInt 9 = 9 by decide)
                  have r424' : gB z421 9 9 := ⟨by omega, by omega⟩
                  obtain ⟨z445, hz445⟩ : ∃ z : Int32, z = g413 + Int32.ofInt 1 := ⟨_, rfl⟩
                  have ez445 : z445.toInt = g413.toInt + 1 := gI_inc hz445 (by decide) bg413'' (by decide) (by decide)
                  have bz445 : gB z445 1 8192 := ⟨by omega, by omega⟩
                  refine G_iinc (L' := [(3, .int z445), (2, .int 0), (4, .int z421), (0, .ref q319), (1, .int p322)]) z445 2 d_cX9_skipBlanks_83 rfl hz445.symm (Nat.le_of_ble_eq_true rfl) rfl ?_
                  refine G_goto 4 d_cX9_skipBlanks_86 (by decide +kernel) ?_
                  refine G_lv (L' := [(3, .int z445), (2, .int 0), (0, .ref q319), (1, .int p322)]) [0, 1, 3, 4] rfl ?_
                  exact ih4_414 z445 0 (gB_w bz445 (by decide) (by decide)) (gB_w (gBl (show Int32.toInt 0 = 0 by decide)) (by decide) (by decide)) (by have qa0 : Int32.toInt 0 = 0 := (by decide); omega)
                · have r446 : z421.toInt ≠ 9 := gj_neq hc443 (show Int32.toInt 9 = 9 by decide)
                  refine G_iload 1 d_cX9_skipBlanks_60 rfl ?_
                  refine G_bipush 10 d_cX9_skipBlanks_62 (by decide +kernel) ?_
                  refine G_icmp_eq 83 d_cX9_skipBlanks_64 (by decide +kernel) (fun hc447 => ?_) (fun hc447 => ?_)
                  · have r448 : z421.toInt = 10 := gj_eq hc447 (show Int32.toInt 10 = 10 by decide)
                    have r424' : gB z421 10 10 := ⟨by omega, by omega⟩
                    obtain ⟨z449, hz449⟩ : ∃ z : Int32, z = g413 + Int32.ofInt 1 := ⟨_, rfl⟩
                    have ez449 : z449.toInt = g413.toInt + 1 := gI_inc hz449 (by decide) bg413'' (by decide) (by decide)
                    have bz449 : gB z449 1 8192 := ⟨by omega, by omega⟩
                    refine G_iinc (L' := [(3, .int z449), (2, .int 0), (4, .int z421), (0, .ref q319), (1, .int p322)]) z449 2 d_cX9_skipBlanks_83 rfl hz449.symm (Nat.le_of_ble_eq_true rfl) rfl ?_
                    refine G_goto 4 d_cX9_skipBlanks_86 (by decide +kernel) ?_
                    refine G_lv (L' := [(3, .int z449), (2, .int 0), (0, .ref q319), (1, .int p322)]) [0, 1, 3, 4] rfl ?_
                    exact ih4_414 z449 0 (gB_w bz449 (by decide) (by decide)) (gB_w (gBl (show Int32.toInt 0 = 0 by decide)) (by decide) (by decide)) (by have qa0 : Int32.toInt 0 = 0 := (by decide); omega)
                  · have r450 : z421.toInt ≠ 10 := gj_neq hc447 (show Int32.toInt 10 = 10 by decide)
                    refine G_iload 1 d_cX9_skipBlanks_67 rfl ?_
                    refine G_bipush 13 d_cX9_skipBlanks_69 (by decide +kernel) ?_
                    refine G_icmp_eq 83 d_cX9_skipBlanks_71 (by decide +kernel) (fun hc451 => ?_) (fun hc451 => ?_)
                    · have r452 : z421.toInt = 13 := gj_eq hc451 (show Int32.toInt 13 = 13 by decide)
                      have r424' : gB z421 13 13 := ⟨by omega, by omega⟩
                      obtain ⟨z453, hz453⟩ : ∃ z : Int32, z = g413 + Int32.ofInt 1 := ⟨_, rfl⟩
                      have ez453 : z453.toInt = g413.toInt + 1 := gI_inc hz453 (by decide) bg413'' (by decide) (by decide)
                      have bz453 : gB z453 1 8192 := ⟨by omega, by omega⟩
                      refine G_iinc (L' := [(3, .int z453), (2, .int 0), (4, .int z421), (0, .ref q319), (1, .int p322)]) z453 2 d_cX9_skipBlanks_83 rfl hz453.symm (Nat.le_of_ble_eq_true rfl) rfl ?_
                      refine G_goto 4 d_cX9_skipBlanks_86 (by decide +kernel) ?_
                      refine G_lv (L' := [(3, .int z453), (2, .int 0), (0, .ref q319), (1, .int p322)]) [0, 1, 3, 4] rfl ?_
                      exact ih4_414 z453 0 (gB_w bz453 (by decide) (by decide)) (gB_w (gBl (show Int32.toInt 0 = 0 by decide)) (by decide) (by decide)) (by have qa0 : Int32.toInt 0 = 0 := (by decide); omega)
                    · have r454 : z421.toInt ≠ 13 := gj_neq hc451 (show Int32.toInt 13 = 13 by decide)
                      refine G_iload 1 d_cX9_skipBlanks_74 rfl ?_
                      refine G_bipush 32 d_cX9_skipBlanks_76 (by decide +kernel) ?_
                      refine G_icmp_eq 83 d_cX9_skipBlanks_78 (by decide +kernel) (fun hc455 => ?_) (fun hc455 => ?_)
                      · have r456 : z421.toInt = 32 := gj_eq hc455 (show Int32.toInt 32 = 32 by decide)
                        have r424' : gB z421 32 32 := ⟨by omega, by omega⟩
                        obtain ⟨z457, hz457⟩ : ∃ z : Int32, z = g413 + Int32.ofInt 1 := ⟨_, rfl⟩
                        have ez457 : z457.toInt = g413.toInt + 1 := gI_inc hz457 (by decide) bg413'' (by decide) (by decide)
                        have bz457 : gB z457 1 8192 := ⟨by omega, by omega⟩
                        refine G_iinc (L' := [(3, .int z457), (2, .int 0), (4, .int z421), (0, .ref q319), (1, .int p322)]) z457 2 d_cX9_skipBlanks_83 rfl hz457.symm (Nat.le_of_ble_eq_true rfl) rfl ?_
                        refine G_goto 4 d_cX9_skipBlanks_86 (by decide +kernel) ?_
                        refine G_lv (L' := [(3, .int z457), (2, .int 0), (0, .ref q319), (1, .int p322)]) [0, 1, 3, 4] rfl ?_
                        exact ih4_414 z457 0 (gB_w bz457 (by decide) (by decide)) (gB_w (gBl (show Int32.toInt 0 = 0 by decide)) (by decide) (by decide)) (by have qa0 : Int32.toInt 0 = 0 := (by decide); omega)
                      · have r458 : z421.toInt ≠ 32 := gj_neq hc455 (show Int32.toInt 32 = 32 by decide)
                        refine G_iload_n 2 d_cX9_skipBlanks_81 rfl ?_
                        exact G_iret d_cX9_skipBlanks_82 rfl (Nat.le_of_ble_eq_true rfl) (Nat.le_of_ble_eq_true rfl) ⟨g413, rfl, rfl, (gB_w bg413'' (by decide) (by decide))⟩
              · have r459 : z421.toInt = 59 := gj_eq hc441 (show Int32.toInt 59 = 59 by decide)
                have r424' : gB z421 59 59 := ⟨by omega, by omega⟩
                refine G_iconst 1 d_cX9_skipBlanks_43 (by decide +kernel) ?_
                refine G_goto 48 d_cX9_skipBlanks_44 (by decide +kernel) ?_
                refine G_istore_n (L' := [(2, .int 1), (4, .int z421), (3, .int g413), (0, .ref q319), (1, .int p322)]) d_cX9_skipBlanks_48 (Nat.le_of_ble_eq_true rfl) rfl ?_
                refine G_iload_n 0 d_cX9_skipBlanks_49 rfl ?_
                refine G_if_ne 83 d_cX9_skipBlanks_50 (by decide +kernel) (fun _ => ?_) (fun hc => absurd hc (by decide))
                obtain ⟨z460, hz460⟩ : ∃ z : Int32, z = g413 + Int32.ofInt 1 := ⟨_, rfl⟩
                have ez460 : z460.toInt = g413.toInt + 1 := gI_inc hz460 (by decide) bg413'' (by decide) (by decide)
                have bz460 : gB z460 1 8192 := ⟨by omega, by omega⟩
                refine G_iinc (L' := [(3, .int z460), (2, .int 1), (4, .int z421), (0, .ref q319), (1, .int p322)]) z460 2 d_cX9_skipBlanks_83 rfl hz460.symm (Nat.le_of_ble_eq_true rfl) rfl ?_
                refine G_goto 4 d_cX9_skipBlanks_86 (by decide +kernel) ?_
                refine G_lv (L' := [(3, .int z460), (2, .int 1), (0, .ref q319), (1, .int p322)]) [0, 1, 3, 4] rfl ?_
                exact ih4_414 z460 1 (gB_w bz460 (by decide) (by decide)) (gB_w (gBl (show Int32.toInt 1 = 1 by decide)) (by decide) (by decide)) (by have qa0 : Int32.toInt 1 = 1 := (by decide); omega)
  exact hlp4_414 (((2147483648 : Int) - p322.toInt).toNat + 1) p322 0 bp322 (gB_w (gBl (show Int32.toInt 0 = 0 by decide)) (by decide) (by decide)) (Nat.lt_succ_self _)
abbrev ky_512_Math_min : gKey := (cJ9_min_f86c9, 4, yJ9_min_f86c9.cls, (some FieldType.long), [], yJ9_min_f86c9.name, fun _ _ => True)
abbrev po_512_Math_min (I : FieldType → ClassId) (pl510 : Int64) (pl511 : Int64) : Option Value → va_W → Prop := fun r w => ∃ (ol517 : Int64), r = some (.long ol517) ∧ w = []
set_option maxRecDepth 100000 in
set_option maxHeartbeats 4000000 in
theorem ct_512_Math_min (l : Launch) (hl0 : l.stackTraces = false) (D : va_G) (I : FieldType → ClassId) (pl510 : Int64) (pl511 : Int64)  : Ct (gV D I) l yJ9_min_f86c9 cJ9_min_f86c9 4 (some FieldType.long) 0 0 0 0 [.long pl510, .long pl511] [] (po_512_Math_min I pl510 pl511) gN := by
  refine Ct_ofF hl0 (by decide +kernel) (Nat.le_of_ble_eq_true rfl) ?_
  refine G_lload_n 0 d_cJ9_min_f86c9_0 rfl ?_
  refine G_lload_n 1 d_cJ9_min_f86c9_1 rfl ?_
  refine G_lcmp d_cJ9_min_f86c9_2 (G_nam fun z513 hz513 => ?_)
  have bz513 : gB z513 (-1) 1 := gB_cmp hz513
  refine G_if_gt 10 d_cJ9_min_f86c9_3 (by decide +kernel) (fun hc514 => ?_) (fun hc514 => ?_)
  · have r515 : 0 < z513.toInt := gj_ltL hc514 (show Int32.toInt 0 = 0 by decide)
    have bz513' : gB z513 1 1 := ⟨by omega, by omega⟩
    have lhc514 := gC_cmpS hz513 (by omega)
    refine G_lload_n 1 d_cJ9_min_f86c9_10 rfl ?_
    exact G_lret d_cJ9_min_f86c9_11 rfl (Nat.le_of_ble_eq_true rfl) (Nat.le_of_ble_eq_true rfl) ⟨pl511, rfl, rfl⟩
  · have r516 : z513.toInt ≤ 0 := gj_nltL hc514 (show Int32.toInt 0 = 0 by decide)
    have bz513' : gB z513 (-1) 0 := ⟨by omega, by omega⟩
    refine G_lload_n 0 d_cJ9_min_f86c9_6 rfl ?_
    refine G_goto 11 d_cJ9_min_f86c9_7 (by decide +kernel) ?_
    exact G_lret d_cJ9_min_f86c9_11 rfl (Nat.le_of_ble_eq_true rfl) (Nat.le_of_ble_eq_true rfl) ⟨pl510, rfl, rfl⟩
abbrev ky_473_Signs_takeDigits : gKey := (cX9_takeDigits, 5, yX9_takeDigits.cls, (some FieldType.long), [], yX9_takeDigits.name, fun _ _ => True)
abbrev po_473_Signs_takeDigits (I : FieldType → ClassId) (q462 : Nat) (q463 : Nat) (q464 : Nat) (p465 : Int32) (p466 : Int32) (p467 : Int32) (p468 : Int32) (p469 : Int32) (p470 : Int32) (f471 : Nat → Int32) : Option Value → va_W → Prop := fun r w => ∃ (ol616 : Int64) (o615 : Int32), r = some (.long ol616) ∧ w = [(q462, .inr (14, [.ref q463, .int p466, .int p467, .int p468, .int o615])), (q463, .inr (15, [.ref q464, .int p470])), (q464, .inl (I .byte, 8192, .inl f471))] ∧ gB o615 (-2147483648) 2147483647
set_option maxRecDepth 100000 in
set_option maxHeartbeats 4000000 in
theorem ct_473_Signs_takeDigits (l : Launch) (hl0 : l.stackTraces = false) (D : va_G) (I : FieldType → ClassId) (q462 : Nat) (q463 : Nat) (q464 : Nat) (p465 : Int32) (p466 : Int32) (p467 : Int32) (p468 : Int32) (p469 : Int32) (p470 : Int32) (f471 : Nat → Int32) (bp470 : gB p470 0 8192) (bf471 : gF f471 (-128) 127) (x472 : (p466.toInt ≠ 5 ∨ (0 ≤ p467.toInt ∧ p467.toInt ≤ 13))) : Ct (gV D I) l yX9_takeDigits cX9_takeDigits 5 (some FieldType.long) 1 23 0 0 [.ref q462, .int p465] [(q462, .inr (14, [.ref q463, .int p466, .int p467, .int p468, .int p469])), (q463, .inr (15, [.ref q464, .int p470])), (q464, .inl (I .byte, 8192, .inl f471))] (po_473_Signs_takeDigits I q462 q463 q464 p465 p466 p467 p468 p469 p470 f471) gN := by
  refine Ct_of hl0 (by decide) (Nat.le_of_ble_eq_true rfl) ?_
  have bp465 := gB_any p465
  have bp466 := gB_any p466
  have bp467 := gB_any p467
  have bp468 := gB_any p468
  have bp469 := gB_any p469
  refine G_lconst 0 d_cX9_takeDigits_0 rfl ?_
  refine G_lstore_n (L' := [(2, .long 0), (0, .ref q462), (1, .int p465)]) d_cX9_takeDigits_1 (Nat.le_of_ble_eq_true rfl) rfl ?_
  refine G_iload_n 2 d_cX9_takeDigits_2 rfl ?_
  refine G_istore (L' := [(4, .int p465), (2, .long 0), (0, .ref q462), (1, .int p465)]) d_cX9_takeDigits_3 (Nat.le_of_ble_eq_true rfl) rfl ?_
  have hlp5_571 : ∀ (n5_571 : Nat) (g570 : Int32) (gl571 : Int64), gB g570 (-2147483648) 2147483647 → ((2147483648 : Int) - g570.toInt).toNat < n5_571 → G (gV D I) l (gRm 1 23 0 0) (gM (gV D I) (po_473_Signs_takeDigits I q462 q463 q464 p465 p466 p467 p468 p469 p470 f471) gN 0 0) ky_473_Signs_takeDigits 5 [(4, .int g570), (2, .long gl571), (0, .ref q462), (1, .int p465)] [] [(q462, .inr (14, [.ref q463, .int p466, .int p467, .int p468, .int p469])), (q463, .inr (15, [.ref q464, .int p470])), (q464, .inl (I .byte, 8192, .inl f471))] 0 0 := by
    intro n5_571
    induction n5_571 with
    | zero => intro g570 gl571 bg570 hm5_571; exact absurd hm5_571 (Nat.not_lt_zero _)
    | succ n5_571 ih5_571 =>
      intro g570 gl571 bg570 hm5_571
      refine G_iload 0 d_cX9_takeDigits_5 rfl ?_
      refine G_aload_n 2 d_cX9_takeDigits_7 rfl ?_
      refine G_getf 0 0 d_cX9_takeDigits_8 rfl (gk_X9 D I) (Nat.le_of_ble_eq_true rfl) w_1_79 rfl ?_
      refine G_callV (As := []) (wr := [(q462, .inr (14, [.ref q463, .int p466, .int p467, .int p468, .int p469]))]) (gV_ok D I) (ct_5_Tape_size l hl0 D I q463 q464 p470 f471 bp470 bf471) d_cX9_takeDigits_11 ⟨w_3_16, w_1_2, w_3_19, by decide, rfl, (Nat.le_of_ble_eq_true rfl), (Nat.le_of_ble_eq_true rfl)⟩ w_3_17 w_3_18 1 rfl rfl [1, 2] [0] rfl rfl rfl rfl (by decide) (Nat.le_of_ble_eq_true rfl) (Nat.le_of_ble_eq_true rfl) (Nat.le_of_ble_eq_true rfl) (fun r w hp => ?_) (fun _ _ _ z => z.elim)
      obtain ⟨rfl, rfl⟩ := hp
      change G _ _ _ _ _ _ _ (.int p470 :: _) _ _ _
      refine G_ws (ws' := [(q462, .inr (14, [.ref q463, .int p466, .int p467, .int p468, .int p469])), (q463, .inr (15, [.ref q464, .int p470])), (q464, .inl (I .byte, 8192, .inl f471))]) (cs' := 0) (sl' := 0) rfl rfl rfl ?_
      refine G_icmp_ge 65 d_cX9_takeDigits_14 (by decide +kernel) (fun hc572 => ?_) (fun hc572 => ?_)
      · have r573 : p470.toInt ≤ g570.toInt := gC_le hc572
        have bg570' : gB g570 0 2147483647 := ⟨by omega, by omega⟩
        refine G_aload_n 2 d_cX9_takeDigits_65 rfl ?_
        refine G_iload 0 d_cX9_takeDigits_66 rfl ?_
        refine G_putf (ws' := [(q462, .inr (14, [.ref q463, .int p466, .int p467, .int p468, .int g570])), (q463, .inr (15, [.ref q464, .int p470])), (q464, .inl (I .byte, 8192, .inl f471))]) 0 4 d_cX9_takeDigits_68 rfl (gk_X9 D I) (Nat.le_of_ble_eq_true rfl) w_1_83 rfl rfl rfl (Nat.le_of_ble_eq_true rfl) rfl ?_
        refine G_lload_n 1 d_cX9_takeDigits_71 rfl ?_
        exact G_lret d_cX9_takeDigits_72 rfl (Nat.le_of_ble_eq_true rfl) (Nat.le_of_ble_eq_true rfl) ⟨gl571, g570, rfl, rfl, (gB_w bg570' (by decide) (by decide))⟩
      · have r574 : g570.toInt < p470.toInt := gC_nle hc572
        have bg570' : gB g570 (-2147483648) 8191 := ⟨by omega, by omega⟩
        refine G_aload_n 2 d_cX9_takeDigits_17 rfl ?_
        refine G_getf 0 0 d_cX9_takeDigits_18 rfl (gk_X9 D I) (Nat.le_of_ble_eq_true rfl) w_1_79 rfl ?_
        refine G_iload 0 d_cX9_takeDigits_21 rfl ?_
        refine G_callV (As := [.int g570]) (wr := [(q462, .inr (14, [.ref q463, .int p466, .int p467, .int p468, .int p469]))]) (gV_ok D I) (ct_31_Tape_byteAt l hl0 D I q463 q464 g570 p470 f471 bp470 bf471) d_cX9_takeDigits_23 ⟨w_3_20, w_1_2, w_3_23, by decide, rfl, (Nat.le_of_ble_eq_true rfl), (Nat.le_of_ble_eq_true rfl)⟩ w_3_21 w_3_22 1 rfl rfl [1, 2] [0] rfl rfl rfl rfl (by decide) (Nat.le_of_ble_eq_true rfl) (Nat.le_of_ble_eq_true rfl) (Nat.le_of_ble_eq_true rfl) (fun r w hp => ?_) (fun _ _ _ z => z.elim)
        rcases hp with ⟨rfl, rfl, r575⟩ | ⟨rfl, rfl, r576, r577⟩ | ⟨z578, rfl, rfl, r579, r580, r581⟩
        · have bg570'' : gB g570 (-2147483648) (-1) := ⟨by omega, by omega⟩
          change G _ _ _ _ _ _ _ (.int (-1) :: _) _ _ _
          refine G_ws (ws' := [(q462, .inr (14, [.ref q463, .int p466, .int p467, .int p468, .int p469])), (q463, .inr (15, [.ref q464, .int p470])), (q464, .inl (I .byte, 8192, .inl f471))]) (cs' := 0) (sl' := 0) rfl rfl rfl ?_
          refine G_callS (As := [.int (-1)]) (wr := [(q462, .inr (14, [.ref q463, .int p466, .int p467, .int p468, .int p469])), (q463, .inr (15, [.ref q464, .int p470])), (q464, .inl (I .byte, 8192, .inl f471))]) (gV_ok D I) (ct_304_Signs_isDigit l hl0 D I (-1) ) d_cX9_takeDigits_26 ⟨w_3_24, w_1_4, w_3_26, by decide, rfl, (Nat.le_of_ble_eq_true rfl), (Nat.le_of_ble_eq_true rfl)⟩ w_3_25 [] [0, 1, 2] rfl rfl rfl rfl (by decide) (Nat.le_of_ble_eq_true rfl) (Nat.le_of_ble_eq_true rfl) (Nat.le_of_ble_eq_true rfl) (fun r w hp => ?_) (fun _ _ _ z => z.elim)
          rcases hp with ⟨rfl, rfl, r582⟩ | ⟨rfl, rfl, r583, r584⟩ | ⟨rfl, rfl, r585, r586⟩
          · rw [show Int32.toInt (-1) = (-1) from by decide] at r582
            change G _ _ _ _ _ _ _ (.int 0 :: _) _ _ _
            refine G_ws (ws' := [(q462, .inr (14, [.ref q463, .int p466, .int p467, .int p468, .int p469])), (q463, .inr (15, [.ref q464, .int p470])), (q464, .inl (I .byte, 8192, .inl f471))]) (cs' := 0) (sl' := 0) rfl rfl rfl ?_
            refine G_if_eq 65 d_cX9_takeDigits_29 (by decide +kernel) (fun _ => ?_) (fun hc => absurd hc (by decide))
            refine G_aload_n 2 d_cX9_takeDigits_65 rfl ?_
            refine G_iload 0 d_cX9_takeDigits_66 rfl ?_
            refine G_putf (ws' := [(q462, .inr (14, [.ref q463, .int p466, .int p467, .int p468, .int g570])), (q463, .inr (15, [.ref q464, .int p470])), (q464, .inl (I .byte, 8192, .inl f471))]) 0 4 d_cX9_takeDigits_68 rfl (gk_X9 D I) (Nat.le_of_ble_eq_true rfl) w_1_83 rfl rfl rfl (Nat.le_of_ble_eq_true rfl) rfl ?_
            refine G_lload_n 1 d_cX9_takeDigits_71 rfl ?_
            exact G_lret d_cX9_takeDigits_72 rfl (Nat.le_of_ble_eq_true rfl) (Nat.le_of_ble_eq_true rfl) ⟨gl571, g570, rfl, rfl, (gB_w bg570'' (by decide) (by decide))⟩
          · rw [show Int32.toInt (-1) = (-1) from by decide] at r583
            exact absurd (show False by omega) not_false
          · rw [show Int32.toInt (-1) = (-1) from by decide] at r585
            exact absurd (show False by omega) not_false
        · have bg570'' : gB g570 0 8191 := ⟨by omega, by omega⟩
          have bp470' : gB p470 0 8191 := ⟨by omega, by omega⟩
          change G _ _ _ _ _ _ _ (.int (-1) :: _) _ _ _
          refine G_ws (ws' := [(q462, .inr (14, [.ref q463, .int p466, .int p467, .int p468, .int p469])), (q463, .inr (15, [.ref q464, .int p470])), (q464, .inl (I .byte, 8192, .inl f471))]) (cs' := 0) (sl' := 0) rfl rfl rfl ?_
          refine G_callS (As := [.int (-1)]) (wr := [(q462, .inr (14, [.ref q463, .int p466, .int p467, .int p468, .int p469])), (q463, .inr (15, [.ref q464, .int p470])), (q464, .inl (I .byte, 8192, .inl f471))]) (gV_ok D I) (ct_304_Signs_isDigit l hl0 D I (-1) ) d_cX9_takeDigits_26 ⟨w_3_24, w_1_4, w_3_26, by decide, rfl, (Nat.le_of_ble_eq_true rfl), (Nat.le_of_ble_eq_true rfl)⟩ w_3_25 [] [0, 1, 2] rfl rfl rfl rfl (by decide) (Nat.le_of_ble_eq_true rfl) (Nat.le_of_ble_eq_true rfl) (Nat.le_of_ble_eq_true rfl) (fun r w hp => ?_) (fun _ _ _ z => z.elim)
          rcases hp with ⟨rfl, rfl, r587⟩ | ⟨rfl, rfl, r588, r589⟩ | ⟨rfl, rfl, r590, r591⟩
          · rw [show Int32.toInt (-1) = (-1) from by decide] at r587
            change G _ _ _ _ _ _ _ (.int 0 :: _) _ _ _
            refine G_ws (ws' := [(q462, .inr (14, [.ref q463, .int p466, .int p467, .int p468, .int p469])), (q463, .inr (15, [.ref q464, .int p470])), (q464, .inl (I .byte, 8192, .inl f471))]) (cs' := 0) (sl' := 0) rfl rfl rfl ?_
            refine G_if_eq 65 d_cX9_takeDigits_29 (by decide +kernel) (fun _ => ?_) (fun hc => absurd hc (by decide))
            refine G_aload_n 2 d_cX9_takeDigits_65 rfl ?_
            refine G_iload 0 d_cX9_takeDigits_66 rfl ?_
            refine G_putf (ws' := [(q462, .inr (14, [.ref q463, .int p466, .int p467, .int p468, .int g570])), (q463, .inr (15, [.ref q464, .int p470])), (q464, .inl (I .byte, 8192, .inl f471))]) 0 4 d_cX9_takeDigits_68 rfl (gk_X9 D I) (Nat.le_of_ble_eq_true rfl) w_1_83 rfl rfl rfl (Nat.le_of_ble_eq_true rfl) rfl ?_
            refine G_lload_n 1 d_cX9_takeDigits_71 rfl ?_
            exact G_lret d_cX9_takeDigits_72 rfl (Nat.le_of_ble_eq_true rfl) (Nat.le_of_ble_eq_true rfl) ⟨gl571, g570, rfl, rfl, (gB_w bg570'' (by decide) (by decide))⟩
          · rw [show Int32.toInt (-1) = (-1) from by decide] at r588
            exact absurd (show False by omega) not_false
          · rw [show Int32.toInt (-1) = (-1) from by decide] at r590
            exact absurd (show False by omega) not_false
        · have bg570'' : gB g570 0 8191 := ⟨by omega, by omega⟩
          have bp470' : gB p470 1 8192 := ⟨by omega, by omega⟩
          change G _ _ _ _ _ _ _ (.int z578 :: _) _ _ _
          refine G_ws (ws' := [(q462, .inr (14, [.ref q463, .int p466, .int p467, .int p468, .int p469])), (q463, .inr (15, [.ref q464, .int p470])), (q464, .inl (I .byte, 8192, .inl f471))]) (cs' := 0) (sl' := 0) rfl rfl rfl ?_
          refine G_callS (As := [.int z578]) (wr := [(q462, .inr (14, [.ref q463, .int p466, .int p467, .int p468, .int p469])), (q463, .inr (15, [.ref q464, .int p470])), (q464, .inl (I .byte, 8192, .inl f471))]) (gV_ok D I) (ct_304_Signs_isDigit l hl0 D I z578 ) d_cX9_takeDigits_26 ⟨w_3_24, w_1_4, w_3_26, by decide, rfl, (Nat.le_of_ble_eq_true rfl), (Nat.le_of_ble_eq_true rfl)⟩ w_3_25 [] [0, 1, 2] rfl rfl rfl rfl (by decide) (Nat.le_of_ble_eq_true rfl) (Nat.le_of_ble_eq_true rfl) (Nat.le_of_ble_eq_true rfl) (fun r w hp => ?_) (fun _ _ _ z => z.elim)
          rcases hp with ⟨rfl, rfl, r592⟩ | ⟨rfl, rfl, r593, r594⟩ | ⟨rfl, rfl, r595, r596⟩
          · have r581' : gB z578 0 47 := ⟨by omega, by omega⟩
            change G _ _ _ _ _ _ _ (.int 0 :: _) _ _ _
            refine G_ws (ws' := [(q462, .inr (14, [.ref q463, .int p466, .int p467, .int p468, .int p469])), (q463, .inr (15, [.ref q464, .int p470])), (q464, .inl (I .byte, 8192, .inl f471))]) (cs' := 0) (sl' := 0) rfl rfl rfl ?_
            refine G_if_eq 65 d_cX9_takeDigits_29 (by decide +kernel) (fun _ => ?_) (fun hc => absurd hc (by decide))
            refine G_aload_n 2 d_cX9_takeDigits_65 rfl ?_
            refine G_iload 0 d_cX9_takeDigits_66 rfl ?_
            refine G_putf (ws' := [(q462, .inr (14, [.ref q463, .int p466, .int p467, .int p468, .int g570])), (q463, .inr (15, [.ref q464, .int p470])), (q464, .inl (I .byte, 8192, .inl f471))]) 0 4 d_cX9_takeDigits_68 rfl (gk_X9 D I) (Nat.le_of_ble_eq_true rfl) w_1_83 rfl rfl rfl (Nat.le_of_ble_eq_true rfl) rfl ?_
            refine G_lload_n 1 d_cX9_takeDigits_71 rfl ?_
            exact G_lret d_cX9_takeDigits_72 rfl (Nat.le_of_ble_eq_true rfl) (Nat.le_of_ble_eq_true rfl) ⟨gl571, g570, rfl, rfl, (gB_w bg570'' (by decide) (by decide))⟩
          · have r581' : gB z578 48 255 := ⟨by omega, by omega⟩
            have r581'' : gB z578 58 255 := ⟨by omega, by omega⟩
            change G _ _ _ _ _ _ _ (.int 0 :: _) _ _ _
            refine G_ws (ws' := [(q462, .inr (14, [.ref q463, .int p466, .int p467, .int p468, .int p469])), (q463, .inr (15, [.ref q464, .int p470])), (q464, .inl (I .byte, 8192, .inl f471))]) (cs' := 0) (sl' := 0) rfl rfl rfl ?_
            refine G_if_eq 65 d_cX9_takeDigits_29 (by decide +kernel) (fun _ => ?_) (fun hc => absurd hc (by decide))
            refine G_aload_n 2 d_cX9_takeDigits_65 rfl ?_
            refine G_iload 0 d_cX9_takeDigits_66 rfl ?_
            refine G_putf (ws' := [(q462, .inr (14, [.ref q463, .int p466, .int p467, .int p468, .int g570])), (q463, .inr (15, [.ref q464, .int p470])), (q464, .inl (I .byte, 8192, .inl f471))]) 0 4 d_cX9_takeDigits_68 rfl (gk_X9 D I) (Nat.le_of_ble_eq_true rfl) w_1_83 rfl rfl rfl (Nat.le_of_ble_eq_true rfl) rfl ?_
            refine G_lload_n 1 d_cX9_takeDigits_71 rfl ?_
            exact G_lret d_cX9_takeDigits_72 rfl (Nat.le_of_ble_eq_true rfl) (Nat.le_of_ble_eq_true rfl) ⟨gl571, g570, rfl, rfl, (gB_w bg570'' (by decide) (by decide))⟩
          · have r581' : gB z578 48 255 := ⟨by omega, by omega⟩
            have r581'' : gB z578 48 57 := ⟨by omega, by omega⟩
            change G _ _ _ _ _ _ _ (.int 1 :: _) _ _ _
            refine G_ws (ws' := [(q462, .inr (14, [.ref q463, .int p466, .int p467, .int p468, .int p469])), (q463, .inr (15, [.ref q464, .int p470])), (q464, .inl (I .byte, 8192, .inl f471))]) (cs' := 0) (sl' := 0) rfl rfl rfl ?_
            refine G_if_eq 65 d_cX9_takeDigits_29 (by decide +kernel) (fun hc => absurd hc (by decide)) (fun _ => ?_)
            refine G_lload_n 1 d_cX9_takeDigits_32 rfl ?_
            refine G_ldc2 10 d_cX9_takeDigits_33 w_3_35 ?_
            refine G_lmul d_cX9_takeDigits_36 (G_namL fun u597 hu597 => ?_)
            refine G_aload_n 2 d_cX9_takeDigits_37 rfl ?_
            refine G_getf 0 0 d_cX9_takeDigits_38 rfl (gk_X9 D I) (Nat.le_of_ble_eq_true rfl) w_1_79 rfl ?_
            refine G_iload 0 d_cX9_takeDigits_41 rfl ?_
            refine G_callV (As := [.int g570]) (wr := [(q462, .inr (14, [.ref q463, .int p466, .int p467, .int p468, .int p469]))]) (gV_ok D I) (ct_31_Tape_byteAt l hl0 D I q463 q464 g570 p470 f471 (gB_w bp470' (by decide) (by decide)) bf471) d_cX9_takeDigits_43 ⟨w_3_20, w_1_2, w_3_23, by decide, rfl, (Nat.le_of_ble_eq_true rfl), (Nat.le_of_ble_eq_true rfl)⟩ w_3_21 w_3_22 1 rfl rfl [1, 2] [0] rfl rfl rfl rfl (by decide) (Nat.le_of_ble_eq_true rfl) (Nat.le_of_ble_eq_true rfl) (Nat.le_of_ble_eq_true rfl) (fun r w hp => ?_) (fun _ _ _ z => z.elim)
            rcases hp with ⟨rfl, rfl, r598⟩ | ⟨rfl, rfl, r599, r600⟩ | ⟨z601, rfl, rfl, r602, r603, r604⟩
            · exact absurd (show False by omega) not_false
            · have bp470'' : gB p470 1 8191 := ⟨by omega, by omega⟩
              have bg570''' : gB g570 1 8191 := ⟨by omega, by omega⟩
              change G _ _ _ _ _ _ _ (.int (-1) :: _) _ _ _
              refine G_ws (ws' := [(q462, .inr (14, [.ref q463, .int p466, .int p467, .int p468, .int p469])), (q463, .inr (15, [.ref q464, .int p470])), (q464, .inl (I .byte, 8192, .inl f471))]) (cs' := 0) (sl' := 0) rfl rfl rfl ?_
              refine G_i2l d_cX9_takeDigits_46 (G_namL fun u605 hu605 => ?_)
              refine G_ladd d_cX9_takeDigits_47 (G_namL fun u606 hu606 => ?_)
              refine G_ldc2 48 d_cX9_takeDigits_48 w_3_36 ?_
              refine G_lsub d_cX9_takeDigits_51 (G_namL fun u607 hu607 => ?_)
              refine G_ldc2 1099511627776 d_cX9_takeDigits_52 w_3_37 ?_
              refine G_callS (As := [.long u607, .long 1099511627776]) (wr := [(q462, .inr (14, [.ref q463, .int p466, .int p467, .int p468, .int p469])), (q463, .inr (15, [.ref q464, .int p470])), (q464, .inl (I .byte, 8192, .inl f471))]) (gV_ok D I) (ct_512_Math_min l hl0 D I u607 1099511627776 ) d_cX9_takeDigits_55 ⟨w_3_38, w_1_6, w_3_40, by decide, rfl, (Nat.le_of_ble_eq_true rfl), (Nat.le_of_ble_eq_true rfl)⟩ w_3_39 [] [0, 1, 2] rfl rfl rfl rfl (by decide) (Nat.le_of_ble_eq_true rfl) (Nat.le_of_ble_eq_true rfl) (Nat.le_of_ble_eq_true rfl) (fun r w hp => ?_) (fun _ _ _ z => z.elim)
              obtain ⟨ol608, rfl, rfl⟩ := hp
              change G _ _ _ _ _ _ _ (.long ol608 :: _) _ _ _
              refine G_ws (ws' := [(q462, .inr (14, [.ref q463, .int p466, .int p467, .int p468, .int p469])), (q463, .inr (15, [.ref q464, .int p470])), (q464, .inl (I .byte, 8192, .inl f471))]) (cs' := 0) (sl' := 0) rfl rfl rfl ?_
              refine G_lstore_n (L' := [(2, .long ol608), (4, .int g570), (0, .ref q462), (1, .int p465)]) d_cX9_takeDigits_58 (Nat.le_of_ble_eq_true rfl) rfl ?_
              obtain ⟨z609, hz609⟩ : ∃ z : Int32, z = g570 + Int32.ofInt 1 := ⟨_, rfl⟩
              have ez609 : z609.toInt = g570.toInt + 1 := gI_inc hz609 (by decide) bg570''' (by decide) (by decide)
              have bz609 : gB z609 2 8192 := ⟨by omega, by omega⟩
              refine G_iinc (L' := [(4, .int z609), (2, .long ol608), (0, .ref q462), (1, .int p465)]) z609 1 d_cX9_takeDigits_59 rfl hz609.symm (Nat.le_of_ble_eq_true rfl) rfl ?_
              refine G_goto 5 d_cX9_takeDigits_62 (by decide +kernel) ?_
              exact ih5_571 z609 ol608 (gB_w bz609 (by decide) (by decide)) (by omega)
            · change G _ _ _ _ _ _ _ (.int z601 :: _) _ _ _
              refine G_ws (ws' := [(q462, .inr (14, [.ref q463, .int p466, .int p467, .int p468, .int p469])), (q463, .inr (15, [.ref q464, .int p470])), (q464, .inl (I .byte, 8192, .inl f471))]) (cs' := 0) (sl' := 0) rfl rfl rfl ?_
              refine G_i2l d_cX9_takeDigits_46 (G_namL fun u610 hu610 => ?_)
              refine G_ladd d_cX9_takeDigits_47 (G_namL fun u611 hu611 => ?_)
              refine G_ldc2 48 d_cX9_takeDigits_48 w_3_36 ?_
              refine G_lsub d_cX9_takeDigits_51 (G_namL fun u612 hu612 => ?_)
              refine G_ldc2 1099511627776 d_cX9_takeDigits_52 w_3_37 ?_
              refine G_callS (As := [.long u612, .long 1099511627776]) (wr := [(q462, .inr (14, [.ref q463, .int p466, .int p467, .int p468, .int p469])), (q463, .inr (15, [.ref q464, .int p470])), (q464, .inl (I .byte, 8192, .inl f471))]) (gV_ok D I) (ct_512_Math_min l hl0 D I u612 1099511627776 ) d_cX9_takeDigits_55 ⟨w_3_38, w_1_6, w_3_40, by decide, rfl, (Nat.le_of_ble_eq_true rfl), (Nat.le_of_ble_eq_true rfl)⟩ w_3_39 [] [0, 1, 2] rfl rfl rfl rfl (by decide) (Nat.le_of_ble_eq_true rfl) (Nat.le_of_ble_eq_true rfl) (Nat.le_of_ble_eq_true rfl) (fun r w hp => ?_) (fun _ _ _ z => z.elim)
              obtain ⟨ol613, rfl, rfl⟩ := hp
              change G _ _ _ _ _ _ _ (.long ol613 :: _) _ _ _
              refine G_ws (ws' := [(q462, .inr (14, [.ref q463, .int p466, .int p467, .int p468, .int p469])), (q463, .inr (15, [.ref q464, .int p470])), (q464, .inl (I .byte, 8192, .inl f471))]) (cs' := 0) (sl' := 0) rfl rfl rfl ?_
              refine G_lstore_n (L' := [(2, .long ol613), (4, .int g570), (0, .ref q462), (1, .int p465)]) d_cX9_takeDigits_58 (Nat.le_of_ble_eq_true rfl) rfl ?_
              obtain ⟨z614, hz614⟩ : ∃ z : Int32, z = g570 + Int32.ofInt 1 := ⟨_, rfl⟩
              have ez614 : z614.toInt = g570.toInt + 1 := gI_inc hz614 (by decide) bg570'' (by decide) (by decide)
              have bz614 : gB z614 1 8192 := ⟨by omega, by omega⟩
              refine G_iinc (L' := [(4, .int z614), (2, .long ol613), (0, .ref q462), (1, .int p465)]) z614 1 d_cX9_takeDigits_59 rfl hz614.symm (Nat.le_of_ble_eq_true rfl) rfl ?_
              refine G_goto 5 d_cX9_takeDigits_62 (by decide +kernel) ?_
              exact ih5_571 z614 ol613 (gB_w bz614 (by decide) (by decide)) (by omega)
  exact hlp5_571 (((2147483648 : Int) - p465.toInt).toNat + 1) p465 0 bp465 (Nat.lt_succ_self _)
abbrev ky_628_Signs_takeNumber : gKey := (cX9_takeNumber, 6, yX9_takeNumber.cls, none, [], yX9_takeNumber.name, fun _ _ => True)
abbrev po_628_Signs_takeNumber (I : FieldType → ClassId) (q617 : Nat) (q618 : Nat) (q619 : Nat) (p620 : Int32) (p621 : Int32) (p622 : Int32) (p623 : Int32) (p624 : Int32) (p625 : Int32) (f626 : Nat → Int32) : Option Value → va_W → Prop := fun r w => ∃ (o650 : Int32) (o651 : Int32) (o652 : Int32), r = none ∧ w = [(q617, .inr (14, [.ref q618, .int o650, .int o651, .int p623, .int o652])), (q618, .inr (15, [.ref q619, .int p625])), (q619, .inl (I .byte, 8192, .inl f626))] ∧ gB o650 0 4 ∧ gB o651 (-2147483648) 2147483647 ∧ gB o652 (-2147483648) 2147483647 ∧ (o650.toInt ≠ 5 ∨ (0 ≤ o651.toInt ∧ o651.toInt ≤ 13))
set_option maxRecDepth 100000 in
set_option maxHeartbeats 4000000 in
theorem ct_628_Signs_takeNumber (l : Launch) (hl0 : l.stackTraces = false) (D : va_G) (I : FieldType → ClassId) (q617 : Nat) (q618 : Nat) (q619 : Nat) (p620 : Int32) (p621 : Int32) (p622 : Int32) (p623 : Int32) (p624 : Int32) (p625 : Int32) (f626 : Nat → Int32) (bp620 : gB p620 0 1) (bp625 : gB p625 0 8192) (bf626 : gF f626 (-128) 127) (x627 : (p621.toInt ≠ 5 ∨ (0 ≤ p622.toInt ∧ p622.toInt ≤ 13))) : Ct (gV D I) l yX9_takeNumber cX9_takeNumber 6 none 2 47 0 0 [.ref q617, .int p620] [(q617, .inr (14, [.ref q618, .int p621, .int p622, .int p623, .int p624])), (q618, .inr (15, [.ref q619, .int p625])), (q619, .inl (I .byte, 8192, .inl f626))] (po_628_Signs_takeNumber I q617 q618 q619 p620 p621 p622 p623 p624 p625 f626) gN := by
  refine Ct_of hl0 (by decide) (Nat.le_of_ble_eq_true rfl) ?_
  have bp621 := gB_any p621
  have bp622 := gB_any p622
  have bp623 := gB_any p623
  have bp624 := gB_any p624
  refine G_aload_n 0 d_cX9_takeNumber_0 rfl ?_
  refine G_iload_n 1 d_cX9_takeNumber_1 rfl ?_
  refine G_if_eq 14 d_cX9_takeNumber_2 (by decide +kernel) (fun hc629 => ?_) (fun hc629 => ?_)
  · have r630 : p620.toInt = 0 := gj_eq hc629 (show Int32.toInt 0 = 0 by decide)
    have bp620' : gB p620 0 0 := ⟨by omega, by omega⟩
    refine G_aload_n 0 d_cX9_takeNumber_14 rfl ?_
    refine G_getf 0 3 d_cX9_takeNumber_15 rfl (gk_X9 D I) (Nat.le_of_ble_eq_true rfl) w_1_82 rfl ?_
    refine G_callV (As := [.int p623]) (wr := []) (gV_ok D I) (ct_473_Signs_takeDigits l hl0 D I q617 q618 q619 p623 p621 p622 p623 p624 p625 f626 bp625 bf626 (by omega)) d_cX9_takeNumber_18 ⟨w_3_31, w_1_4, w_3_34, by decide, rfl, (Nat.le_of_ble_eq_true rfl), (Nat.le_of_ble_eq_true rfl)⟩ w_3_33 w_p_2 0 rfl rfl [0, 1, 2] [] rfl rfl rfl rfl (by decide) (Nat.le_of_ble_eq_true rfl) (Nat.le_of_ble_eq_true rfl) (Nat.le_of_ble_eq_true rfl) (fun r w hp => ?_) (fun _ _ _ z => z.elim)
    obtain ⟨ol631, o632, rfl, rfl, bo632⟩ := hp
    change G _ _ _ _ _ _ _ (.long ol631 :: _) _ _ _
    refine G_ws (ws' := [(q617, .inr (14, [.ref q618, .int p621, .int p622, .int p623, .int o632])), (q618, .inr (15, [.ref q619, .int p625])), (q619, .inl (I .byte, 8192, .inl f626))]) (cs' := 0) (sl' := 0) rfl rfl rfl ?_
    refine G_lstore_n (L' := [(2, .long ol631), (0, .ref q617), (1, .int p620)]) d_cX9_takeNumber_21 (Nat.le_of_ble_eq_true rfl) rfl ?_
    refine G_iload_n 2 d_cX9_takeNumber_22 rfl ?_
    refine G_if_eq 31 d_cX9_takeNumber_23 (by decide +kernel) (fun _ => ?_) (fun hc => absurd (show False by have := gj_neq hc (show Int32.toInt 0 = 0 by decide); omega) not_false)
    refine G_lload_n 0 d_cX9_takeNumber_31 rfl ?_
    refine G_lstore (L' := [(4, .long ol631), (2, .long ol631), (0, .ref q617), (1, .int p620)]) d_cX9_takeNumber_32 (Nat.le_of_ble_eq_true rfl) rfl ?_
    refine G_aload_n 2 d_cX9_takeNumber_34 rfl ?_
    refine G_lload 0 d_cX9_takeNumber_35 rfl ?_
    refine G_l2i d_cX9_takeNumber_37 (G_nam fun z633 hz633 => ?_)
    have bz633 : gB z633 (-2147483648) 2147483647 := gB_any z633
    refine G_putf (ws' := [(q617, .inr (14, [.ref q618, .int p621, .int z633, .int p623, .int o632])), (q618, .inr (15, [.ref q619, .int p625])), (q619, .inl (I .byte, 8192, .inl f626))]) 0 2 d_cX9_takeNumber_38 rfl (gk_X9 D I) (Nat.le_of_ble_eq_true rfl) w_1_81 rfl rfl rfl (Nat.le_of_ble_eq_true rfl) rfl ?_
    refine G_aload_n 2 d_cX9_takeNumber_41 rfl ?_
    refine G_aload_n 2 d_cX9_takeNumber_42 rfl ?_
    refine G_getf 0 2 d_cX9_takeNumber_43 rfl (gk_X9 D I) (Nat.le_of_ble_eq_true rfl) w_1_81 rfl ?_
    refine G_i2l d_cX9_takeNumber_46 (G_namL fun u634 hu634 => ?_)
    refine G_lload 0 d_cX9_takeNumber_47 rfl ?_
    refine G_lcmp d_cX9_takeNumber_49 (G_nam fun z635 hz635 => ?_)
    have bz635 : gB z635 (-1) 1 := gB_cmp hz635
    refine G_if_ne 57 d_cX9_takeNumber_50 (by decide +kernel) (fun hc636 => ?_) (fun hc636 => ?_)
    · have r637 : z635.toInt ≠ 0 := gj_neq hc636 (show Int32.toInt 0 = 0 by decide)
      have lhc636 := gC_cmpN hz635 hc636
      refine G_iconst 0 d_cX9_takeNumber_57 (by decide +kernel) ?_
      refine G_putf (ws' := [(q617, .inr (14, [.ref q618, .int 0, .int z633, .int p623, .int o632])), (q618, .inr (15, [.ref q619, .int p625])), (q619, .inl (I .byte, 8192, .inl f626))]) 0 1 d_cX9_takeNumber_58 rfl (gk_X9 D I) (Nat.le_of_ble_eq_true rfl) w_1_80 rfl rfl rfl (Nat.le_of_ble_eq_true rfl) rfl ?_
      exact G_vret d_cX9_takeNumber_61 rfl (Nat.le_of_ble_eq_true rfl) (Nat.le_of_ble_eq_true rfl) ⟨0, z633, o632, rfl, rfl, (gB_w (gBl (show Int32.toInt 0 = 0 by decide)) (by decide) (by decide)), bz633, bo632, (by have qa0 : Int32.toInt 0 = 0 := (by decide); omega)⟩
    · have r638 : z635.toInt = 0 := gj_eq hc636 (show Int32.toInt 0 = 0 by decide)
      have bz635' : gB z635 0 0 := ⟨by omega, by omega⟩
      have lhc636 := gC_cmpE hz635 hc636
      refine G_iconst 4 d_cX9_takeNumber_53 (by decide +kernel) ?_
      refine G_goto 58 d_cX9_takeNumber_54 (by decide +kernel) ?_
      refine G_putf (ws' := [(q617, .inr (14, [.ref q618, .int 4, .int z633, .int p623, .int o632])), (q618, .inr (15, [.ref q619, .int p625])), (q619, .inl (I .byte, 8192, .inl f626))]) 0 1 d_cX9_takeNumber_58 rfl (gk_X9 D I) (Nat.le_of_ble_eq_true rfl) w_1_80 rfl rfl rfl (Nat.le_of_ble_eq_true rfl) rfl ?_
      exact G_vret d_cX9_takeNumber_61 rfl (Nat.le_of_ble_eq_true rfl) (Nat.le_of_ble_eq_true rfl) ⟨4, z633, o632, rfl, rfl, (gB_w (gBl (show Int32.toInt 4 = 4 by decide)) (by decide) (by decide)), bz633, bo632, (by have qa0 : Int32.toInt 4 = 4 := (by decide); omega)⟩
  · have r639 : p620.toInt ≠ 0 := gj_neq hc629 (show Int32.toInt 0 = 0 by decide)
    have bp620' : gB p620 1 1 := ⟨by omega, by omega⟩
    refine G_aload_n 0 d_cX9_takeNumber_5 rfl ?_
    refine G_getf 0 3 d_cX9_takeNumber_6 rfl (gk_X9 D I) (Nat.le_of_ble_eq_true rfl) w_1_82 rfl ?_
    refine G_iconst 1 d_cX9_takeNumber_9 (by decide +kernel) ?_
    refine G_iadd d_cX9_takeNumber_10 (G_nam fun z640 hz640 => ?_)
    have bz640 : gB z640 (-2147483648) 2147483647 := gB_any z640
    refine G_goto 18 d_cX9_takeNumber_11 (by decide +kernel) ?_
    refine G_callV (As := [.int z640]) (wr := []) (gV_ok D I) (ct_473_Signs_takeDigits l hl0 D I q617 q618 q619 z640 p621 p622 p623 p624 p625 f626 bp625 bf626 (by omega)) d_cX9_takeNumber_18 ⟨w_3_31, w_1_4, w_3_34, by decide, rfl, (Nat.le_of_ble_eq_true rfl), (Nat.le_of_ble_eq_true rfl)⟩ w_3_33 w_p_2 0 rfl rfl [0, 1, 2] [] rfl rfl rfl rfl (by decide) (Nat.le_of_ble_eq_true rfl) (Nat.le_of_ble_eq_true rfl) (Nat.le_of_ble_eq_true rfl) (fun r w hp => ?_) (fun _ _ _ z => z.elim)
    obtain ⟨ol641, o642, rfl, rfl, bo642⟩ := hp
    change G _ _ _ _ _ _ _ (.long ol641 :: _) _ _ _
    refine G_ws (ws' := [(q617, .inr (14, [.ref q618, .int p621, .int p622, .int p623, .int o642])), (q618, .inr (15, [.ref q619, .int p625])), (q619, .inl (I .byte, 8192, .inl f626))]) (cs' := 0) (sl' := 0) rfl rfl rfl ?_
    refine G_lstore_n (L' := [(2, .long ol641), (0, .ref q617), (1, .int p620)]) d_cX9_takeNumber_21 (Nat.le_of_ble_eq_true rfl) rfl ?_
    refine G_iload_n 2 d_cX9_takeNumber_22 rfl ?_
    refine G_if_eq 31 d_cX9_takeNumber_23 (by decide +kernel) (fun hc => absurd (show False by have := gj_eq hc (show Int32.toInt 0 = 0 by decide); omega) not_false) (fun _ => ?_)
    refine G_lload_n 0 d_cX9_takeNumber_26 rfl ?_
    refine G_lneg d_cX9_takeNumber_27 (G_namL fun u643 hu643 => ?_)
    refine G_goto 32 d_cX9_takeNumber_28 (by decide +kernel) ?_
    refine G_lstore (L' := [(4, .long u643), (2, .long ol641), (0, .ref q617), (1, .int p620)]) d_cX9_takeNumber_32 (Nat.le_of_ble_eq_true rfl) rfl ?_
    refine G_aload_n 2 d_cX9_takeNumber_34 rfl ?_
    refine G_lload 0 d_cX9_takeNumber_35 rfl ?_
    refine G_l2i d_cX9_takeNumber_37 (G_nam fun z644 hz644 => ?_)
    have bz644 : gB z644 (-2147483648) 2147483647 := gB_any z644
    refine G_putf (ws' := [(q617, .inr (14, [.ref q618, .int p621, .int z644, .int p623, .int o642])), (q618, .inr (15, [.ref q619, .int p625])), (q619, .inl (I .byte, 8192, .inl f626))]) 0 2 d_cX9_takeNumber_38 rfl (gk_X9 D I) (Nat.le_of_ble_eq_true rfl) w_1_81 rfl rfl rfl (Nat.le_of_ble_eq_true rfl) rfl ?_
    refine G_aload_n 2 d_cX9_takeNumber_41 rfl ?_
    refine G_aload_n 2 d_cX9_takeNumber_42 rfl ?_
    refine G_getf 0 2 d_cX9_takeNumber_43 rfl (gk_X9 D I) (Nat.le_of_ble_eq_true rfl) w_1_81 rfl ?_
    refine G_i2l d_cX9_takeNumber_46 (G_namL fun u645 hu645 => ?_)
    refine G_lload 0 d_cX9_takeNumber_47 rfl ?_
    refine G_lcmp d_cX9_takeNumber_49 (G_nam fun z646 hz646 => ?_)
    have bz646 : gB z646 (-1) 1 := gB_cmp hz646
    refine G_if_ne 57 d_cX9_takeNumber_50 (by decide +kernel) (fun hc647 => ?_) (fun hc647 => ?_)
    · have r648 : z646.toInt ≠ 0 := gj_neq hc647 (show Int32.toInt 0 = 0 by decide)
      have lhc647 := gC_cmpN hz646 hc647
      refine G_iconst 0 d_cX9_takeNumber_57 (by decide +kernel) ?_
      refine G_putf (ws' := [(q617, .inr (14, [.ref q618, .int 0, .int z644, .int p623, .int o642])), (q618, .inr (15, [.ref q619, .int p625])), (q619, .inl (I .byte, 8192, .inl f626))]) 0 1 d_cX9_takeNumber_58 rfl (gk_X9 D I) (Nat.le_of_ble_eq_true rfl) w_1_80 rfl rfl rfl (Nat.le_of_ble_eq_true rfl) rfl ?_
      exact G_vret d_cX9_takeNumber_61 rfl (Nat.le_of_ble_eq_true rfl) (Nat.le_of_ble_eq_true rfl) ⟨0, z644, o642, rfl, rfl, (gB_w (gBl (show Int32.toInt 0 = 0 by decide)) (by decide) (by decide)), bz644, bo642, (by have qa0 : Int32.toInt 0 = 0 := (by decide); omega)⟩
    · have r649 : z646.toInt = 0 := gj_eq hc647 (show Int32.toInt 0 = 0 by decide)
      have bz646' : gB z646 0 0 := ⟨by omega, by omega⟩
      have lhc647 := gC_cmpE hz646 hc647
      refine G_iconst 4 d_cX9_takeNumber_53 (by decide +kernel) ?_
      refine G_goto 58 d_cX9_takeNumber_54 (by decide +kernel) ?_
      refine G_putf (ws' := [(q617, .inr (14, [.ref q618, .int 4, .int z644, .int p623, .int o642])), (q618, .inr (15, [.ref q619, .int p625])), (q619, .inl (I .byte, 8192, .inl f626))]) 0 1 d_cX9_takeNumber_58 rfl (gk_X9 D I) (Nat.le_of_ble_eq_true rfl) w_1_80 rfl rfl rfl (Nat.le_of_ble_eq_true rfl) rfl ?_
      exact G_vret d_cX9_takeNumber_61 rfl (Nat.le_of_ble_eq_true rfl) (Nat.le_of_ble_eq_true rfl) ⟨4, z644, o642, rfl, rfl, (gB_w (gBl (show Int32.toInt 4 = 4 by decide)) (by decide) (by decide)), bz644, bo642, (by have qa0 : Int32.toInt 4 = 4 := (by decide); omega)⟩
abbrev ky_665_Signs_takeNamed : gKey := (cX9_takeNamed, 5, yX9_takeNamed.cls, none, [], yX9_takeNamed.name, fun _ _ => True)
abbrev po_665_Signs_takeNamed (I : FieldType → ClassId) (q653 : Nat) (q654 : Nat) (q655 : Nat) (p656 : Int32) (p657 : Int32) (p658 : Int32) (p659 : Int32) (p660 : Int32) (p661 : Int32) (p662 : Int32) (f663 : Nat → Int32) : Option Value → va_W → Prop := fun r w => ∃ (o675 : Int32) (o676 : Int32) (o677 : Int32), r = none ∧ w = [(q653, .inr (14, [.ref q654, .int o675, .int o676, .int p660, .int o677])), (q654, .inr (15, [.ref q655, .int p662])), (q655, .inl (I .byte, 8192, .inl f663))] ∧ gB o675 0 3 ∧ gB o676 (-2147483648) 2147483647 ∧ gB o677 (-2147483648) 2147483647 ∧ (o675.toInt ≠ 5 ∨ (0 ≤ o676.toInt ∧ o676.toInt ≤ 13))
set_option maxRecDepth 100000 in
set_option maxHeartbeats 4000000 in
theorem ct_665_Signs_takeNamed (l : Launch) (hl0 : l.stackTraces = false) (D : va_G) (I : FieldType → ClassId) (q653 : Nat) (q654 : Nat) (q655 : Nat) (p656 : Int32) (p657 : Int32) (p658 : Int32) (p659 : Int32) (p660 : Int32) (p661 : Int32) (p662 : Int32) (f663 : Nat → Int32) (bp656 : gB p656 2 3) (bp662 : gB p662 0 8192) (bf663 : gF f663 (-128) 127) (x664 : (p658.toInt ≠ 5 ∨ (0 ≤ p659.toInt ∧ p659.toInt ≤ 13))) : Ct (gV D I) l yX9_takeNamed cX9_takeNamed 5 none 2 47 0 0 [.ref q653, .int p656, .int p657] [(q653, .inr (14, [.ref q654, .int p658, .int p659, .int p660, .int p661])), (q654, .inr (15, [.ref q655, .int p662])), (q655, .inl (I .byte, 8192, .inl f663))] (po_665_Signs_takeNamed I q653 q654 q655 p656 p657 p658 p659 p660 p661 p662 f663) gN := by
  refine Ct_of hl0 (by decide) (Nat.le_of_ble_eq_true rfl) ?_
  have bp657 := gB_any p657
  have bp658 := gB_any p658
  have bp659 := gB_any p659
  have bp660 := gB_any p660
  have bp661 := gB_any p661
  refine G_aload_n 0 d_cX9_takeNamed_0 rfl ?_
  refine G_aload_n 0 d_cX9_takeNamed_1 rfl ?_
  refine G_getf 0 3 d_cX9_takeNamed_2 rfl (gk_X9 D I) (Nat.le_of_ble_eq_true rfl) w_1_82 rfl ?_
  refine G_iconst 1 d_cX9_takeNamed_5 (by decide +kernel) ?_
  refine G_iadd d_cX9_takeNamed_6 (G_nam fun z666 hz666 => ?_)
  have bz666 : gB z666 (-2147483648) 2147483647 := gB_any z666
  refine G_callV (As := [.int z666]) (wr := []) (gV_ok D I) (ct_473_Signs_takeDigits l hl0 D I q653 q654 q655 z666 p658 p659 p660 p661 p662 f663 bp662 bf663 (by omega)) d_cX9_takeNamed_7 ⟨w_3_31, w_1_4, w_3_34, by decide, rfl, (Nat.le_of_ble_eq_true rfl), (Nat.le_of_ble_eq_true rfl)⟩ w_3_33 w_p_2 0 rfl rfl [0, 1, 2] [] rfl rfl rfl rfl (by decide) (Nat.le_of_ble_eq_true rfl) (Nat.le_of_ble_eq_true rfl) (Nat.le_of_ble_eq_true rfl) (fun r w hp => ?_) (fun _ _ _ z => z.elim)
  obtain ⟨ol667, o668, rfl, rfl, bo668⟩ := hp
  change G _ _ _ _ _ _ _ (.long ol667 :: _) _ _ _
  refine G_ws (ws' := [(q653, .inr (14, [.ref q654, .int p658, .int p659, .int p660, .int o668])), (q654, .inr (15, [.ref q655, .int p662])), (q655, .inl (I .byte, 8192, .inl f663))]) (cs' := 0) (sl' := 0) rfl rfl rfl ?_
  refine G_lstore_n (L' := [(3, .long ol667), (0, .ref q653), (1, .int p656), (2, .int p657)]) d_cX9_takeNamed_10 (Nat.le_of_ble_eq_true rfl) rfl ?_
  refine G_aload_n 1 d_cX9_takeNamed_11 rfl ?_
  refine G_lload_n 0 d_cX9_takeNamed_12 rfl ?_
  refine G_l2i d_cX9_takeNamed_13 (G_nam fun z669 hz669 => ?_)
  have bz669 : gB z669 (-2147483648) 2147483647 := gB_any z669
  refine G_putf (ws' := [(q653, .inr (14, [.ref q654, .int p658, .int z669, .int p660, .int o668])), (q654, .inr (15, [.ref q655, .int p662])), (q655, .inl (I .byte, 8192, .inl f663))]) 0 2 d_cX9_takeNamed_14 rfl (gk_X9 D I) (Nat.le_of_ble_eq_true rfl) w_1_81 rfl rfl rfl (Nat.le_of_ble_eq_true rfl) rfl ?_
  refine G_aload_n 1 d_cX9_takeNamed_17 rfl ?_
  refine G_lload_n 0 d_cX9_takeNamed_18 rfl ?_
  refine G_iload_n 3 d_cX9_takeNamed_19 rfl ?_
  refine G_i2l d_cX9_takeNamed_20 (G_namL fun u670 hu670 => ?_)
  refine G_lcmp d_cX9_takeNamed_21 (G_nam fun z671 hz671 => ?_)
  have bz671 : gB z671 (-1) 1 := gB_cmp hz671
  refine G_if_ge 29 d_cX9_takeNamed_22 (by decide +kernel) (fun hc672 => ?_) (fun hc672 => ?_)
  · have r673 : 0 ≤ z671.toInt := gj_leL hc672 (show Int32.toInt 0 = 0 by decide)
    have bz671' : gB z671 0 1 := ⟨by omega, by omega⟩
    refine G_iconst 0 d_cX9_takeNamed_29 (by decide +kernel) ?_
    refine G_putf (ws' := [(q653, .inr (14, [.ref q654, .int 0, .int z669, .int p660, .int o668])), (q654, .inr (15, [.ref q655, .int p662])), (q655, .inl (I .byte, 8192, .inl f663))]) 0 1 d_cX9_takeNamed_30 rfl (gk_X9 D I) (Nat.le_of_ble_eq_true rfl) w_1_80 rfl rfl rfl (Nat.le_of_ble_eq_true rfl) rfl ?_
    exact G_vret d_cX9_takeNamed_33 rfl (Nat.le_of_ble_eq_true rfl) (Nat.le_of_ble_eq_true rfl) ⟨0, z669, o668, rfl, rfl, (gB_w (gBl (show Int32.toInt 0 = 0 by decide)) (by decide) (by decide)), bz669, bo668, (by have qa0 : Int32.toInt 0 = 0 := (by decide); omega)⟩
  · have r674 : z671.toInt < 0 := gj_nleL hc672 (show Int32.toInt 0 = 0 by decide)
    have bz671' : gB z671 (-1) (-1) := ⟨by omega, by omega⟩
    have lhc672 := gC_cmpS hz671 (by omega)
    refine G_iload_n 2 d_cX9_takeNamed_25 rfl ?_
    refine G_goto 30 d_cX9_takeNamed_26 (by decide +kernel) ?_
    refine G_putf (ws' := [(q653, .inr (14, [.ref q654, .int p656, .int z669, .int p660, .int o668])), (q654, .inr (15, [.ref q655, .int p662])), (q655, .inl (I .byte, 8192, .inl f663))]) 0 1 d_cX9_takeNamed_30 rfl (gk_X9 D I) (Nat.le_of_ble_eq_true rfl) w_1_80 rfl rfl rfl (Nat.le_of_ble_eq_true rfl) rfl ?_
    exact G_vret d_cX9_takeNamed_33 rfl (Nat.le_of_ble_eq_true rfl) (Nat.le_of_ble_eq_true rfl) ⟨p656, z669, o668, rfl, rfl, (gB_w bp656 (by decide) (by decide)), bz669, bo668, (by omega)⟩
