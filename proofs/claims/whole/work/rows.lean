section
-- ===== PART A: goes FIRST, ahead of the names: the tables' words, and 'selects' of the private methods out of them =====
/-- a private method of a class that the tables say can be made, by its rows of tables_1 -/
def lw_okq (q : MethodName × Nat) : Prop := (q.1.cls ≠ "java/lang/invoke/MethodHandle" ∧ q.1.cls ≠ "java/lang/invoke/VarHandle") ∧ Cond.instantiable q.1.cls q.2 ∈ tables_1 ∧ Cond.privateMethod q.1 ∈ tables_1 ∧ Cond.instanceMethod q.1 ∈ tables_1
theorem lw_p0 : lw_okq (⟨"SpillForge$Signs", "skipBlanks", "(I)I"⟩, 5) := ⟨⟨by decide +kernel, by decide +kernel⟩, List.mem_of_getElem? (i := 74) (by decide +kernel), List.mem_of_getElem? (i := 493) (by decide +kernel), List.mem_of_getElem? (i := 494) (by decide +kernel)⟩
theorem lw_p1 : lw_okq (⟨"SpillForge$Signs", "takeNumber", "(Z)V"⟩, 5) := ⟨⟨by decide +kernel, by decide +kernel⟩, List.mem_of_getElem? (i := 74) (by decide +kernel), List.mem_of_getElem? (i := 508) (by decide +kernel), List.mem_of_getElem? (i := 509) (by decide +kernel)⟩
theorem lw_p2 : lw_okq (⟨"SpillForge$Signs", "takeDigits", "(I)J"⟩, 5) := ⟨⟨by decide +kernel, by decide +kernel⟩, List.mem_of_getElem? (i := 74) (by decide +kernel), List.mem_of_getElem? (i := 512) (by decide +kernel), List.mem_of_getElem? (i := 513) (by decide +kernel)⟩
theorem lw_p3 : lw_okq (⟨"SpillForge$Signs", "takeNamed", "(II)V"⟩, 5) := ⟨⟨by decide +kernel, by decide +kernel⟩, List.mem_of_getElem? (i := 74) (by decide +kernel), List.mem_of_getElem? (i := 522) (by decide +kernel), List.mem_of_getElem? (i := 523) (by decide +kernel)⟩
theorem lw_p4 : lw_okq (⟨"SpillForge$Signs", "takeWord", "()V"⟩, 5) := ⟨⟨by decide +kernel, by decide +kernel⟩, List.mem_of_getElem? (i := 74) (by decide +kernel), List.mem_of_getElem? (i := 529) (by decide +kernel), List.mem_of_getElem? (i := 530) (by decide +kernel)⟩
theorem lw_p5 : lw_okq (⟨"SpillForge$Signs", "isWord", "(Ljava/lang/String;)Z"⟩, 5) := ⟨⟨by decide +kernel, by decide +kernel⟩, List.mem_of_getElem? (i := 74) (by decide +kernel), List.mem_of_getElem? (i := 534) (by decide +kernel), List.mem_of_getElem? (i := 535) (by decide +kernel)⟩
theorem lw_p6 : lw_okq (⟨"SpillForge$Signs", "takeMark", "(II)V"⟩, 5) := ⟨⟨by decide +kernel, by decide +kernel⟩, List.mem_of_getElem? (i := 74) (by decide +kernel), List.mem_of_getElem? (i := 590) (by decide +kernel), List.mem_of_getElem? (i := 591) (by decide +kernel)⟩
theorem lw_p7 : lw_okq (⟨"SpillForge$Reader", "accept", "(LSpillForge$Code;)Z"⟩, 12) := ⟨⟨by decide +kernel, by decide +kernel⟩, List.mem_of_getElem? (i := 68) (by decide +kernel), List.mem_of_getElem? (i := 602) (by decide +kernel), List.mem_of_getElem? (i := 603) (by decide +kernel)⟩
theorem lw_p8 : lw_okq (⟨"SpillForge$Reader", "acceptLabel", "(LSpillForge$Code;)Z"⟩, 12) := ⟨⟨by decide +kernel, by decide +kernel⟩, List.mem_of_getElem? (i := 68) (by decide +kernel), List.mem_of_getElem? (i := 606) (by decide +kernel), List.mem_of_getElem? (i := 607) (by decide +kernel)⟩
theorem lw_p9 : lw_okq (⟨"SpillForge$Reader", "isBroken", "()Z"⟩, 12) := ⟨⟨by decide +kernel, by decide +kernel⟩, List.mem_of_getElem? (i := 68) (by decide +kernel), List.mem_of_getElem? (i := 614) (by decide +kernel), List.mem_of_getElem? (i := 615) (by decide +kernel)⟩
theorem lw_p10 : lw_okq (⟨"SpillForge$Reader", "breakRule", "(I)V"⟩, 12) := ⟨⟨by decide +kernel, by decide +kernel⟩, List.mem_of_getElem? (i := 68) (by decide +kernel), List.mem_of_getElem? (i := 622) (by decide +kernel), List.mem_of_getElem? (i := 623) (by decide +kernel)⟩
theorem lw_p11 : lw_okq (⟨"SpillForge$Reader", "acceptMark", "(II)Z"⟩, 12) := ⟨⟨by decide +kernel, by decide +kernel⟩, List.mem_of_getElem? (i := 68) (by decide +kernel), List.mem_of_getElem? (i := 630) (by decide +kernel), List.mem_of_getElem? (i := 631) (by decide +kernel)⟩
theorem lw_p12 : lw_okq (⟨"SpillForge$Reader", "acceptLine", "(LSpillForge$Code;)Z"⟩, 12) := ⟨⟨by decide +kernel, by decide +kernel⟩, List.mem_of_getElem? (i := 68) (by decide +kernel), List.mem_of_getElem? (i := 634) (by decide +kernel), List.mem_of_getElem? (i := 635) (by decide +kernel)⟩
theorem lw_p13 : lw_okq (⟨"SpillForge$Reader", "beginRow", "()V"⟩, 12) := ⟨⟨by decide +kernel, by decide +kernel⟩, List.mem_of_getElem? (i := 68) (by decide +kernel), List.mem_of_getElem? (i := 638) (by decide +kernel), List.mem_of_getElem? (i := 639) (by decide +kernel)⟩
theorem lw_p14 : lw_okq (⟨"SpillForge$Reader", "beginLine", "(II)Z"⟩, 12) := ⟨⟨by decide +kernel, by decide +kernel⟩, List.mem_of_getElem? (i := 68) (by decide +kernel), List.mem_of_getElem? (i := 642) (by decide +kernel), List.mem_of_getElem? (i := 643) (by decide +kernel)⟩
theorem lw_p15 : lw_okq (⟨"SpillForge$Reader", "keep", "(LSpillForge$Code;III)V"⟩, 12) := ⟨⟨by decide +kernel, by decide +kernel⟩, List.mem_of_getElem? (i := 68) (by decide +kernel), List.mem_of_getElem? (i := 646) (by decide +kernel), List.mem_of_getElem? (i := 647) (by decide +kernel)⟩
def lw_privs_1 : List (MethodName × Nat) := [(⟨"SpillForge$Signs", "skipBlanks", "(I)I"⟩, 5), (⟨"SpillForge$Signs", "takeNumber", "(Z)V"⟩, 5), (⟨"SpillForge$Signs", "takeDigits", "(I)J"⟩, 5), (⟨"SpillForge$Signs", "takeNamed", "(II)V"⟩, 5), (⟨"SpillForge$Signs", "takeWord", "()V"⟩, 5), (⟨"SpillForge$Signs", "isWord", "(Ljava/lang/String;)Z"⟩, 5), (⟨"SpillForge$Signs", "takeMark", "(II)V"⟩, 5), (⟨"SpillForge$Reader", "accept", "(LSpillForge$Code;)Z"⟩, 12), (⟨"SpillForge$Reader", "acceptLabel", "(LSpillForge$Code;)Z"⟩, 12), (⟨"SpillForge$Reader", "isBroken", "()Z"⟩, 12), (⟨"SpillForge$Reader", "breakRule", "(I)V"⟩, 12), (⟨"SpillForge$Reader", "acceptMark", "(II)Z"⟩, 12), (⟨"SpillForge$Reader", "acceptLine", "(LSpillForge$Code;)Z"⟩, 12), (⟨"SpillForge$Reader", "beginRow", "()V"⟩, 12), (⟨"SpillForge$Reader", "beginLine", "(II)Z"⟩, 12), (⟨"SpillForge$Reader", "keep", "(LSpillForge$Code;III)V"⟩, 12)]
theorem lw_r1 : ∀ q ∈ lw_privs_1, lw_okq q := List.forall_mem_cons.mpr ⟨lw_p0, List.forall_mem_cons.mpr ⟨lw_p1, List.forall_mem_cons.mpr ⟨lw_p2, List.forall_mem_cons.mpr ⟨lw_p3, List.forall_mem_cons.mpr ⟨lw_p4, List.forall_mem_cons.mpr ⟨lw_p5, List.forall_mem_cons.mpr ⟨lw_p6, List.forall_mem_cons.mpr ⟨lw_p7, List.forall_mem_cons.mpr ⟨lw_p8, List.forall_mem_cons.mpr ⟨lw_p9, List.forall_mem_cons.mpr ⟨lw_p10, List.forall_mem_cons.mpr ⟨lw_p11, List.forall_mem_cons.mpr ⟨lw_p12, List.forall_mem_cons.mpr ⟨lw_p13, List.forall_mem_cons.mpr ⟨lw_p14, List.forall_mem_cons.mpr ⟨lw_p15, fun _ h => absurd h List.not_mem_nil⟩⟩⟩⟩⟩⟩⟩⟩⟩⟩⟩⟩⟩⟩⟩⟩
theorem lw_p16 : lw_okq (⟨"SpillForge$Reader", "acceptSource", "(LSpillForge$Code;)Z"⟩, 12) := ⟨⟨by decide +kernel, by decide +kernel⟩, List.mem_of_getElem? (i := 68) (by decide +kernel), List.mem_of_getElem? (i := 654) (by decide +kernel), List.mem_of_getElem? (i := 655) (by decide +kernel)⟩
theorem lw_p17 : lw_okq (⟨"SpillForge$Reader", "takeLeft", "()V"⟩, 12) := ⟨⟨by decide +kernel, by decide +kernel⟩, List.mem_of_getElem? (i := 68) (by decide +kernel), List.mem_of_getElem? (i := 658) (by decide +kernel), List.mem_of_getElem? (i := 659) (by decide +kernel)⟩
theorem lw_p18 : lw_okq (⟨"SpillForge$Reader", "registerOrNone", "()I"⟩, 12) := ⟨⟨by decide +kernel, by decide +kernel⟩, List.mem_of_getElem? (i := 68) (by decide +kernel), List.mem_of_getElem? (i := 662) (by decide +kernel), List.mem_of_getElem? (i := 663) (by decide +kernel)⟩
theorem lw_p19 : lw_okq (⟨"SpillForge$Reader", "numberOrZero", "()I"⟩, 12) := ⟨⟨by decide +kernel, by decide +kernel⟩, List.mem_of_getElem? (i := 68) (by decide +kernel), List.mem_of_getElem? (i := 666) (by decide +kernel), List.mem_of_getElem? (i := 667) (by decide +kernel)⟩
theorem lw_p20 : lw_okq (⟨"SpillForge$Reader", "isOperand", "()Z"⟩, 12) := ⟨⟨by decide +kernel, by decide +kernel⟩, List.mem_of_getElem? (i := 68) (by decide +kernel), List.mem_of_getElem? (i := 670) (by decide +kernel), List.mem_of_getElem? (i := 671) (by decide +kernel)⟩
theorem lw_p21 : lw_okq (⟨"SpillForge$Reader", "acceptOpOrLine", "(LSpillForge$Code;)Z"⟩, 12) := ⟨⟨by decide +kernel, by decide +kernel⟩, List.mem_of_getElem? (i := 68) (by decide +kernel), List.mem_of_getElem? (i := 674) (by decide +kernel), List.mem_of_getElem? (i := 675) (by decide +kernel)⟩
theorem lw_p22 : lw_okq (⟨"SpillForge$Reader", "acceptRight", "(LSpillForge$Code;)Z"⟩, 12) := ⟨⟨by decide +kernel, by decide +kernel⟩, List.mem_of_getElem? (i := 68) (by decide +kernel), List.mem_of_getElem? (i := 678) (by decide +kernel), List.mem_of_getElem? (i := 679) (by decide +kernel)⟩
theorem lw_p23 : lw_okq (⟨"SpillForge$Reader", "acceptOnly", "(LSpillForge$Code;II)Z"⟩, 12) := ⟨⟨by decide +kernel, by decide +kernel⟩, List.mem_of_getElem? (i := 68) (by decide +kernel), List.mem_of_getElem? (i := 682) (by decide +kernel), List.mem_of_getElem? (i := 683) (by decide +kernel)⟩
theorem lw_p24 : lw_okq (⟨"SpillForge$Reader", "acceptGoal", "(LSpillForge$Code;I)Z"⟩, 12) := ⟨⟨by decide +kernel, by decide +kernel⟩, List.mem_of_getElem? (i := 68) (by decide +kernel), List.mem_of_getElem? (i := 686) (by decide +kernel), List.mem_of_getElem? (i := 687) (by decide +kernel)⟩
theorem lw_p25 : lw_okq (⟨"SpillForge$Reader", "checkGoals", "(LSpillForge$Code;)V"⟩, 12) := ⟨⟨by decide +kernel, by decide +kernel⟩, List.mem_of_getElem? (i := 68) (by decide +kernel), List.mem_of_getElem? (i := 695) (by decide +kernel), List.mem_of_getElem? (i := 696) (by decide +kernel)⟩
theorem lw_p26 : lw_okq (⟨"SpillForge$Loops", "link", "(II)V"⟩, 3) := ⟨⟨by decide +kernel, by decide +kernel⟩, List.mem_of_getElem? (i := 228) (by decide +kernel), List.mem_of_getElem? (i := 721) (by decide +kernel), List.mem_of_getElem? (i := 722) (by decide +kernel)⟩
theorem lw_p27 : lw_okq (⟨"SpillForge$Loops", "loopOf", "(IJ)J"⟩, 3) := ⟨⟨by decide +kernel, by decide +kernel⟩, List.mem_of_getElem? (i := 228) (by decide +kernel), List.mem_of_getElem? (i := 729) (by decide +kernel), List.mem_of_getElem? (i := 730) (by decide +kernel)⟩
theorem lw_p28 : lw_okq (⟨"SpillForge$Loops", "deepen", "(J)V"⟩, 3) := ⟨⟨by decide +kernel, by decide +kernel⟩, List.mem_of_getElem? (i := 228) (by decide +kernel), List.mem_of_getElem? (i := 733) (by decide +kernel), List.mem_of_getElem? (i := 734) (by decide +kernel)⟩
theorem lw_p29 : lw_okq (⟨"SpillForge$Giver", "begin", "(LSpillForge$Code;)V"⟩, 16) := ⟨⟨by decide +kernel, by decide +kernel⟩, List.mem_of_getElem? (i := 245) (by decide +kernel), List.mem_of_getElem? (i := 741) (by decide +kernel), List.mem_of_getElem? (i := 742) (by decide +kernel)⟩
theorem lw_p30 : lw_okq (⟨"SpillForge$Live", "gather", "(LSpillForge$Code;I)V"⟩, 7) := ⟨⟨by decide +kernel, by decide +kernel⟩, List.mem_of_getElem? (i := 257) (by decide +kernel), List.mem_of_getElem? (i := 752) (by decide +kernel), List.mem_of_getElem? (i := 753) (by decide +kernel)⟩
theorem lw_p31 : lw_okq (⟨"SpillForge$Live", "gatherUse", "(II)V"⟩, 7) := ⟨⟨by decide +kernel, by decide +kernel⟩, List.mem_of_getElem? (i := 257) (by decide +kernel), List.mem_of_getElem? (i := 764) (by decide +kernel), List.mem_of_getElem? (i := 765) (by decide +kernel)⟩
def lw_privs_2 : List (MethodName × Nat) := [(⟨"SpillForge$Reader", "acceptSource", "(LSpillForge$Code;)Z"⟩, 12), (⟨"SpillForge$Reader", "takeLeft", "()V"⟩, 12), (⟨"SpillForge$Reader", "registerOrNone", "()I"⟩, 12), (⟨"SpillForge$Reader", "numberOrZero", "()I"⟩, 12), (⟨"SpillForge$Reader", "isOperand", "()Z"⟩, 12), (⟨"SpillForge$Reader", "acceptOpOrLine", "(LSpillForge$Code;)Z"⟩, 12), (⟨"SpillForge$Reader", "acceptRight", "(LSpillForge$Code;)Z"⟩, 12), (⟨"SpillForge$Reader", "acceptOnly", "(LSpillForge$Code;II)Z"⟩, 12), (⟨"SpillForge$Reader", "acceptGoal", "(LSpillForge$Code;I)Z"⟩, 12), (⟨"SpillForge$Reader", "checkGoals", "(LSpillForge$Code;)V"⟩, 12), (⟨"SpillForge$Loops", "link", "(II)V"⟩, 3), (⟨"SpillForge$Loops", "loopOf", "(IJ)J"⟩, 3), (⟨"SpillForge$Loops", "deepen", "(J)V"⟩, 3), (⟨"SpillForge$Giver", "begin", "(LSpillForge$Code;)V"⟩, 16), (⟨"SpillForge$Live", "gather", "(LSpillForge$Code;I)V"⟩, 7), (⟨"SpillForge$Live", "gatherUse", "(II)V"⟩, 7)]
theorem lw_r2 : ∀ q ∈ lw_privs_2, lw_okq q := List.forall_mem_cons.mpr ⟨lw_p16, List.forall_mem_cons.mpr ⟨lw_p17, List.forall_mem_cons.mpr ⟨lw_p18, List.forall_mem_cons.mpr ⟨lw_p19, List.forall_mem_cons.mpr ⟨lw_p20, List.forall_mem_cons.mpr ⟨lw_p21, List.forall_mem_cons.mpr ⟨lw_p22, List.forall_mem_cons.mpr ⟨lw_p23, List.forall_mem_cons.mpr ⟨lw_p24, List.forall_mem_cons.mpr ⟨lw_p25, List.forall_mem_cons.mpr ⟨lw_p26, List.forall_mem_cons.mpr ⟨lw_p27, List.forall_mem_cons.mpr ⟨lw_p28, List.forall_mem_cons.mpr ⟨lw_p29, List.forall_mem_cons.mpr ⟨lw_p30, List.forall_mem_cons.mpr ⟨lw_p31, fun _ h => absurd h List.not_mem_nil⟩⟩⟩⟩⟩⟩⟩⟩⟩⟩⟩⟩⟩⟩⟩⟩
theorem lw_p32 : lw_okq (⟨"SpillForge$Live", "sweep", "(LSpillForge$Code;)Z"⟩, 7) := ⟨⟨by decide +kernel, by decide +kernel⟩, List.mem_of_getElem? (i := 257) (by decide +kernel), List.mem_of_getElem? (i := 781) (by decide +kernel), List.mem_of_getElem? (i := 782) (by decide +kernel)⟩
theorem lw_p33 : lw_okq (⟨"SpillForge$Giver", "setLiveToZero", "()V"⟩, 16) := ⟨⟨by decide +kernel, by decide +kernel⟩, List.mem_of_getElem? (i := 245) (by decide +kernel), List.mem_of_getElem? (i := 795) (by decide +kernel), List.mem_of_getElem? (i := 796) (by decide +kernel)⟩
theorem lw_p34 : lw_okq (⟨"SpillForge$Graph", "joinBlock", "(LSpillForge$Code;IZ)V"⟩, 6) := ⟨⟨by decide +kernel, by decide +kernel⟩, List.mem_of_getElem? (i := 251) (by decide +kernel), List.mem_of_getElem? (i := 829) (by decide +kernel), List.mem_of_getElem? (i := 830) (by decide +kernel)⟩
theorem lw_p35 : lw_okq (⟨"SpillForge$Graph", "joinToLive", "(II)V"⟩, 6) := ⟨⟨by decide +kernel, by decide +kernel⟩, List.mem_of_getElem? (i := 251) (by decide +kernel), List.mem_of_getElem? (i := 841) (by decide +kernel), List.mem_of_getElem? (i := 842) (by decide +kernel)⟩
theorem lw_p36 : lw_okq (⟨"SpillForge$Live", "revive", "(I)V"⟩, 7) := ⟨⟨by decide +kernel, by decide +kernel⟩, List.mem_of_getElem? (i := 257) (by decide +kernel), List.mem_of_getElem? (i := 854) (by decide +kernel), List.mem_of_getElem? (i := 855) (by decide +kernel)⟩
theorem lw_p37 : lw_okq (⟨"SpillForge$Graph", "bitsOf", "(I)I"⟩, 6) := ⟨⟨by decide +kernel, by decide +kernel⟩, List.mem_of_getElem? (i := 251) (by decide +kernel), List.mem_of_getElem? (i := 858) (by decide +kernel), List.mem_of_getElem? (i := 859) (by decide +kernel)⟩
theorem lw_p38 : lw_okq (⟨"SpillForge$Colouring", "addWeight", "(II)V"⟩, 8) := ⟨⟨by decide +kernel, by decide +kernel⟩, List.mem_of_getElem? (i := 313) (by decide +kernel), List.mem_of_getElem? (i := 877) (by decide +kernel), List.mem_of_getElem? (i := 878) (by decide +kernel)⟩
theorem lw_p39 : lw_okq (⟨"java/lang/Throwable", "fillInStackTrace", "(I)Ljava/lang/Throwable;"⟩, 6) := ⟨⟨by decide +kernel, by decide +kernel⟩, List.mem_of_getElem? (i := 958) (by decide +kernel), List.mem_of_getElem? (i := 956) (by decide +kernel), List.mem_of_getElem? (i := 957) (by decide +kernel)⟩
theorem lw_p40 : lw_okq (⟨"SpillForge$Giver", "mergeCopies", "(I)V"⟩, 16) := ⟨⟨by decide +kernel, by decide +kernel⟩, List.mem_of_getElem? (i := 245) (by decide +kernel), List.mem_of_getElem? (i := 1045) (by decide +kernel), List.mem_of_getElem? (i := 1046) (by decide +kernel)⟩
theorem lw_p41 : lw_okq (⟨"SpillForge$Giver", "nextToMerge", "(I)I"⟩, 16) := ⟨⟨by decide +kernel, by decide +kernel⟩, List.mem_of_getElem? (i := 245) (by decide +kernel), List.mem_of_getElem? (i := 1049) (by decide +kernel), List.mem_of_getElem? (i := 1050) (by decide +kernel)⟩
theorem lw_p42 : lw_okq (⟨"SpillForge$Giver", "canMerge", "(III)Z"⟩, 16) := ⟨⟨by decide +kernel, by decide +kernel⟩, List.mem_of_getElem? (i := 245) (by decide +kernel), List.mem_of_getElem? (i := 1054) (by decide +kernel), List.mem_of_getElem? (i := 1055) (by decide +kernel)⟩
theorem lw_p43 : lw_okq (⟨"SpillForge$Colouring", "nextOfRest", "(I)I"⟩, 8) := ⟨⟨by decide +kernel, by decide +kernel⟩, List.mem_of_getElem? (i := 313) (by decide +kernel), List.mem_of_getElem? (i := 1084) (by decide +kernel), List.mem_of_getElem? (i := 1085) (by decide +kernel)⟩
theorem lw_p44 : lw_okq (⟨"SpillForge$Colouring", "isCheaper", "(II)Z"⟩, 8) := ⟨⟨by decide +kernel, by decide +kernel⟩, List.mem_of_getElem? (i := 313) (by decide +kernel), List.mem_of_getElem? (i := 1088) (by decide +kernel), List.mem_of_getElem? (i := 1089) (by decide +kernel)⟩
theorem lw_p45 : lw_okq (⟨"SpillForge$Colouring", "leave", "(I)V"⟩, 8) := ⟨⟨by decide +kernel, by decide +kernel⟩, List.mem_of_getElem? (i := 313) (by decide +kernel), List.mem_of_getElem? (i := 1093) (by decide +kernel), List.mem_of_getElem? (i := 1094) (by decide +kernel)⟩
theorem lw_p46 : lw_okq (⟨"SpillForge$Colouring", "coloursAround", "(I)J"⟩, 8) := ⟨⟨by decide +kernel, by decide +kernel⟩, List.mem_of_getElem? (i := 313) (by decide +kernel), List.mem_of_getElem? (i := 1102) (by decide +kernel), List.mem_of_getElem? (i := 1103) (by decide +kernel)⟩
theorem lw_p47 : lw_okq (⟨"SpillForge$Giver", "shareSlots", "()V"⟩, 16) := ⟨⟨by decide +kernel, by decide +kernel⟩, List.mem_of_getElem? (i := 245) (by decide +kernel), List.mem_of_getElem? (i := 1118) (by decide +kernel), List.mem_of_getElem? (i := 1119) (by decide +kernel)⟩
def lw_privs_3 : List (MethodName × Nat) := [(⟨"SpillForge$Live", "sweep", "(LSpillForge$Code;)Z"⟩, 7), (⟨"SpillForge$Giver", "setLiveToZero", "()V"⟩, 16), (⟨"SpillForge$Graph", "joinBlock", "(LSpillForge$Code;IZ)V"⟩, 6), (⟨"SpillForge$Graph", "joinToLive", "(II)V"⟩, 6), (⟨"SpillForge$Live", "revive", "(I)V"⟩, 7), (⟨"SpillForge$Graph", "bitsOf", "(I)I"⟩, 6), (⟨"SpillForge$Colouring", "addWeight", "(II)V"⟩, 8), (⟨"java/lang/Throwable", "fillInStackTrace", "(I)Ljava/lang/Throwable;"⟩, 6), (⟨"SpillForge$Giver", "mergeCopies", "(I)V"⟩, 16), (⟨"SpillForge$Giver", "nextToMerge", "(I)I"⟩, 16), (⟨"SpillForge$Giver", "canMerge", "(III)Z"⟩, 16), (⟨"SpillForge$Colouring", "nextOfRest", "(I)I"⟩, 8), (⟨"SpillForge$Colouring", "isCheaper", "(II)Z"⟩, 8), (⟨"SpillForge$Colouring", "leave", "(I)V"⟩, 8), (⟨"SpillForge$Colouring", "coloursAround", "(I)J"⟩, 8), (⟨"SpillForge$Giver", "shareSlots", "()V"⟩, 16)]
theorem lw_r3 : ∀ q ∈ lw_privs_3, lw_okq q := List.forall_mem_cons.mpr ⟨lw_p32, List.forall_mem_cons.mpr ⟨lw_p33, List.forall_mem_cons.mpr ⟨lw_p34, List.forall_mem_cons.mpr ⟨lw_p35, List.forall_mem_cons.mpr ⟨lw_p36, List.forall_mem_cons.mpr ⟨lw_p37, List.forall_mem_cons.mpr ⟨lw_p38, List.forall_mem_cons.mpr ⟨lw_p39, List.forall_mem_cons.mpr ⟨lw_p40, List.forall_mem_cons.mpr ⟨lw_p41, List.forall_mem_cons.mpr ⟨lw_p42, List.forall_mem_cons.mpr ⟨lw_p43, List.forall_mem_cons.mpr ⟨lw_p44, List.forall_mem_cons.mpr ⟨lw_p45, List.forall_mem_cons.mpr ⟨lw_p46, List.forall_mem_cons.mpr ⟨lw_p47, fun _ h => absurd h List.not_mem_nil⟩⟩⟩⟩⟩⟩⟩⟩⟩⟩⟩⟩⟩⟩⟩⟩
theorem lw_p48 : lw_okq (⟨"SpillForge$Giver", "isTakenAround", "(II)Z"⟩, 16) := ⟨⟨by decide +kernel, by decide +kernel⟩, List.mem_of_getElem? (i := 245) (by decide +kernel), List.mem_of_getElem? (i := 1122) (by decide +kernel), List.mem_of_getElem? (i := 1123) (by decide +kernel)⟩
theorem lw_p49 : lw_okq (⟨"SpillForge$Giver", "giveSlots", "()Z"⟩, 16) := ⟨⟨by decide +kernel, by decide +kernel⟩, List.mem_of_getElem? (i := 245) (by decide +kernel), List.mem_of_getElem? (i := 1130) (by decide +kernel), List.mem_of_getElem? (i := 1131) (by decide +kernel)⟩
theorem lw_p50 : lw_okq (⟨"SpillForge$Giver", "spill", "()V"⟩, 16) := ⟨⟨by decide +kernel, by decide +kernel⟩, List.mem_of_getElem? (i := 245) (by decide +kernel), List.mem_of_getElem? (i := 1138) (by decide +kernel), List.mem_of_getElem? (i := 1139) (by decide +kernel)⟩
theorem lw_p51 : lw_okq (⟨"SpillForge$Giver", "spillLine", "(I)V"⟩, 16) := ⟨⟨by decide +kernel, by decide +kernel⟩, List.mem_of_getElem? (i := 245) (by decide +kernel), List.mem_of_getElem? (i := 1142) (by decide +kernel), List.mem_of_getElem? (i := 1143) (by decide +kernel)⟩
theorem lw_p52 : lw_okq (⟨"SpillForge$Giver", "loaded", "(I)I"⟩, 16) := ⟨⟨by decide +kernel, by decide +kernel⟩, List.mem_of_getElem? (i := 245) (by decide +kernel), List.mem_of_getElem? (i := 1146) (by decide +kernel), List.mem_of_getElem? (i := 1147) (by decide +kernel)⟩
theorem lw_p53 : lw_okq (⟨"SpillForge$Giver", "slotFor", "(I)I"⟩, 16) := ⟨⟨by decide +kernel, by decide +kernel⟩, List.mem_of_getElem? (i := 245) (by decide +kernel), List.mem_of_getElem? (i := 1150) (by decide +kernel), List.mem_of_getElem? (i := 1151) (by decide +kernel)⟩
theorem lw_p54 : lw_okq (⟨"SpillForge$Giver", "newTemporary", "()I"⟩, 16) := ⟨⟨by decide +kernel, by decide +kernel⟩, List.mem_of_getElem? (i := 245) (by decide +kernel), List.mem_of_getElem? (i := 1154) (by decide +kernel), List.mem_of_getElem? (i := 1155) (by decide +kernel)⟩
theorem lw_p55 : lw_okq (⟨"SpillForge", "countGiven", "(I)I"⟩, 8) := ⟨⟨by decide +kernel, by decide +kernel⟩, List.mem_of_getElem? (i := 46) (by decide +kernel), List.mem_of_getElem? (i := 1182) (by decide +kernel), List.mem_of_getElem? (i := 1183) (by decide +kernel)⟩
theorem lw_p56 : lw_okq (⟨"SpillForge", "exists", "(Z)Z"⟩, 8) := ⟨⟨by decide +kernel, by decide +kernel⟩, List.mem_of_getElem? (i := 46) (by decide +kernel), List.mem_of_getElem? (i := 1265) (by decide +kernel), List.mem_of_getElem? (i := 1266) (by decide +kernel)⟩
theorem lw_p57 : lw_okq (⟨"SpillForge$Machine", "step", "(LSpillForge$Code;I)I"⟩, 11) := ⟨⟨by decide +kernel, by decide +kernel⟩, List.mem_of_getElem? (i := 395) (by decide +kernel), List.mem_of_getElem? (i := 1275) (by decide +kernel), List.mem_of_getElem? (i := 1276) (by decide +kernel)⟩
theorem lw_p58 : lw_okq (⟨"SpillForge$Machine", "valueOf", "(II)I"⟩, 11) := ⟨⟨by decide +kernel, by decide +kernel⟩, List.mem_of_getElem? (i := 395) (by decide +kernel), List.mem_of_getElem? (i := 1279) (by decide +kernel), List.mem_of_getElem? (i := 1280) (by decide +kernel)⟩
theorem lw_p59 : lw_okq (⟨"SpillForge$Machine", "enter", "(LSpillForge$Code;I)I"⟩, 11) := ⟨⟨by decide +kernel, by decide +kernel⟩, List.mem_of_getElem? (i := 395) (by decide +kernel), List.mem_of_getElem? (i := 1283) (by decide +kernel), List.mem_of_getElem? (i := 1284) (by decide +kernel)⟩
theorem lw_p60 : lw_okq (⟨"SpillForge$Machine", "halt", "(I)I"⟩, 11) := ⟨⟨by decide +kernel, by decide +kernel⟩, List.mem_of_getElem? (i := 395) (by decide +kernel), List.mem_of_getElem? (i := 1287) (by decide +kernel), List.mem_of_getElem? (i := 1288) (by decide +kernel)⟩
theorem lw_p61 : lw_okq (⟨"SpillForge$Machine", "addShow", "(I)Z"⟩, 11) := ⟨⟨by decide +kernel, by decide +kernel⟩, List.mem_of_getElem? (i := 395) (by decide +kernel), List.mem_of_getElem? (i := 1291) (by decide +kernel), List.mem_of_getElem? (i := 1292) (by decide +kernel)⟩
theorem lw_p62 : lw_okq (⟨"SpillForge$Machine", "slotAt", "(I)I"⟩, 11) := ⟨⟨by decide +kernel, by decide +kernel⟩, List.mem_of_getElem? (i := 395) (by decide +kernel), List.mem_of_getElem? (i := 1298) (by decide +kernel), List.mem_of_getElem? (i := 1299) (by decide +kernel)⟩
theorem lw_p63 : lw_okq (⟨"SpillForge$Machine", "takeNext", "()I"⟩, 11) := ⟨⟨by decide +kernel, by decide +kernel⟩, List.mem_of_getElem? (i := 395) (by decide +kernel), List.mem_of_getElem? (i := 1302) (by decide +kernel), List.mem_of_getElem? (i := 1303) (by decide +kernel)⟩
def lw_privs_4 : List (MethodName × Nat) := [(⟨"SpillForge$Giver", "isTakenAround", "(II)Z"⟩, 16), (⟨"SpillForge$Giver", "giveSlots", "()Z"⟩, 16), (⟨"SpillForge$Giver", "spill", "()V"⟩, 16), (⟨"SpillForge$Giver", "spillLine", "(I)V"⟩, 16), (⟨"SpillForge$Giver", "loaded", "(I)I"⟩, 16), (⟨"SpillForge$Giver", "slotFor", "(I)I"⟩, 16), (⟨"SpillForge$Giver", "newTemporary", "()I"⟩, 16), (⟨"SpillForge", "countGiven", "(I)I"⟩, 8), (⟨"SpillForge", "exists", "(Z)Z"⟩, 8), (⟨"SpillForge$Machine", "step", "(LSpillForge$Code;I)I"⟩, 11), (⟨"SpillForge$Machine", "valueOf", "(II)I"⟩, 11), (⟨"SpillForge$Machine", "enter", "(LSpillForge$Code;I)I"⟩, 11), (⟨"SpillForge$Machine", "halt", "(I)I"⟩, 11), (⟨"SpillForge$Machine", "addShow", "(I)Z"⟩, 11), (⟨"SpillForge$Machine", "slotAt", "(I)I"⟩, 11), (⟨"SpillForge$Machine", "takeNext", "()I"⟩, 11)]
theorem lw_r4 : ∀ q ∈ lw_privs_4, lw_okq q := List.forall_mem_cons.mpr ⟨lw_p48, List.forall_mem_cons.mpr ⟨lw_p49, List.forall_mem_cons.mpr ⟨lw_p50, List.forall_mem_cons.mpr ⟨lw_p51, List.forall_mem_cons.mpr ⟨lw_p52, List.forall_mem_cons.mpr ⟨lw_p53, List.forall_mem_cons.mpr ⟨lw_p54, List.forall_mem_cons.mpr ⟨lw_p55, List.forall_mem_cons.mpr ⟨lw_p56, List.forall_mem_cons.mpr ⟨lw_p57, List.forall_mem_cons.mpr ⟨lw_p58, List.forall_mem_cons.mpr ⟨lw_p59, List.forall_mem_cons.mpr ⟨lw_p60, List.forall_mem_cons.mpr ⟨lw_p61, List.forall_mem_cons.mpr ⟨lw_p62, List.forall_mem_cons.mpr ⟨lw_p63, fun _ h => absurd h List.not_mem_nil⟩⟩⟩⟩⟩⟩⟩⟩⟩⟩⟩⟩⟩⟩⟩⟩
theorem lw_p64 : lw_okq (⟨"SpillForge$Listing", "addNamed", "(Ljava/lang/String;I)V"⟩, 2) := ⟨⟨by decide +kernel, by decide +kernel⟩, List.mem_of_getElem? (i := 435) (by decide +kernel), List.mem_of_getElem? (i := 1362) (by decide +kernel), List.mem_of_getElem? (i := 1363) (by decide +kernel)⟩
theorem lw_p65 : lw_okq (⟨"SpillForge$Listing", "addText", "(Ljava/lang/String;)V"⟩, 2) := ⟨⟨by decide +kernel, by decide +kernel⟩, List.mem_of_getElem? (i := 435) (by decide +kernel), List.mem_of_getElem? (i := 1366) (by decide +kernel), List.mem_of_getElem? (i := 1367) (by decide +kernel)⟩
theorem lw_p66 : lw_okq (⟨"SpillForge$Listing", "addByte", "(C)V"⟩, 2) := ⟨⟨by decide +kernel, by decide +kernel⟩, List.mem_of_getElem? (i := 435) (by decide +kernel), List.mem_of_getElem? (i := 1372) (by decide +kernel), List.mem_of_getElem? (i := 1373) (by decide +kernel)⟩
theorem lw_p67 : lw_okq (⟨"SpillForge$Listing", "addNumber", "(I)V"⟩, 2) := ⟨⟨by decide +kernel, by decide +kernel⟩, List.mem_of_getElem? (i := 435) (by decide +kernel), List.mem_of_getElem? (i := 1376) (by decide +kernel), List.mem_of_getElem? (i := 1377) (by decide +kernel)⟩
theorem lw_p68 : lw_okq (⟨"SpillForge$Listing", "addEnd", "(LSpillForge$Code;II)V"⟩, 2) := ⟨⟨by decide +kernel, by decide +kernel⟩, List.mem_of_getElem? (i := 435) (by decide +kernel), List.mem_of_getElem? (i := 1387) (by decide +kernel), List.mem_of_getElem? (i := 1388) (by decide +kernel)⟩
theorem lw_p69 : lw_okq (⟨"SpillForge$Listing", "addOperand", "(II)V"⟩, 2) := ⟨⟨by decide +kernel, by decide +kernel⟩, List.mem_of_getElem? (i := 435) (by decide +kernel), List.mem_of_getElem? (i := 1392) (by decide +kernel), List.mem_of_getElem? (i := 1393) (by decide +kernel)⟩
theorem lw_p70 : lw_okq (⟨"SpillForge$Listing", "addRow", "(LSpillForge$Code;I)V"⟩, 2) := ⟨⟨by decide +kernel, by decide +kernel⟩, List.mem_of_getElem? (i := 435) (by decide +kernel), List.mem_of_getElem? (i := 1400) (by decide +kernel), List.mem_of_getElem? (i := 1401) (by decide +kernel)⟩
theorem lw_p71 : lw_okq (⟨"SpillForge$Listing", "addSource", "(LSpillForge$Code;I)V"⟩, 2) := ⟨⟨by decide +kernel, by decide +kernel⟩, List.mem_of_getElem? (i := 435) (by decide +kernel), List.mem_of_getElem? (i := 1408) (by decide +kernel), List.mem_of_getElem? (i := 1409) (by decide +kernel)⟩
theorem lw_p72 : lw_okq (⟨"SpillForge$Listing", "addOp", "(I)V"⟩, 2) := ⟨⟨by decide +kernel, by decide +kernel⟩, List.mem_of_getElem? (i := 435) (by decide +kernel), List.mem_of_getElem? (i := 1413) (by decide +kernel), List.mem_of_getElem? (i := 1414) (by decide +kernel)⟩
theorem lw_p73 : lw_okq (⟨"SpillForgeModel", "no", "(I)I"⟩, 36) := ⟨⟨by decide +kernel, by decide +kernel⟩, List.mem_of_getElem? (i := 1430) (by decide +kernel), List.mem_of_getElem? (i := 1632) (by decide +kernel), List.mem_of_getElem? (i := 1633) (by decide +kernel)⟩
theorem lw_p74 : lw_okq (⟨"SpillForgeModel", "word", "(II)V"⟩, 36) := ⟨⟨by decide +kernel, by decide +kernel⟩, List.mem_of_getElem? (i := 1430) (by decide +kernel), List.mem_of_getElem? (i := 1636) (by decide +kernel), List.mem_of_getElem? (i := 1637) (by decide +kernel)⟩
theorem lw_p75 : lw_okq (⟨"SpillForgeModel$Reader", "next", "()V"⟩, 14) := ⟨⟨by decide +kernel, by decide +kernel⟩, List.mem_of_getElem? (i := 1649) (by decide +kernel), List.mem_of_getElem? (i := 1656) (by decide +kernel), List.mem_of_getElem? (i := 1657) (by decide +kernel)⟩
theorem lw_p76 : lw_okq (⟨"SpillForgeModel$Reader", "word", "()V"⟩, 14) := ⟨⟨by decide +kernel, by decide +kernel⟩, List.mem_of_getElem? (i := 1649) (by decide +kernel), List.mem_of_getElem? (i := 1666) (by decide +kernel), List.mem_of_getElem? (i := 1667) (by decide +kernel)⟩
theorem lw_p77 : lw_okq (⟨"SpillForgeModel$Reader", "number", "(Z)V"⟩, 14) := ⟨⟨by decide +kernel, by decide +kernel⟩, List.mem_of_getElem? (i := 1649) (by decide +kernel), List.mem_of_getElem? (i := 1899) (by decide +kernel), List.mem_of_getElem? (i := 1900) (by decide +kernel)⟩
theorem lw_p78 : lw_okq (⟨"SpillForgeModel$Reader", "symbol", "(I)V"⟩, 14) := ⟨⟨by decide +kernel, by decide +kernel⟩, List.mem_of_getElem? (i := 1649) (by decide +kernel), List.mem_of_getElem? (i := 1904) (by decide +kernel), List.mem_of_getElem? (i := 1905) (by decide +kernel)⟩
theorem lw_p79 : lw_okq (⟨"SpillForgeModel$Reader", "block", "(LSpillForgeModel$Code;)V"⟩, 14) := ⟨⟨by decide +kernel, by decide +kernel⟩, List.mem_of_getElem? (i := 1649) (by decide +kernel), List.mem_of_getElem? (i := 2010) (by decide +kernel), List.mem_of_getElem? (i := 2011) (by decide +kernel)⟩
def lw_privs_5 : List (MethodName × Nat) := [(⟨"SpillForge$Listing", "addNamed", "(Ljava/lang/String;I)V"⟩, 2), (⟨"SpillForge$Listing", "addText", "(Ljava/lang/String;)V"⟩, 2), (⟨"SpillForge$Listing", "addByte", "(C)V"⟩, 2), (⟨"SpillForge$Listing", "addNumber", "(I)V"⟩, 2), (⟨"SpillForge$Listing", "addEnd", "(LSpillForge$Code;II)V"⟩, 2), (⟨"SpillForge$Listing", "addOperand", "(II)V"⟩, 2), (⟨"SpillForge$Listing", "addRow", "(LSpillForge$Code;I)V"⟩, 2), (⟨"SpillForge$Listing", "addSource", "(LSpillForge$Code;I)V"⟩, 2), (⟨"SpillForge$Listing", "addOp", "(I)V"⟩, 2), (⟨"SpillForgeModel", "no", "(I)I"⟩, 36), (⟨"SpillForgeModel", "word", "(II)V"⟩, 36), (⟨"SpillForgeModel$Reader", "next", "()V"⟩, 14), (⟨"SpillForgeModel$Reader", "word", "()V"⟩, 14), (⟨"SpillForgeModel$Reader", "number", "(Z)V"⟩, 14), (⟨"SpillForgeModel$Reader", "symbol", "(I)V"⟩, 14), (⟨"SpillForgeModel$Reader", "block", "(LSpillForgeModel$Code;)V"⟩, 14)]
theorem lw_r5 : ∀ q ∈ lw_privs_5, lw_okq q := List.forall_mem_cons.mpr ⟨lw_p64, List.forall_mem_cons.mpr ⟨lw_p65, List.forall_mem_cons.mpr ⟨lw_p66, List.forall_mem_cons.mpr ⟨lw_p67, List.forall_mem_cons.mpr ⟨lw_p68, List.forall_mem_cons.mpr ⟨lw_p69, List.forall_mem_cons.mpr ⟨lw_p70, List.forall_mem_cons.mpr ⟨lw_p71, List.forall_mem_cons.mpr ⟨lw_p72, List.forall_mem_cons.mpr ⟨lw_p73, List.forall_mem_cons.mpr ⟨lw_p74, List.forall_mem_cons.mpr ⟨lw_p75, List.forall_mem_cons.mpr ⟨lw_p76, List.forall_mem_cons.mpr ⟨lw_p77, List.forall_mem_cons.mpr ⟨lw_p78, List.forall_mem_cons.mpr ⟨lw_p79, fun _ h => absurd h List.not_mem_nil⟩⟩⟩⟩⟩⟩⟩⟩⟩⟩⟩⟩⟩⟩⟩⟩
theorem lw_p80 : lw_okq (⟨"SpillForgeModel$Reader", "want", "(I)I"⟩, 14) := ⟨⟨by decide +kernel, by decide +kernel⟩, List.mem_of_getElem? (i := 1649) (by decide +kernel), List.mem_of_getElem? (i := 2014) (by decide +kernel), List.mem_of_getElem? (i := 2015) (by decide +kernel)⟩
theorem lw_p81 : lw_okq (⟨"SpillForgeModel$Reader", "no", "()LSpillForgeModel$Wrong;"⟩, 14) := ⟨⟨by decide +kernel, by decide +kernel⟩, List.mem_of_getElem? (i := 1649) (by decide +kernel), List.mem_of_getElem? (i := 2018) (by decide +kernel), List.mem_of_getElem? (i := 2019) (by decide +kernel)⟩
theorem lw_p82 : lw_okq (⟨"SpillForgeModel$Reader", "breaks", "(II)V"⟩, 14) := ⟨⟨by decide +kernel, by decide +kernel⟩, List.mem_of_getElem? (i := 1649) (by decide +kernel), List.mem_of_getElem? (i := 2053) (by decide +kernel), List.mem_of_getElem? (i := 2054) (by decide +kernel)⟩
theorem lw_p83 : lw_okq (⟨"SpillForgeModel$Reader", "want", "(Ljava/lang/String;)V"⟩, 14) := ⟨⟨by decide +kernel, by decide +kernel⟩, List.mem_of_getElem? (i := 1649) (by decide +kernel), List.mem_of_getElem? (i := 2058) (by decide +kernel), List.mem_of_getElem? (i := 2059) (by decide +kernel)⟩
theorem lw_p84 : lw_okq (⟨"SpillForgeModel$Reader", "is", "(Ljava/lang/String;)Z"⟩, 14) := ⟨⟨by decide +kernel, by decide +kernel⟩, List.mem_of_getElem? (i := 1649) (by decide +kernel), List.mem_of_getElem? (i := 2062) (by decide +kernel), List.mem_of_getElem? (i := 2063) (by decide +kernel)⟩
theorem lw_p85 : lw_okq (⟨"java/util/ArrayList", "add", "(Ljava/lang/Object;[Ljava/lang/Object;I)V"⟩, 3) := ⟨⟨by decide +kernel, by decide +kernel⟩, List.mem_of_getElem? (i := 1444) (by decide +kernel), List.mem_of_getElem? (i := 2168) (by decide +kernel), List.mem_of_getElem? (i := 2169) (by decide +kernel)⟩
theorem lw_p86 : lw_okq (⟨"java/util/ArrayList", "grow", "()[Ljava/lang/Object;"⟩, 3) := ⟨⟨by decide +kernel, by decide +kernel⟩, List.mem_of_getElem? (i := 1444) (by decide +kernel), List.mem_of_getElem? (i := 2172) (by decide +kernel), List.mem_of_getElem? (i := 2173) (by decide +kernel)⟩
theorem lw_p87 : lw_okq (⟨"java/util/ArrayList", "grow", "(I)[Ljava/lang/Object;"⟩, 3) := ⟨⟨by decide +kernel, by decide +kernel⟩, List.mem_of_getElem? (i := 1444) (by decide +kernel), List.mem_of_getElem? (i := 2176) (by decide +kernel), List.mem_of_getElem? (i := 2177) (by decide +kernel)⟩
theorem lw_p88 : lw_okq (⟨"SpillForgeModel$Reader", "row", "(LSpillForgeModel$Row;)V"⟩, 14) := ⟨⟨by decide +kernel, by decide +kernel⟩, List.mem_of_getElem? (i := 1649) (by decide +kernel), List.mem_of_getElem? (i := 2246) (by decide +kernel), List.mem_of_getElem? (i := 2247) (by decide +kernel)⟩
theorem lw_p89 : lw_okq (⟨"SpillForgeModel$Reader", "operand", "(LSpillForgeModel$Row;Z)V"⟩, 14) := ⟨⟨by decide +kernel, by decide +kernel⟩, List.mem_of_getElem? (i := 1649) (by decide +kernel), List.mem_of_getElem? (i := 2250) (by decide +kernel), List.mem_of_getElem? (i := 2251) (by decide +kernel)⟩
theorem lw_p90 : lw_okq (⟨"SpillForgeModel$Reader", "end", "(LSpillForgeModel$Block;)V"⟩, 14) := ⟨⟨by decide +kernel, by decide +kernel⟩, List.mem_of_getElem? (i := 1649) (by decide +kernel), List.mem_of_getElem? (i := 2266) (by decide +kernel), List.mem_of_getElem? (i := 2267) (by decide +kernel)⟩
theorem lw_p91 : lw_okq (⟨"SpillForgeModel$Reader", "goal", "()I"⟩, 14) := ⟨⟨by decide +kernel, by decide +kernel⟩, List.mem_of_getElem? (i := 1649) (by decide +kernel), List.mem_of_getElem? (i := 2271) (by decide +kernel), List.mem_of_getElem? (i := 2272) (by decide +kernel)⟩
theorem lw_p92 : lw_okq (⟨"SpillForgeModel", "giveAll", "(LSpillForgeModel$Code;I)I"⟩, 36) := ⟨⟨by decide +kernel, by decide +kernel⟩, List.mem_of_getElem? (i := 1430) (by decide +kernel), List.mem_of_getElem? (i := 2309) (by decide +kernel), List.mem_of_getElem? (i := 2310) (by decide +kernel)⟩
theorem lw_p93 : lw_okq (⟨"SpillForgeModel", "zeros", "(LSpillForgeModel$Code;)V"⟩, 36) := ⟨⟨by decide +kernel, by decide +kernel⟩, List.mem_of_getElem? (i := 1430) (by decide +kernel), List.mem_of_getElem? (i := 2313) (by decide +kernel), List.mem_of_getElem? (i := 2314) (by decide +kernel)⟩
theorem lw_p94 : lw_okq (⟨"SpillForgeModel", "findLive", "(LSpillForgeModel$Code;Z)V"⟩, 36) := ⟨⟨by decide +kernel, by decide +kernel⟩, List.mem_of_getElem? (i := 1430) (by decide +kernel), List.mem_of_getElem? (i := 2317) (by decide +kernel), List.mem_of_getElem? (i := 2318) (by decide +kernel)⟩
theorem lw_p95 : lw_okq (⟨"SpillForgeModel", "behind", "(LSpillForgeModel$Block;)V"⟩, 36) := ⟨⟨by decide +kernel, by decide +kernel⟩, List.mem_of_getElem? (i := 1430) (by decide +kernel), List.mem_of_getElem? (i := 2323) (by decide +kernel), List.mem_of_getElem? (i := 2324) (by decide +kernel)⟩
def lw_privs_6 : List (MethodName × Nat) := [(⟨"SpillForgeModel$Reader", "want", "(I)I"⟩, 14), (⟨"SpillForgeModel$Reader", "no", "()LSpillForgeModel$Wrong;"⟩, 14), (⟨"SpillForgeModel$Reader", "breaks", "(II)V"⟩, 14), (⟨"SpillForgeModel$Reader", "want", "(Ljava/lang/String;)V"⟩, 14), (⟨"SpillForgeModel$Reader", "is", "(Ljava/lang/String;)Z"⟩, 14), (⟨"java/util/ArrayList", "add", "(Ljava/lang/Object;[Ljava/lang/Object;I)V"⟩, 3), (⟨"java/util/ArrayList", "grow", "()[Ljava/lang/Object;"⟩, 3), (⟨"java/util/ArrayList", "grow", "(I)[Ljava/lang/Object;"⟩, 3), (⟨"SpillForgeModel$Reader", "row", "(LSpillForgeModel$Row;)V"⟩, 14), (⟨"SpillForgeModel$Reader", "operand", "(LSpillForgeModel$Row;Z)V"⟩, 14), (⟨"SpillForgeModel$Reader", "end", "(LSpillForgeModel$Block;)V"⟩, 14), (⟨"SpillForgeModel$Reader", "goal", "()I"⟩, 14), (⟨"SpillForgeModel", "giveAll", "(LSpillForgeModel$Code;I)I"⟩, 36), (⟨"SpillForgeModel", "zeros", "(LSpillForgeModel$Code;)V"⟩, 36), (⟨"SpillForgeModel", "findLive", "(LSpillForgeModel$Code;Z)V"⟩, 36), (⟨"SpillForgeModel", "behind", "(LSpillForgeModel$Block;)V"⟩, 36)]
theorem lw_r6 : ∀ q ∈ lw_privs_6, lw_okq q := List.forall_mem_cons.mpr ⟨lw_p80, List.forall_mem_cons.mpr ⟨lw_p81, List.forall_mem_cons.mpr ⟨lw_p82, List.forall_mem_cons.mpr ⟨lw_p83, List.forall_mem_cons.mpr ⟨lw_p84, List.forall_mem_cons.mpr ⟨lw_p85, List.forall_mem_cons.mpr ⟨lw_p86, List.forall_mem_cons.mpr ⟨lw_p87, List.forall_mem_cons.mpr ⟨lw_p88, List.forall_mem_cons.mpr ⟨lw_p89, List.forall_mem_cons.mpr ⟨lw_p90, List.forall_mem_cons.mpr ⟨lw_p91, List.forall_mem_cons.mpr ⟨lw_p92, List.forall_mem_cons.mpr ⟨lw_p93, List.forall_mem_cons.mpr ⟨lw_p94, List.forall_mem_cons.mpr ⟨lw_p95, fun _ h => absurd h List.not_mem_nil⟩⟩⟩⟩⟩⟩⟩⟩⟩⟩⟩⟩⟩⟩⟩⟩
theorem lw_p96 : lw_okq (⟨"SpillForgeModel", "back", "(LSpillForgeModel$Row;Z)V"⟩, 36) := ⟨⟨by decide +kernel, by decide +kernel⟩, List.mem_of_getElem? (i := 1430) (by decide +kernel), List.mem_of_getElem? (i := 2335) (by decide +kernel), List.mem_of_getElem? (i := 2336) (by decide +kernel)⟩
theorem lw_p97 : lw_okq (⟨"java/util/ArrayList", "rangeCheckForAdd", "(I)V"⟩, 3) := ⟨⟨by decide +kernel, by decide +kernel⟩, List.mem_of_getElem? (i := 1444) (by decide +kernel), List.mem_of_getElem? (i := 2372) (by decide +kernel), List.mem_of_getElem? (i := 2373) (by decide +kernel)⟩
theorem lw_p98 : lw_okq (⟨"java/util/ArrayList", "outOfBoundsMsg", "(I)Ljava/lang/String;"⟩, 3) := ⟨⟨by decide +kernel, by decide +kernel⟩, List.mem_of_getElem? (i := 1444) (by decide +kernel), List.mem_of_getElem? (i := 2377) (by decide +kernel), List.mem_of_getElem? (i := 2378) (by decide +kernel)⟩
theorem lw_p99 : lw_okq (⟨"SpillForgeModel", "graph", "(LSpillForgeModel$Code;Z)V"⟩, 36) := ⟨⟨by decide +kernel, by decide +kernel⟩, List.mem_of_getElem? (i := 1430) (by decide +kernel), List.mem_of_getElem? (i := 2394) (by decide +kernel), List.mem_of_getElem? (i := 2395) (by decide +kernel)⟩
theorem lw_p100 : lw_okq (⟨"SpillForgeModel", "stand", "(LSpillForgeModel$Row;Z)V"⟩, 36) := ⟨⟨by decide +kernel, by decide +kernel⟩, List.mem_of_getElem? (i := 1430) (by decide +kernel), List.mem_of_getElem? (i := 2398) (by decide +kernel), List.mem_of_getElem? (i := 2399) (by decide +kernel)⟩
theorem lw_p101 : lw_okq (⟨"SpillForgeModel", "merge", "(LSpillForgeModel$Code;I)Z"⟩, 36) := ⟨⟨by decide +kernel, by decide +kernel⟩, List.mem_of_getElem? (i := 1430) (by decide +kernel), List.mem_of_getElem? (i := 2409) (by decide +kernel), List.mem_of_getElem? (i := 2410) (by decide +kernel)⟩
theorem lw_p102 : lw_okq (⟨"SpillForgeModel", "mayMerge", "(III)Z"⟩, 36) := ⟨⟨by decide +kernel, by decide +kernel⟩, List.mem_of_getElem? (i := 1430) (by decide +kernel), List.mem_of_getElem? (i := 2413) (by decide +kernel), List.mem_of_getElem? (i := 2414) (by decide +kernel)⟩
theorem lw_p103 : lw_okq (⟨"java/util/ArrayList", "fastRemove", "([Ljava/lang/Object;I)V"⟩, 3) := ⟨⟨by decide +kernel, by decide +kernel⟩, List.mem_of_getElem? (i := 1444) (by decide +kernel), List.mem_of_getElem? (i := 2427) (by decide +kernel), List.mem_of_getElem? (i := 2428) (by decide +kernel)⟩
theorem lw_p104 : lw_okq (⟨"SpillForgeModel", "weigh", "(LSpillForgeModel$Code;)V"⟩, 36) := ⟨⟨by decide +kernel, by decide +kernel⟩, List.mem_of_getElem? (i := 1430) (by decide +kernel), List.mem_of_getElem? (i := 2434) (by decide +kernel), List.mem_of_getElem? (i := 2435) (by decide +kernel)⟩
theorem lw_p105 : lw_okq (⟨"SpillForgeModel", "findDepth", "(LSpillForgeModel$Code;)V"⟩, 36) := ⟨⟨by decide +kernel, by decide +kernel⟩, List.mem_of_getElem? (i := 1430) (by decide +kernel), List.mem_of_getElem? (i := 2438) (by decide +kernel), List.mem_of_getElem? (i := 2439) (by decide +kernel)⟩
theorem lw_p106 : lw_okq (⟨"SpillForgeModel", "colours", "(I)I"⟩, 36) := ⟨⟨by decide +kernel, by decide +kernel⟩, List.mem_of_getElem? (i := 1430) (by decide +kernel), List.mem_of_getElem? (i := 2448) (by decide +kernel), List.mem_of_getElem? (i := 2449) (by decide +kernel)⟩
theorem lw_p107 : lw_okq (⟨"SpillForgeModel", "next", "(I)I"⟩, 36) := ⟨⟨by decide +kernel, by decide +kernel⟩, List.mem_of_getElem? (i := 1430) (by decide +kernel), List.mem_of_getElem? (i := 2452) (by decide +kernel), List.mem_of_getElem? (i := 2453) (by decide +kernel)⟩
theorem lw_p108 : lw_okq (⟨"SpillForgeModel", "coloured", "(LSpillForgeModel$Row;)V"⟩, 36) := ⟨⟨by decide +kernel, by decide +kernel⟩, List.mem_of_getElem? (i := 1430) (by decide +kernel), List.mem_of_getElem? (i := 2456) (by decide +kernel), List.mem_of_getElem? (i := 2457) (by decide +kernel)⟩
theorem lw_p109 : lw_okq (⟨"SpillForgeModel", "share", "(LSpillForgeModel$Code;)V"⟩, 36) := ⟨⟨by decide +kernel, by decide +kernel⟩, List.mem_of_getElem? (i := 1430) (by decide +kernel), List.mem_of_getElem? (i := 2460) (by decide +kernel), List.mem_of_getElem? (i := 2461) (by decide +kernel)⟩
theorem lw_p110 : lw_okq (⟨"SpillForgeModel", "spill", "(LSpillForgeModel$Code;)Z"⟩, 36) := ⟨⟨by decide +kernel, by decide +kernel⟩, List.mem_of_getElem? (i := 1430) (by decide +kernel), List.mem_of_getElem? (i := 2464) (by decide +kernel), List.mem_of_getElem? (i := 2465) (by decide +kernel)⟩
theorem lw_p111 : lw_okq (⟨"SpillForgeModel", "load", "(LSpillForgeModel$Code;LSpillForgeModel$Block;II)I"⟩, 36) := ⟨⟨by decide +kernel, by decide +kernel⟩, List.mem_of_getElem? (i := 1430) (by decide +kernel), List.mem_of_getElem? (i := 2468) (by decide +kernel), List.mem_of_getElem? (i := 2469) (by decide +kernel)⟩
def lw_privs_7 : List (MethodName × Nat) := [(⟨"SpillForgeModel", "back", "(LSpillForgeModel$Row;Z)V"⟩, 36), (⟨"java/util/ArrayList", "rangeCheckForAdd", "(I)V"⟩, 3), (⟨"java/util/ArrayList", "outOfBoundsMsg", "(I)Ljava/lang/String;"⟩, 3), (⟨"SpillForgeModel", "graph", "(LSpillForgeModel$Code;Z)V"⟩, 36), (⟨"SpillForgeModel", "stand", "(LSpillForgeModel$Row;Z)V"⟩, 36), (⟨"SpillForgeModel", "merge", "(LSpillForgeModel$Code;I)Z"⟩, 36), (⟨"SpillForgeModel", "mayMerge", "(III)Z"⟩, 36), (⟨"java/util/ArrayList", "fastRemove", "([Ljava/lang/Object;I)V"⟩, 3), (⟨"SpillForgeModel", "weigh", "(LSpillForgeModel$Code;)V"⟩, 36), (⟨"SpillForgeModel", "findDepth", "(LSpillForgeModel$Code;)V"⟩, 36), (⟨"SpillForgeModel", "colours", "(I)I"⟩, 36), (⟨"SpillForgeModel", "next", "(I)I"⟩, 36), (⟨"SpillForgeModel", "coloured", "(LSpillForgeModel$Row;)V"⟩, 36), (⟨"SpillForgeModel", "share", "(LSpillForgeModel$Code;)V"⟩, 36), (⟨"SpillForgeModel", "spill", "(LSpillForgeModel$Code;)Z"⟩, 36), (⟨"SpillForgeModel", "load", "(LSpillForgeModel$Code;LSpillForgeModel$Block;II)I"⟩, 36)]
theorem lw_r7 : ∀ q ∈ lw_privs_7, lw_okq q := List.forall_mem_cons.mpr ⟨lw_p96, List.forall_mem_cons.mpr ⟨lw_p97, List.forall_mem_cons.mpr ⟨lw_p98, List.forall_mem_cons.mpr ⟨lw_p99, List.forall_mem_cons.mpr ⟨lw_p100, List.forall_mem_cons.mpr ⟨lw_p101, List.forall_mem_cons.mpr ⟨lw_p102, List.forall_mem_cons.mpr ⟨lw_p103, List.forall_mem_cons.mpr ⟨lw_p104, List.forall_mem_cons.mpr ⟨lw_p105, List.forall_mem_cons.mpr ⟨lw_p106, List.forall_mem_cons.mpr ⟨lw_p107, List.forall_mem_cons.mpr ⟨lw_p108, List.forall_mem_cons.mpr ⟨lw_p109, List.forall_mem_cons.mpr ⟨lw_p110, List.forall_mem_cons.mpr ⟨lw_p111, fun _ h => absurd h List.not_mem_nil⟩⟩⟩⟩⟩⟩⟩⟩⟩⟩⟩⟩⟩⟩⟩⟩
theorem lw_p112 : lw_okq (⟨"SpillForgeModel", "colourCount", "()I"⟩, 36) := ⟨⟨by decide +kernel, by decide +kernel⟩, List.mem_of_getElem? (i := 1430) (by decide +kernel), List.mem_of_getElem? (i := 2476) (by decide +kernel), List.mem_of_getElem? (i := 2477) (by decide +kernel)⟩
theorem lw_p113 : lw_okq (⟨"SpillForgeModel", "run", "(LSpillForgeModel$Code;I)I"⟩, 36) := ⟨⟨by decide +kernel, by decide +kernel⟩, List.mem_of_getElem? (i := 1430) (by decide +kernel), List.mem_of_getElem? (i := 2493) (by decide +kernel), List.mem_of_getElem? (i := 2494) (by decide +kernel)⟩
theorem lw_p114 : lw_okq (⟨"SpillForgeModel", "step", "(LSpillForgeModel$Row;)I"⟩, 36) := ⟨⟨by decide +kernel, by decide +kernel⟩, List.mem_of_getElem? (i := 1430) (by decide +kernel), List.mem_of_getElem? (i := 2497) (by decide +kernel), List.mem_of_getElem? (i := 2498) (by decide +kernel)⟩
theorem lw_p115 : lw_okq (⟨"SpillForgeModel", "value", "(ZI)I"⟩, 36) := ⟨⟨by decide +kernel, by decide +kernel⟩, List.mem_of_getElem? (i := 1430) (by decide +kernel), List.mem_of_getElem? (i := 2501) (by decide +kernel), List.mem_of_getElem? (i := 2502) (by decide +kernel)⟩
theorem lw_p116 : lw_okq (⟨"SpillForgeModel", "list", "(LSpillForgeModel$Code;)V"⟩, 36) := ⟨⟨by decide +kernel, by decide +kernel⟩, List.mem_of_getElem? (i := 1430) (by decide +kernel), List.mem_of_getElem? (i := 2522) (by decide +kernel), List.mem_of_getElem? (i := 2523) (by decide +kernel)⟩
theorem lw_p117 : lw_okq (⟨"SpillForgeModel", "list", "(LSpillForgeModel$Row;)V"⟩, 36) := ⟨⟨by decide +kernel, by decide +kernel⟩, List.mem_of_getElem? (i := 1430) (by decide +kernel), List.mem_of_getElem? (i := 2589) (by decide +kernel), List.mem_of_getElem? (i := 2590) (by decide +kernel)⟩
theorem lw_p118 : lw_okq (⟨"SpillForgeModel", "operand", "(ZI)V"⟩, 36) := ⟨⟨by decide +kernel, by decide +kernel⟩, List.mem_of_getElem? (i := 1430) (by decide +kernel), List.mem_of_getElem? (i := 2597) (by decide +kernel), List.mem_of_getElem? (i := 2598) (by decide +kernel)⟩
theorem lw_p119 : lw_okq (⟨"SpillForgeModel", "sign", "(I)V"⟩, 36) := ⟨⟨by decide +kernel, by decide +kernel⟩, List.mem_of_getElem? (i := 1430) (by decide +kernel), List.mem_of_getElem? (i := 2601) (by decide +kernel), List.mem_of_getElem? (i := 2602) (by decide +kernel)⟩
def lw_privs_8 : List (MethodName × Nat) := [(⟨"SpillForgeModel", "colourCount", "()I"⟩, 36), (⟨"SpillForgeModel", "run", "(LSpillForgeModel$Code;I)I"⟩, 36), (⟨"SpillForgeModel", "step", "(LSpillForgeModel$Row;)I"⟩, 36), (⟨"SpillForgeModel", "value", "(ZI)I"⟩, 36), (⟨"SpillForgeModel", "list", "(LSpillForgeModel$Code;)V"⟩, 36), (⟨"SpillForgeModel", "list", "(LSpillForgeModel$Row;)V"⟩, 36), (⟨"SpillForgeModel", "operand", "(ZI)V"⟩, 36), (⟨"SpillForgeModel", "sign", "(I)V"⟩, 36)]
theorem lw_r8 : ∀ q ∈ lw_privs_8, lw_okq q := List.forall_mem_cons.mpr ⟨lw_p112, List.forall_mem_cons.mpr ⟨lw_p113, List.forall_mem_cons.mpr ⟨lw_p114, List.forall_mem_cons.mpr ⟨lw_p115, List.forall_mem_cons.mpr ⟨lw_p116, List.forall_mem_cons.mpr ⟨lw_p117, List.forall_mem_cons.mpr ⟨lw_p118, List.forall_mem_cons.mpr ⟨lw_p119, fun _ h => absurd h List.not_mem_nil⟩⟩⟩⟩⟩⟩⟩⟩
def lw_privs : List (MethodName × Nat) := lw_privs_1 ++ (lw_privs_2 ++ (lw_privs_3 ++ (lw_privs_4 ++ (lw_privs_5 ++ (lw_privs_6 ++ (lw_privs_7 ++ (lw_privs_8)))))))
def lw_tbl : List Cond := k2_sels lw_privs ++ tables_1
theorem lw_privs_ok : ∀ q ∈ lw_privs, lw_okq q := by
  show ∀ q ∈ lw_privs_1 ++ (lw_privs_2 ++ (lw_privs_3 ++ (lw_privs_4 ++ (lw_privs_5 ++ (lw_privs_6 ++ (lw_privs_7 ++ (lw_privs_8))))))), lw_okq q
  exact List.forall_mem_append.mpr ⟨lw_r1, List.forall_mem_append.mpr ⟨lw_r2, List.forall_mem_append.mpr ⟨lw_r3, List.forall_mem_append.mpr ⟨lw_r4, List.forall_mem_append.mpr ⟨lw_r5, List.forall_mem_append.mpr ⟨lw_r6, List.forall_mem_append.mpr ⟨lw_r7, lw_r8⟩⟩⟩⟩⟩⟩⟩
end
section
/-! An exception that is caught by a row of the method's own table, the rows' classes resolved or not (own proof; the law beside the names asks one of the shelf that rounds don't have). -/
/-- one row that covers the place and links to a class: it takes the object, or the search goes on; the entry is noted either way -/
theorem gc_row {Q : Handler → Pre} {E : CtlPost} {e : Env} {d : Bool} {acts : List Action} {S : State} {f : JFrame} {a : Addr} {y : ExceptionTableEntry} {t : List ExceptionTableEntry} {k : ClassId} {cell : Cell}
    (hy : covers y f.pc = true) (h0 : y.catchType ≠ 0) (hl : S.vm.ClassLinks e.platform f.method.cls y.catchType k) (hcell : S.heap[a]? = some cell) (hobj : ∀ z, cell.vm ≠ .statics z)
    (h1 : ∃ z, S.vm.classes[cell.cls]? = some z) (h2 : ∃ z, S.vm.classes[k]? = some z) :
    wp (findHandler.go f a (y :: t)) Q E e d acts S ↔
      if S.vm.assignable cell.cls k = true then Q (.found y.handlerPc) d acts (S.setVm (S.vm.noted f.method.cls y.catchType (.cls k)))
      else wp (findHandler.go f a t) Q E e d acts (S.setVm (S.vm.noted f.method.cls y.catchType (.cls k))) := by
  simp only [covers] at hy
  have hal : S.vm.Alike (S.vm.noted f.method.cls y.catchType (.cls k)) := (Vm.Alike.refl S.vm).noted _ _ _
  obtain ⟨op1, op2⟩ := (resolveClass_links e.toSetting hl).op (op := VmOp.resolveClass f.method.cls y.catchType) rfl
  obtain ⟨z1, e1⟩ := h1
  obtain ⟨z2, e2⟩ := h2
  obtain ⟨w1, g1, -⟩ := hal.2.2 _ _ e1
  obtain ⟨w2, g2, -⟩ := hal.2.2 _ _ e2
  have hq : (S.vm.noted f.method.cls y.catchType (.cls k)).assignable cell.cls k = S.vm.assignable cell.cls k := by rw [hal.assignable]
  cases hb : S.vm.assignable cell.cls k
  · rw [hb] at hq
    simp [findHandler.go, hy, h0, op1, op2, hcell, hobj, g1, g2, hq, VmOp.dirties, VmOp.acts]
  · rw [hb] at hq
    simp [findHandler.go, hy, h0, op1, op2, hcell, hobj, g1, g2, hq, VmOp.dirties, VmOp.acts]
/-- a row that doesn't take an object of the class th -/
def gc_pass (pl : Platform) (s0 : State) (own : ClassId) (pc : Nat) (th : ClassId) (y : ExceptionTableEntry) : Prop :=
  covers y pc = true → y.catchType ≠ 0 ∧ ∃ k, s0.vm.ClassLinks pl own y.catchType k ∧ s0.vm.assignable th k = false
theorem gc_find {e : Env} {s0 : State} {f : JFrame} {a : Addr} {cell : Cell} {x : ExceptionTableEntry} {rest : List ExceptionTableEntry} {k0 : ClassId} (hobj : ∀ z, cell.vm ≠ .statics z) (hc0 : ∃ z, s0.vm.classes[cell.cls]? = some z)
    (hx : covers x f.pc = true) (h0 : x.catchType ≠ 0) (hl : s0.vm.ClassLinks e.platform f.method.cls x.catchType k0) (hfit : s0.vm.assignable cell.cls k0 = true) (pre : List ExceptionTableEntry) :
    ∀ S : State, s0.WarmedH S.vm → S.heap[a]? = some cell → (∀ y ∈ pre, gc_pass e.platform s0 f.method.cls f.pc cell.cls y) →
      ∃ vm', s0.WarmedH vm' ∧ ∀ (Q : Handler → Pre) (E : CtlPost) (d : Bool) (acts : List Action), wp (findHandler.go f a (pre ++ x :: rest)) Q E e d acts S ↔ Q (.found x.handlerPc) d acts (S.setVm vm') := by
  obtain ⟨zc, hzc⟩ := hc0
  have step : ∀ (S : State) (y : ExceptionTableEntry) (k : ClassId), s0.WarmedH S.vm → s0.vm.ClassLinks e.platform f.method.cls y.catchType k →
      s0.WarmedH (S.vm.noted f.method.cls y.catchType (.cls k)) ∧ S.vm.ClassLinks e.platform f.method.cls y.catchType k ∧ (∃ z, S.vm.classes[cell.cls]? = some z) ∧ (∃ z, S.vm.classes[k]? = some z) ∧ S.vm.assignable cell.cls k = s0.vm.assignable cell.cls k := by
    intro S y k hW hk
    obtain ⟨dk, _, _, kt, hd, _, _, _, _, hkt, _, hopen⟩ := hk.here
    obtain ⟨q1, g1, -⟩ := hW.alike.2.2 _ _ hzc
    obtain ⟨q2, g2, -⟩ := hW.alike.2.2 _ _ hkt
    exact ⟨hW.noted hd hopen (State.rightAt_cls hk), hW.classLinks hk, ⟨q1, g1⟩, ⟨q2, g2⟩, by rw [hW.alike.assignable]⟩
  induction pre with
  | nil =>
    intro S hW hcell _
    obtain ⟨w1, w2, w3, w4, w5⟩ := step S x k0 hW hl
    refine ⟨_, w1, fun Q E d acts => ?_⟩
    rw [List.nil_append, gc_row hx h0 w2 hcell hobj w3 w4, if_pos (w5.trans hfit)]
  | cons y ys ih =>
    intro S hW hcell hp
    have hp' : ∀ z ∈ ys, gc_pass e.platform s0 f.method.cls f.pc cell.cls z := fun z hz => hp z (List.mem_cons_of_mem _ hz)
    cases hc : covers y f.pc
    · obtain ⟨vm', h1, h2⟩ := ih S hW hcell hp'
      refine ⟨vm', h1, fun Q E d acts => ?_⟩
      rw [List.cons_append, W.findHandler_go_skip hc]
      exact h2 Q E d acts
    · obtain ⟨g0, k, g1, g2⟩ := hp y List.mem_cons_self hc
      obtain ⟨w1, w2, w3, w4, w5⟩ := step S y k hW g1
      obtain ⟨vm', h1, h2⟩ := ih (S.setVm (S.vm.noted f.method.cls y.catchType (.cls k))) w1 hcell hp'
      refine ⟨vm', h1, fun Q E d acts => ?_⟩
      rw [List.cons_append, gc_row hc g0 w2 hcell hobj w3 w4, if_neg (by rw [w5, g2]; decide)]
      exact h2 Q E d acts
section GC
variable {p : Program} {l : Launch} {e : Env} {R : Room} {s : State} {m : MethodId} {args : Array Value} {below : List Frame} {meth : Method} {c : Code} {H : Heap} {locs : List Loc} {cells slots : Nat} {Q : State → Prop} {pc : Nat} {ls : Array Slot} {rest : List Value}
/-- the machine's step into the handler -/
theorem gc_steps {T : State} {g : JFrame} {q : Addr} (h : At T g.method c below) {hp : Nat} {vm' : Vm}
    (hf : ∀ (Q : Handler → Pre) (E : CtlPost) (d : Bool) (acts : List Action), wp (findHandler g q) Q E e d acts ((T.setTop g).pushFrame (.throwing q)) ↔ Q (.found hp) d acts (((T.setTop g).pushFrame (.throwing q)).setVm vm')) {target : State}
    (hrest : Steps p.tables e below ((T.setVm vm').setTop { g with pc := hp, stack := [.ref q] }) target) : Steps p.tables e below ((T.setTop g).pushFrame (.throwing q)) target := by
  obtain ⟨hgo, hw⟩ := h.throwing q
  refine Steps.head hgo hw ?_
  have hone : ∀ (r : List Frame), (stepThrowing e ((T.setTop g).pushFrame (.throwing q)) q (.java g :: r)).1 = (((T.setTop g).pushFrame (.throwing q)).setVm vm').setFrames (.java { g with pc := hp, stack := [.ref q] } :: r) := by
    intro r
    simp only [stepThrowing, searchFrame, vmDo]
    generalize hr : Sem.go _ e false [] ((T.setTop g).pushFrame (.throwing q)) = res
    obtain ⟨as, rfl, ha⟩ := Sem.eq_ok_of hr (a := Handler.found hp) (s' := ((T.setTop g).pushFrame (.throwing q)).setVm vm') (acts' := []) (by simp [hf _ _ _ _])
    rfl
  rw [stepThread_throwing (frames_entered h.top _), hone]
  obtain ⟨g0, hg⟩ := Option.isSome_iff_exists.mp h.top
  obtain ⟨r, hr⟩ := State.topJava?_eq_some.mp hg
  have hr' : (T.setVm vm').frames = .java g0 :: r := hr
  rw [State.setTop_of_frames _ hr'] at hrest
  rw [hr]
  have e1 : (((T.setTop g).pushFrame (.throwing q)).setVm vm').setFrames (.java { g with pc := hp, stack := [.ref q] } :: r) = (T.setVm vm').setFrames (.java { g with pc := hp, stack := [.ref q] } :: r) := by
    rw [State.setTop_of_frames _ hr, State.pushFrame]
    show (((T.setFrames _).setFrames _).setFrames _).setVm vm' = (T.setFrames _).setVm vm'
    rw [State.setFrames_setFrames, State.setFrames_setFrames]
  first | (rw [e1]; exact hrest) | (simp only [List.tail_cons]; rw [e1]; exact hrest)
end GC
end
section
/-! 'new T[n][k]' as one instruction (own proof): the outer array at the old end of the heap, then n rows of k places. -/
def gm_in (cI : ClassId) (K : Nat) (dv : Value) : Cell := { cls := cI, slots := Array.replicate K dv, vm := .none }
/-- the outer array of N places at h0, i of them filled -/
def gm_out (cO : ClassId) (N h0 i : Nat) : Cell := { cls := cO, slots := Array.ofFn (n := N) (fun j => if j.val < i then Value.ref (h0 + 1 + j.val) else Value.null), vm := .none }
/-- T with such an outer array and j rows behind its heap -/
def gm_st (T : State) (cO cI : ClassId) (N K : Nat) (dv : Value) (i j : Nat) : State := { T with heap := T.heap.push (gm_out cO N T.heap.size i) ++ Array.replicate j (gm_in cI K dv), slotsUsed := T.slotsUsed + N + j * K }
theorem gm_out_size (cO : ClassId) (N h0 i : Nat) : (gm_out cO N h0 i).slots.size = N := by simp [gm_out]
theorem gm_out_0 (cO : ClassId) (N h0 : Nat) : gm_out cO N h0 0 = { cls := cO, slots := Array.replicate N .null, vm := .none } := by
  unfold gm_out
  congr 1
  apply Array.ext
  · simp
  · intro i h1 h2
    simp
theorem gm_out_set (cO : ClassId) (N h0 : Nat) {i : Nat} (hi : i < N) : (gm_out cO N h0 i).setSlot i (.ref (h0 + 1 + i)) = gm_out cO N h0 (i + 1) := by
  unfold gm_out Cell.setSlot
  congr 1
  apply Array.ext_getElem?
  intro j
  rw [Array.getElem?_setIfInBounds]
  simp only [Array.getElem?_ofFn, Array.size_ofFn]
  by_cases e : i = j
  · subst e
    simp [hi]
  · rw [if_neg e]
    by_cases hj : j < N
    · rw [dif_pos hj, dif_pos hj]
      by_cases q : j < i
      · rw [if_pos q, if_pos (by omega)]
      · rw [if_neg q, if_neg (by omega)]
    · rw [dif_neg hj, dif_neg hj]
theorem gm_st_new (T : State) (cO cI : ClassId) (N K : Nat) (dv : Value) (i : Nat) : T.pushCell (gm_out cO N T.heap.size i) = gm_st T cO cI N K dv i 0 := by
  unfold gm_st State.pushCell
  rw [gm_out_size]
  simp
theorem gm_st_push (T : State) (cO cI : ClassId) (N K : Nat) (dv : Value) (i j : Nat) : (gm_st T cO cI N K dv i j).pushCell (gm_in cI K dv) = gm_st T cO cI N K dv i (j + 1) := by
  unfold gm_st State.pushCell
  have h1 : (gm_in cI K dv).slots.size = K := by simp [gm_in]
  have h2 : (T.heap.push (gm_out cO N T.heap.size i) ++ Array.replicate j (gm_in cI K dv)).push (gm_in cI K dv) = T.heap.push (gm_out cO N T.heap.size i) ++ Array.replicate (j + 1) (gm_in cI K dv) := by
    rw [Array.replicate_succ, Array.append_push]
  show ({ T with heap := _, slotsUsed := _ } : State) = { T with heap := _, slotsUsed := _ }
  rw [h2, h1, Nat.succ_mul, Nat.add_assoc (T.slotsUsed + N)]
theorem gm_st_set (T : State) (cO cI : ClassId) (N K : Nat) (dv : Value) {i : Nat} (j : Nat) (hi : i < N) : (gm_st T cO cI N K dv i j).setCell T.heap.size ((gm_out cO N T.heap.size i).setSlot i (.ref (T.heap.size + 1 + i))) = gm_st T cO cI N K dv (i + 1) j := by
  rw [gm_out_set cO N T.heap.size hi]
  unfold gm_st State.setCell
  have h2 : (T.heap.push (gm_out cO N T.heap.size i) ++ Array.replicate j (gm_in cI K dv)).setIfInBounds T.heap.size (gm_out cO N T.heap.size (i + 1)) = T.heap.push (gm_out cO N T.heap.size (i + 1)) ++ Array.replicate j (gm_in cI K dv) := by
    apply Array.ext_getElem?
    intro q
    rw [Array.getElem?_setIfInBounds]
    by_cases e : T.heap.size = q
    · subst e
      rw [if_pos rfl, Array.getElem?_append_left (by simp)]
      simp
      omega
    · rw [if_neg e]
      by_cases a : q < T.heap.size
      · rw [Array.getElem?_append_left (by simp; omega), Array.getElem?_append_left (by simp; omega), Array.getElem?_push, Array.getElem?_push]
        rw [if_neg (by omega), if_neg (by omega)]
      · rw [Array.getElem?_append_right (by simp; omega), Array.getElem?_append_right (by simp; omega)]
        simp
  show ({ T with heap := _, slotsUsed := _ } : State) = { T with heap := _, slotsUsed := _ }
  rw [h2]
theorem gm_st_size (T : State) (cO cI : ClassId) (N K : Nat) (dv : Value) (i j : Nat) : (gm_st T cO cI N K dv i j).heap.size = T.heap.size + 1 + j := by
  simp [gm_st]
theorem gm_st_outer (T : State) (cO cI : ClassId) (N K : Nat) (dv : Value) (i j : Nat) : (gm_st T cO cI N K dv i j).heap[T.heap.size]? = some (gm_out cO N T.heap.size i) := by
  show (T.heap.push (gm_out cO N T.heap.size i) ++ Array.replicate j (gm_in cI K dv))[T.heap.size]? = _
  rw [Array.getElem?_append_left (by simp)]
  simp
theorem gm_st_inner (T : State) (cO cI : ClassId) (N K : Nat) (dv : Value) (i j : Nat) {q : Nat} (hq : q < j) : (gm_st T cO cI N K dv i j).heap[T.heap.size + 1 + q]? = some (gm_in cI K dv) := by
  show (T.heap.push (gm_out cO N T.heap.size i) ++ Array.replicate j (gm_in cI K dv))[T.heap.size + 1 + q]? = _
  rw [Array.getElem?_append_right (by simp)]
  simp [hq]
theorem gm_st_old (T : State) (cO cI : ClassId) (N K : Nat) (dv : Value) (i j : Nat) {q : Nat} (hq : q < T.heap.size) : (gm_st T cO cI N K dv i j).heap[q]? = T.heap[q]? := by
  show (T.heap.push (gm_out cO N T.heap.size i) ++ Array.replicate j (gm_in cI K dv))[q]? = _
  rw [Array.getElem?_append_left (by simp; omega), Array.getElem?_push_lt hq]
  simp [hq]

section GM
variable {E : CtlPost} {e : Env} {d : Bool} {acts : List Action} {S : State}
/-- one array of default values -/
theorem gm_wpNew {cA comp : ClassId} {k : Class} {ty : FieldType} {n : Nat} {v : Value} (hk : S.vm.classes[cA]? = some k) (hkd : k.kind = .array comp ty) (hv : fits ty v = true) (hv2 : v.isDefault = true)
    (hlim : n ≤ e.platform.arrayLengthLimit) (hbytes : n * componentBytes ty ≤ e.platform.maxHeapBytes) (hc : S.heap.size < e.platform.maxCells) (hs : S.slotsUsed + n ≤ e.platform.maxSlots) {Q : Addr → Pre}
    (hq : Q S.heap.size d acts (S.pushCell { cls := cA, slots := Array.replicate n v, vm := .none })) : wp (Jvm.newArray cA n v) Q E e d acts S := by
  have h1 : ∀ i w, (Array.replicate n v)[i]? = some w → S.fitsSlot cA .none i w = true := by
    intro i w hw
    rw [Array.getElem?_replicate] at hw
    split at hw
    · cases hw
      simp [State.fitsSlot, State.slotType?, hk, hkd, hv]
    · cases hw
  have h2 : allocActs (Array.replicate n v) S.heap.size acts = acts := by
    unfold allocActs
    rw [if_pos]
    rw [Array.all_replicate]
    split <;> simp [hv2]
  have a1 : ¬ n > e.platform.arrayLengthLimit := by omega
  have a2 : ¬ n * componentBytes ty > e.platform.maxHeapBytes := by omega
  simp only [Jvm.newArray, Jvm.arrayFits, wp_bind', W.ask, W.ite, a1, if_false, wp_pure', W.theClass, hk, hkd, a2, W.alloc, W.stop, Option.some.injEq, exists_eq_left', Array.size_replicate, h2]
  rw [if_neg (by omega)]
  exact ⟨hc, hs, h1, hq⟩
theorem gm_refFits {t : FieldType} (h : t.isReference = true) {v : Value} (hv : v = .null ∨ ∃ a, v = .ref a) : fits t v = true := by
  rcases hv with rfl | ⟨a, rfl⟩ <;> cases t <;> first | (cases h; done) | rfl
theorem gm_wpRow {cI cz : ClassId} {k : Class} {ty : FieldType} {w : Int32} (hk : S.vm.classes[cI]? = some k) (hkd : k.kind = .array cz ty) (hw : ¬ w < 0) (hv : fits ty (defaultValue ty) = true) (hv2 : (defaultValue ty).isDefault = true)
    (hlim : w.toNatClampNeg ≤ e.platform.arrayLengthLimit) (hbytes : w.toNatClampNeg * componentBytes ty ≤ e.platform.maxHeapBytes) (hc : S.heap.size < e.platform.maxCells) (hs : S.slotsUsed + w.toNatClampNeg ≤ e.platform.maxSlots) {Q : Addr → Pre}
    (hq : Q S.heap.size d acts (S.pushCell (gm_in cI w.toNatClampNeg (defaultValue ty)))) : wp (multianewarray.make cI [w]) Q E e d acts S := by
  rw [multianewarray.make]
  simp only [wp_bind', W.ite, hw, if_false, wp_pure', W.theClass, hk, hkd, Option.some.injEq, exists_eq_left']
  exact gm_wpNew hk hkd hv hv2 hlim hbytes hc hs hq
theorem gm_wpMake {cO cI cz : ClassId} {kO kI : Class} {tO ty : FieldType} {n w : Int32} (hkO : S.vm.classes[cO]? = some kO) (hdO : kO.kind = .array cI tO) (hr : tO.isReference = true) (hkI : S.vm.classes[cI]? = some kI) (hdI : kI.kind = .array cz ty)
    (hn : ¬ n < 0) (hw : ¬ w < 0) (hv : fits ty (defaultValue ty) = true) (hv2 : (defaultValue ty).isDefault = true)
    (hlim : n.toNatClampNeg ≤ e.platform.arrayLengthLimit) (hbytes : n.toNatClampNeg * componentBytes tO ≤ e.platform.maxHeapBytes) (hlim2 : w.toNatClampNeg ≤ e.platform.arrayLengthLimit) (hbytes2 : w.toNatClampNeg * componentBytes ty ≤ e.platform.maxHeapBytes)
    (hc : S.heap.size + 1 + n.toNatClampNeg ≤ e.platform.maxCells) (hs : S.slotsUsed + n.toNatClampNeg + n.toNatClampNeg * w.toNatClampNeg ≤ e.platform.maxSlots) {Q : Addr → Pre}
    (hq : ∀ d' acts', Q S.heap.size d' acts' (gm_st S cO cI n.toNatClampNeg w.toNatClampNeg (defaultValue ty) n.toNatClampNeg n.toNatClampNeg)) : wp (multianewarray.make cO [n, w]) Q E e d acts S := by
  have hfind : ([w].find? (· < 0)) = none := by simp [hw]
  generalize hN : n.toNatClampNeg = N at *
  generalize hK : w.toNatClampNeg = K at *
  rw [multianewarray.make]
  simp only [wp_bind', W.ite, hn, if_false, wp_pure', W.theClass, hkO, hdO, Option.some.injEq, exists_eq_left', hN]
  refine gm_wpNew hkO hdO (gm_refFits hr (Or.inl rfl)) rfl hlim hbytes (by omega) (by omega) ?_
  simp only [hfind]
  rw [ite_self, wp_bind', Std.Legacy.Range.forIn_eq_forIn_range']
  have hsz : ([:N] : Std.Legacy.Range).size = N := by simp [Std.Legacy.Range.size]
  rw [hsz]
  show wp (forIn (List.range' 0 N 1) PUnit.unit _) _ E e d acts _
  rw [← gm_out_0 cO N S.heap.size, gm_st_new S cO cI N K (defaultValue ty) 0]
  refine wp_forIn_inv (fun rest s' => ∃ i, i ≤ N ∧ rest = List.range' i (N - i) ∧ s' = gm_st S cO cI N K (defaultValue ty) i i) _ _ ⟨0, Nat.zero_le _, rfl, rfl⟩ ?_ ?_
  · rintro x rest s' d' acts' Q' ⟨i, hi, hl, rfl⟩ hnext
    rcases Nat.lt_or_ge i N with hlt | hge
    · rw [show N - i = (N - (i + 1)) + 1 from by omega, List.range'_succ] at hl
      obtain ⟨rfl, hrest⟩ := List.cons.inj hl
      have hmul : x * K + K ≤ N * K := by
        have h9 := Nat.mul_le_mul_right K (show x + 1 ≤ N from hlt)
        rw [Nat.succ_mul] at h9
        exact h9
      have z1 : (gm_st S cO cI N K (defaultValue ty) x x).heap.size = S.heap.size + 1 + x := gm_st_size ..
      have z2 : (gm_st S cO cI N K (defaultValue ty) x x).slotsUsed = S.slotsUsed + N + x * K := rfl
      simp only [wp_bind']
      refine gm_wpRow (S := gm_st S cO cI N K (defaultValue ty) x x) (k := kI) hkI hdI hw hv hv2 (by rw [hK]; exact hlim2) (by rw [hK]; exact hbytes2) (by rw [z1]; omega) (by rw [z2, hK]; omega) ?_
      simp only [wp_bind', W.writeLoc, wp_pure']
      rw [hK, gm_st_push, z1]
      refine ⟨gm_out cO N S.heap.size x, gm_st_outer .., by simp [gm_out], by rw [gm_out_size]; exact hlt, ?_, hnext _ _ _ ⟨x + 1, hlt, hrest, ?_⟩⟩
      · show State.fitsSlot _ cO .none x _ = true
        simp [State.fitsSlot, State.slotType?, show (gm_st S cO cI N K (defaultValue ty) x (x + 1)).vm = S.vm from rfl, hkO, hdO, gm_refFits hr (Or.inr ⟨_, rfl⟩)]
      · exact gm_st_set S cO cI N K (defaultValue ty) (x + 1) hlt
    · rw [show N - i = 0 from by omega] at hl
      cases hl
  · rintro s' d' acts' ⟨i, hi, hl, rfl⟩
    have hiN : i = N := by
      rcases Nat.lt_or_ge i N with h | h
      · rw [show N - i = (N - (i + 1)) + 1 from by omega, List.range'_succ] at hl
        cases hl
      · omega
    subst hiN
    simp only [wp_pure']
    exact hq _ _
end GM
end
section
/-! the row of 'multianewarray' of two dimensions -/
theorem gm_over {args : Array Value} {first s : State} {o : Option Outcome} {idx : List Nat} {t : FieldType} (h : (Cond.arrayOver (.array t)).holds args first o s idx = true) :
    ∃ cI cO k, s.vm.findClass (FieldType.array t).toString = some cI ∧ s.vm.findClass ("[" ++ (FieldType.array t).toString) = some cO ∧ s.vm.classes[cO]? = some k ∧ k.kind = .array cI (.array t) := by
  simp only [Cond.holds, Cond.value, beq_iff_eq] at h
  cases hc : s.vm.findClass (FieldType.array t).toString with
  | none => simp [hc] at h
  | some cI =>
    simp only [hc, Option.bind_some, Option.bind_eq_some_iff, Option.map_eq_some_iff] at h
    obtain ⟨cO, h1, k, h2, h3⟩ := h
    obtain ⟨hlt, hp, -⟩ := Array.findIdx?_eq_some_iff_getElem.mp h1
    have hq : s.vm.classes[cO] = k := (Array.getElem?_eq_some_iff.mp h2).2
    rw [hq] at hp
    cases hk : k.kind with
    | array comp ty =>
      rw [hk] at h3 hp
      simp at h3 hp
      exact ⟨cI, cO, k, rfl, h3.2, h2, by rw [hk, hp, h3.1]⟩
    | _ => rw [hk] at h3; simp at h3
section GMR
variable {p : Program} {l : Launch} {e : Env} {R : Room} {s : State} {m : MethodId} {args : Array Value} {below : List Frame} {meth : Method} {c : Code} {H : Heap} {locs : List Loc} {cells slots : Nat} {Q : State → Prop}
theorem gm_rows (cO cI : ClassId) (N K : Nat) (dv : Value) (i : Nat) {T : State} (X : Stand p l e R s m args below meth c T locs cells slots) : ∀ j : Nat, Stand p l e R s m args below meth c (gm_st T cO cI N K dv i j) locs (cells + 1 + j) (slots + N + j * K) := by
  intro j
  induction j with
  | zero =>
    have h := X.pushed (gm_out cO N T.heap.size i)
    rw [gm_out_size, gm_st_new T cO cI N K dv i] at h
    simpa using h
  | succ j ih =>
    have h := ih.pushed (gm_in cI K dv)
    rw [gm_st_push, show (gm_in cI K dv).slots.size = K from by simp [gm_in]] at h
    have e1 : cells + 1 + (j + 1) = cells + 1 + j + 1 := by omega
    have e2 : slots + N + (j + 1) * K = slots + N + j * K + K := by rw [Nat.succ_mul]; omega
    rw [e1, e2]
    exact h
theorem gm_st_top (T : State) (g : JFrame) (cO cI : ClassId) (N K : Nat) (dv : Value) (i j : Nat) : gm_st (T.setTop g) cO cI N K dv i j = (gm_st T cO cI N K dv i j).setTop g := by
  unfold gm_st
  rw [State.heap_setTop]
  simp only [State.setTop, State.modifyTopJava, State.frames, State.setFrames]
theorem gm_mna {cc : ByteArray} {pc : Nat} {ls : Array Slot} {rest : List Value} (hexec : p.tables.exec = Jvm.exec) (hb : c.code = cc) {own : String} {index : Nat} {ty : FieldType} (hown : s.vm.findClass own = some m.cls)
    (hcl : (Cond.classLink own index ("[" ++ (FieldType.array ty).toString)).before args s = true) (hov : (Cond.arrayOver (.array ty)).before args s = true) (har : (Cond.arrayClass ty).before args s = true)
    {n w : Int32} {N K : Nat} (hN : n.toNatClampNeg = N) (hK : w.toNatClampNeg = K) (hn : ¬ n < 0) (hw : ¬ w < 0) (hb1 : N * 4 ≤ 536870912) (hb2 : K * componentBytes ty ≤ 536870912) (hb3 : K ≤ 536870912)
    (hv : fits ty (defaultValue ty) = true) (hv2 : (defaultValue ty).isDefault = true) (hcells : cells + (1 + N) ≤ R.cells) (hslots : slots + (N + N * K) ≤ R.slots) (hdg : decode cc pc = .ok (.multianewarray index 2, 4))
    (kk : ∀ (cO cI cz : ClassId) (kO kI : Class), s.vm.findClass ("[" ++ (FieldType.array ty).toString) = some cO → s.vm.findClass (FieldType.array ty).toString = some cI → s.vm.classes[cO]? = some kO → kO.kind = .array cI (.array ty) → s.vm.classes[cI]? = some kI → kI.kind = .array cz ty →
      W p l e R s m args below meth c (H.push (gm_out cO N H.size N) ++ Array.replicate N (gm_in cI K (defaultValue ty))) locs (cells + 1 + N) (slots + N + N * K) Q (F0 m (pc + 4) ls (.ref H.size :: rest))) :
    W p l e R s m args below meth c H locs cells slots Q (F0 m pc ls (.int w :: .int n :: rest)) := by
  intro T hT X
  subst hT
  have hpl : e.platform.magicAccessors = ({} : Platform).magicAccessors := by rw [X.admits.platform]
  obtain ⟨cI, cO, kO, fI, fO, hkO, hdO⟩ := gm_over hov
  obtain ⟨cI2, kI, cz, fI2, hkI, hdI⟩ := Cond.arrayClass_spec har
  have eI : cI2 = cI := Option.some.inj (fI2.symm.trans fI)
  subst eI
  obtain ⟨c0, f0, hln⟩ := Cond.classLink_spec hown hcl e.platform hpl
  have eO : c0 = cO := Option.some.inj (f0.symm.trans fO)
  subst eO
  obtain ⟨dk, _, _, _, hd, _, _, _, _, _, _, hres⟩ := hln.here
  have hgv := resolveClass_links e.toSetting (X.warmed.classLinks hln)
  have hwm : s.WarmedH (T.vm.noted m.cls index (.cls c0)) := X.warmed.noted hd hres (State.rightAt_cls hln)
  generalize hvm : T.vm.noted m.cls index (.cls c0) = vm1 at hgv hwm
  obtain ⟨kO1, hkO1, eO1⟩ := hwm.alike.2.2 _ _ hkO
  obtain ⟨kI1, hkI1, eI1⟩ := hwm.alike.2.2 _ _ hkI
  have X1 := X.noted hwm
  obtain ⟨r1, r2⟩ := X.roomAbove hcells hslots
  have XF := gm_rows c0 cI2 N K (defaultValue ty) N X1 N
  obtain ⟨t, a1, b1⟩ := kk c0 cI2 cz kO kI fO fI hkO hdO hkI hdI (gm_st (T.setVm vm1) c0 cI2 N K (defaultValue ty) N N) rfl XF
  refine ⟨t, ?_, b1⟩
  have hdg' : decode c.code (F0 m pc ls (.int w :: .int n :: rest)).pc = .ok (.multianewarray index 2, 4) := by rw [hb]; exact hdg
  generalize hg : (F0 m pc ls (.int w :: .int n :: rest)) = g at hdg' ⊢
  have hgm : g.method = m := by rw [← hg]
  have hst : g.stack = .int w :: .int n :: rest := by rw [← hg]
  have hg2 : F0 m (pc + 4) ls (.ref T.heap.size :: rest) = { g with pc := g.pc + 4, stack := .ref T.heap.size :: rest } := by rw [← hg]
  rw [hg2] at a1
  subst hgm
  jvm_step X.here [hexec, hdg']
  simp only [multianewarray.sem, wp_bind', W.resolveClassAt_links (State.method?_setTop g X.here.top) hgv]
  rw [W.popN, if_neg (by decide)]
  refine ⟨g, State.topJava?_setTop' (s := T.setVm vm1) g X.here.top, [.int n, .int w], rest, rfl, hst, ?_⟩
  simp only [List.mapM_cons, List.mapM_nil, wp_bind', wp_pure']
  refine gm_wpMake (kO := kO1) (kI := kI1) (cI := cI2) (cz := cz) (tO := .array ty) (ty := ty) hkO1 (by rw [eO1]; exact hdO) rfl hkI1 (by rw [eI1]; exact hdI) hn hw hv hv2 (by rw [Launch.admits_arrayLengthLimit X.admits]; omega) (by rw [Launch.admits_maxHeapBytes X.admits, hN]; exact hb1) (by rw [Launch.admits_arrayLengthLimit X.admits]; omega) (by rw [Launch.admits_maxHeapBytes X.admits, hK]; exact hb2) (by rw [hN]; show T.heap.size + 1 + N ≤ _; omega) (by rw [hN, hK]; show T.slotsUsed + N + N * K ≤ _; omega) (fun d' acts' => ?_)
  rw [hN, hK]
  have eS : ((T.setTop g).setVm vm1).setTop { g with stack := rest } = (T.setVm vm1).setTop { g with stack := rest } := by
    show ((T.setVm vm1).setTop g).setTop _ = _
    rw [State.setTop_setTop]
  rw [eS, gm_st_top]
  simp only [wp_bind', W.mark, W.pushRef, State.topJava?_setTop' _ XF.here.top, Option.some.injEq, exists_eq_left', State.setTop_setTop, State.heap_setTop]
  intro acts
  simp [jvm, XF.here.top]
  exact a1
end GMR
end
section
/-! ===== BEGIN words of one list among another's, by their places ===== -/
theorem goodIn_r {big : List Cond} (ws : List Cond) (ps : List Nat) (hp : ws = ps.filterMap (fun i => big[i]?)) (h : ws.all goodWord = true) : GoodIn big ws := by
  intro w hw
  have h1 := List.all_eq_true.mp h w hw
  rw [hp] at hw
  obtain ⟨i, -, hi⟩ := List.mem_filterMap.mp hw
  have hm : w ∈ big := by first | exact List.mem_of_getElem? hi | exact List.getElem?_mem hi
  exact ⟨hm, good_of_word h1⟩
theorem goodIn_app {big a b : List Cond} (ha : GoodIn big a) (hb : GoodIn big b) : GoodIn big (a ++ b) := fun w h => (List.mem_append.mp h).elim (ha w) (hb w)
theorem goodIn_ca {big a b : List Cond} {c : Cond} (ha : GoodIn big (c :: a)) (hb : GoodIn big b) : GoodIn big (c :: (a ++ b)) := fun w h => (List.mem_cons.mp h).elim (fun e => ha w (List.mem_cons.mpr (Or.inl e))) (fun h => (List.mem_append.mp h).elim (fun h => ha w (List.mem_cons.mpr (Or.inr h))) (hb w))
theorem goodIn_sub {big ws : List Cond} (hm : ∀ w ∈ ws, w ∈ big) (h : ws.all goodWord = true) : GoodIn big ws := fun w hw => ⟨hm w hw, good_of_word (List.all_eq_true.mp h w hw)⟩
/-! ===== END ===== -/
/-! ===== BEGIN exceptions that leave a method, and their catching by the caller (launches without stack traces) ===== -/
section VXA
/-! The laws vx_back, vx_callV, vx_callS, vx_callSW, vx_throw0, vx_throwS follow proofs of the library, with one case more: JvmDerived/Free/Laws.lean (Back.of_free), Shelf42/LK1.lean (callV, callS), Shelf/KitTraced.lean (throwNew0V, throwNewS). -/
/-- where a method has thrown q: the class by its name, the cell, what was written, the world -/
def vx_T (XC : String → State → State → Prop) (st : State) (q : Addr) (t : State) (mc ms : Nat) (free : Addr → Prop) : Prop :=
  ∃ (E : String) (ce : Cell) (L : List Loc), XC E st t ∧ t.heap[q]? = some ce ∧ ce.vm = .none ∧ st.vm.findClass E = some ce.cls ∧ st.WarmedH t.vm ∧ st.sameButNew ({ t with vm := st.vm } : State) L mc ms ∧ ∀ z ∈ L, free z.base
def vx_Q (Qc : Array Value → State → Outcome → State → Prop) (XC : String → State → State → Prop) (mc ms : Nat) (free : Addr → Prop) : Array Value → State → Outcome → State → Prop := fun a st o t =>
  (Qc a st o t ∧ ∃ L, FrameEnd st o t L mc ms ∧ ∀ q ∈ L, free q.base) ∨ ∃ q, o = .threw q ∧ vx_T XC st q t mc ms free
/-- a callee that returns or throws -/
def vx_Met (l : Launch) (y : MethodName) (ws : List Cond) (rm : Room) (Pc : Array Value → State → Prop) (Qc : Array Value → State → Outcome → State → Prop) (XC : String → State → State → Prop) (mc ms : Nat) (free : Addr → Prop) : Prop :=
  MetFree l y (headSpec ws rm) Pc (fun _ _ _ _ _ => True) (vx_Q Qc XC mc ms free)
def vx_Post (XC : String → State → State → Prop) (mc ms : Nat) (free : Addr → Prop) : Pt → Array Value → Addr → Pt → Prop := fun A a q B =>
  ∃ (g : JFrame) (mk : MethodId) (t : State) (L : List Loc) (E : String) (ce : Cell), B.U.heap = t.heap ∧ B.U.vm = t.vm ∧ XC E (A.U.calling g mk a) t ∧ t.heap[q]? = some ce ∧ ce.vm = .none ∧ A.U.vm.findClass E = some ce.cls ∧ B.locs = A.locs ++ L ∧ (∀ z ∈ L, free z.base) ∧ B.cells = A.cells + mc ∧ B.slots = A.slots + ms
def vx_Back (l : Launch) (R : Room) (p : Program) (e : Env) (below : List Frame) (s : State) (sargs : Array Value) (y : MethodName) (len W9 : Nat)
    (Pre : Pt → Array Value → Prop) (Post : Pt → Array Value → Option Value → Pt → Prop) (PostX : Pt → Array Value → Addr → Pt → Prop) : Prop :=
  ∀ (m : MethodId) (meth : Method) (c : Code) (A : Pt) (g : JFrame) (ig : Instr) (mk : MethodId) (a : Array Value),
    Stand p l e R s m sargs below meth c A.U A.locs A.cells A.slots → g.method = m → g.locals.size = c.maxLocals → decode c.code g.pc = .ok (ig, len) →
    2 * g.monitorRoom + (g.stack.map fun v => v.category).sum ≤ W9 → A.U.methodNamed? y = some mk → Pre A a →
    (∃ (v : Option Value) (B : Pt), Stand p l e R s m sargs below meth c B.U B.locs B.cells B.slots ∧ Post A a v B ∧
      Steps p.tables e below (doInvoke e (A.U.setTop g) [] mk a).1 (B.U.setTop { g with pc := g.pc + len, stack := v.toList ++ g.stack })) ∨
    (∃ (q : Addr) (B : Pt), Stand p l e R s m sargs below meth c B.U B.locs B.cells B.slots ∧ PostX A a q B ∧
      Steps p.tables e below (doInvoke e (A.U.setTop g) [] mk a).1 ((B.U.setTop g).pushFrame (.throwing q)))
section Payer
variable {l : Launch} {R : Room} {p : Program} {e : Env} {below : List Frame} {s : State} {sargs : Array Value} {y : MethodName} {len W9 : Nat}
theorem vx_back {ws : List Cond} {rm : Room} {Pc : Array Value → State → Prop} {Qc : Array Value → State → Outcome → State → Prop} {XC : String → State → State → Prop} {mc ms : Nat} {free : Addr → Prop} {bytes : ByteArray} {maxL : Nat} {ret : Option FieldType}
    (hM : vx_Met l y ws rm Pc Qc XC mc ms free) (hblind : FrameBlind Pc) (hrc : rm.cells = mc) (hrs : rm.slots = ms)
    (hframes : rm.frames + 1 ≤ R.frames) (hlocals : W9 + (maxL + 11) + rm.locals ≤ R.locals)
    (hws : ∀ w ∈ ws, ∀ a' U, s.WarmedH U.vm → w.before a' U = true) (hcode : Cond.code y bytes maxL ret ∈ ws) (hinit : ∀ a' U, s.WarmedH U.vm → (Cond.initialized y.cls).before a' U = true) :
    vx_Back l R p e below s sargs y len W9 (PreOf R mc ms Pc) (PostOf Qc mc ms free) (vx_Post XC mc ms free) := by
  intro m meth c A g ig mk a X hg hsize hdg hW hn hp
  have h1 : (headSpec ws rm).pre.before a A.U = true := atoms_intro fun w hw => hws w hw _ _ X.warmed
  have h2 : (Cond.code y bytes maxL ret).before a A.U = true := hws _ hcode _ _ X.warmed
  have h3 : (Cond.initialized y.cls).before a A.U = true := hinit _ _ X.warmed
  have h4 : A.cells + (headSpec ws rm).room.cells ≤ R.cells := by rw [show (headSpec ws rm).room.cells = mc from hrc]; exact hp.1
  have h5 : A.slots + (headSpec ws rm).room.slots ≤ R.slots := by rw [show (headSpec ws rm).room.slots = ms from hrs]; exact hp.2.1
  have hPc : Pc a (A.U.calling g mk a) := hblind _ _ _ _ hp.2.2
  obtain ⟨U, Ls, c0, s0⟩ := A
  dsimp only [Pt.U, Pt.locs, Pt.cells, Pt.slots] at h1 h2 h3 h4 h5 X hn hPc ⊢
  obtain ⟨methY, cY, hmY, hcY, -, hlY, -, -, -, -⟩ := Cond.code_spec hn h2
  obtain ⟨kY, hkY, -⟩ := className_of_methodNamed hn
  have hinitY : kY.init = .initialized := Cond.initialized_spec (findClass_of_methodNamed hn) hkY h3
  have h : At U g.method c below := by rw [hg]; exact X.here
  have hlocals9 : W9 + (maxL + 11) + (headSpec ws rm).room.locals ≤ R.locals := hlocals
  have happ : (headSpec ws rm).appliesLoose y e.platform (U.calling g mk a) = true :=
    Spec.appliesLoose_calling (g := g) h hdg hn hkY hinitY
      (X.room_calling (g := g) (R' := (headSpec ws rm).room) hsize hmY hcY hframes (by rw [hlY]; omega) h4 h5) h1
  obtain ⟨mid, hmid⟩ := h.above
  have hfr : (U.setTop g).frames = (.java g :: mid) ++ below := by rw [State.frames_setTop' g h.top, hmid]; rfl
  obtain ⟨o, s₂, hsteps, -, hend, hq⟩ := Steps.callFree hM p X.admits X.cas X.clock (acts := []) hfr happ hPc trivial
  have hq' : vx_Q Qc XC mc ms free a (U.calling g mk a) o s₂ := hq
  rw [State.frames_setTop' g h.top] at hend
  obtain ⟨g₀, hg0⟩ := Option.isSome_iff_exists.mp h.top
  obtain ⟨r, hr⟩ := State.topJava?_eq_some.mp hg0
  have hr' : (({ U with heap := s₂.heap, slotsUsed := s₂.slotsUsed } : State).setVm s₂.vm).frames = .java g₀ :: r := hr
  rcases hq' with ⟨hqc, L, hfe, hL⟩ | ⟨q, rfl, E, ce, L, hx, hce, hcv, hcl, hW₂, hsm, hL⟩
  · obtain ⟨⟨v, rfl⟩, hW₂, e2, q2, q3, q4, q5, q6⟩ := id hfe
    have e3 : s₂ = ({ (U.calling g mk a).setFrames s₂.frames with heap := s₂.heap, slotsUsed := s₂.slotsUsed } : State).setVm s₂.vm := by
      have : s₂ = ({ s₂ with vm := (U.calling g mk a).vm } : State).setVm s₂.vm := rfl
      rw [e2] at this
      exact this
    obtain ⟨c₂, i₂, len₂, hc₂, hd₂, hf₂⟩ := hend
    have hW' : U.WarmedH s₂.vm := hW₂
    have hcc : c₂ = c := by
      have h1 : s₂.code? g.method = U.code? g.method := by
        rw [State.code?_eq, State.code?_eq, hW'.alike.method?]
      exact Option.some.inj (hc₂.symm.trans (h1.trans h.code))
    subst hcc
    have hlen : len₂ = len := by rw [hdg] at hd₂; cases hd₂; rfl
    subst hlen
    have hs₂ : s₂ = (({ U with heap := s₂.heap, slotsUsed := s₂.slotsUsed } : State).setVm s₂.vm).setTop { g with pc := g.pc + len₂, stack := v.toList ++ g.stack } := by
      refine e3.trans ?_
      rw [hf₂, State.calling_eq h.top, State.setFrames_setFrames, State.setTop_of_frames _ hr', hr]
      rfl
    have hsame : U.sameButNew ({ U with heap := s₂.heap, slotsUsed := s₂.slotsUsed } : State) L mc ms := by
      refine ⟨?_, q2, q3, q4, q5, q6⟩
      obtain ⟨t, ht, -⟩ := State.frames_cons hr
      show ({ U with heap := s₂.heap, slotsUsed := s₂.slotsUsed } : State) = { U.setFrames U.frames with heap := s₂.heap, slotsUsed := s₂.slotsUsed }
      rw [State.setFrames_self ht]
    subst hg
    refine Or.inl ⟨v, ⟨(({ U with heap := s₂.heap, slotsUsed := s₂.slotsUsed } : State).setVm s₂.vm), Ls ++ L, c0 + mc, s0 + ms⟩,
      ⟨X.admits, X.cas, X.clock, X.frames, X.room, X.hears, X.method, X.code, (X.here.setHeapUsed s₂.heap s₂.slotsUsed).setVm hW'.alike, X.tail, State.WarmedH.trans X.warmed hW', X.limits, X.bytes, X.same.trans (hsame.setVm s.vm)⟩,
      ⟨g, mk, s₂, L, rfl, rfl, hqc, rfl, hL, rfl, rfl⟩, ?_⟩
    show Steps p.tables e below _ ((({ U with heap := s₂.heap, slotsUsed := s₂.slotsUsed } : State).setVm s₂.vm).setTop { g with pc := g.pc + len₂, stack := v.toList ++ g.stack })
    rw [← hs₂]
    exact hsteps
  · obtain ⟨e2, q2, q3, q4, q5, q6⟩ := id hsm
    have e3 : s₂ = ({ (U.calling g mk a).setFrames s₂.frames with heap := s₂.heap, slotsUsed := s₂.slotsUsed } : State).setVm s₂.vm := by
      have : s₂ = ({ s₂ with vm := (U.calling g mk a).vm } : State).setVm s₂.vm := rfl
      rw [e2] at this
      exact this
    have hf₂ : s₂.frames = .throwing q :: .java g :: U.frames.tail := hend
    have hW' : U.WarmedH s₂.vm := hW₂
    have hs₂ : s₂ = ((({ U with heap := s₂.heap, slotsUsed := s₂.slotsUsed } : State).setVm s₂.vm).setTop g).pushFrame (.throwing q) := by
      refine e3.trans ?_
      rw [hf₂, State.calling_eq h.top, State.setFrames_setFrames, State.pushFrame, State.frames_setTop _ hr', State.setTop_of_frames _ hr', State.setFrames_setFrames, hr]
      rfl
    have hsame : U.sameButNew ({ U with heap := s₂.heap, slotsUsed := s₂.slotsUsed } : State) L mc ms := by
      refine ⟨?_, q2, q3, q4, q5, q6⟩
      obtain ⟨t, ht, -⟩ := State.frames_cons hr
      show ({ U with heap := s₂.heap, slotsUsed := s₂.slotsUsed } : State) = { U.setFrames U.frames with heap := s₂.heap, slotsUsed := s₂.slotsUsed }
      rw [State.setFrames_self ht]
    subst hg
    refine Or.inr ⟨q, ⟨(({ U with heap := s₂.heap, slotsUsed := s₂.slotsUsed } : State).setVm s₂.vm), Ls ++ L, c0 + mc, s0 + ms⟩,
      ⟨X.admits, X.cas, X.clock, X.frames, X.room, X.hears, X.method, X.code, (X.here.setHeapUsed s₂.heap s₂.slotsUsed).setVm hW'.alike, X.tail, State.WarmedH.trans X.warmed hW', X.limits, X.bytes, X.same.trans (hsame.setVm s.vm)⟩,
      ⟨g, mk, s₂, L, E, ce, rfl, rfl, hx, hce, hcv, hcl, rfl, hL, rfl, rfl⟩, ?_⟩
    show Steps p.tables e below _ (((({ U with heap := s₂.heap, slotsUsed := s₂.slotsUsed } : State).setVm s₂.vm).setTop g).pushFrame (.throwing q))
    rw [← hs₂]
    exact hsteps
end Payer
section Calls
variable {p : Program} {l : Launch} {e : Env} {R : Room} {s : State} {m : MethodId} {args : Array Value} {below : List Frame} {meth : Method} {c : Code} {T : State} {locs : List Loc} {cells slots : Nat}
theorem vx_callV (X : Stand p l e R s m args below meth c T locs cells slots) (hexec : p.tables.exec = Jvm.exec) {own C : String} {index : Nat} {y : MethodName} {bytes : ByteArray} {maxL : Nat} {ret : Option FieldType}
    (hown : s.vm.findClass own = some m.cls) (hlink : (Cond.methodLink own index y).before args s = true) (hinst : (Cond.instanceMethod y).before args s = true) (hsel : (Cond.selects C y y).before args s = true)
    (hcode : (Cond.code y bytes maxL ret).before args s = true) (hy : y.cls ≠ "java/lang/invoke/MethodHandle" ∧ y.cls ≠ "java/lang/invoke/VarHandle")
    {W9 : Nat} {Pre : Pt → Array Value → Prop} {Post : Pt → Array Value → Option Value → Pt → Prop} {PostX : Pt → Array Value → Addr → Pt → Prop} (hK : vx_Back l R p e below s args y 3 W9 Pre Post PostX)
    {b : Addr} {cellB : Cell} (hcell : T.heap[b]? = some cellB) (hobj : cellB.vm.isStatics = false) (hcls : s.vm.findClass C = some cellB.cls)
    {g : JFrame} (hg : g.method = m) (hsize : g.locals.size = c.maxLocals) {argsL rest : List Value} (hlen : ∀ sig, parseMethodDescriptor y.desc = some sig → argsL.length = sig.parameters.length)
    (hstack : g.stack = argsL.reverse ++ .ref b :: rest) (hW : 2 * g.monitorRoom + (rest.map fun v => v.category).sum ≤ W9) (hdg : decode c.code g.pc = .ok (.invokevirtual index, 3))
    (hpre : ∀ vm₁, s.WarmedH vm₁ → Pre ⟨T.setVm vm₁, locs, cells, slots⟩ (Value.ref b :: argsL).toArray) :
    (∃ (v : Option Value) (vm₁ : Vm) (B : Pt), s.WarmedH vm₁ ∧ Stand p l e R s m args below meth c B.U B.locs B.cells B.slots ∧ Post ⟨T.setVm vm₁, locs, cells, slots⟩ (Value.ref b :: argsL).toArray v B ∧
      ∀ target, Steps p.tables e below (B.U.setTop { g with pc := g.pc + 3, stack := v.toList ++ rest }) target → Steps p.tables e below (T.setTop g) target) ∨
    (∃ (q : Addr) (vm₁ : Vm) (B : Pt), s.WarmedH vm₁ ∧ Stand p l e R s m args below meth c B.U B.locs B.cells B.slots ∧ PostX ⟨T.setVm vm₁, locs, cells, slots⟩ (Value.ref b :: argsL).toArray q B ∧
      Steps p.tables e below (T.setTop g) ((B.U.setTop { g with stack := rest }).pushFrame (.throwing q))) := by
  obtain ⟨mk, methM, hnamed, hmethM, hstM, habM⟩ := Cond.instanceMethod_spec hinst
  obtain ⟨methM', cM, hmethM', -, -, -, -, -, -, hsigM⟩ := Cond.code_spec hnamed hcode
  cases hmethM.symm.trans hmethM'
  obtain ⟨c2, r2, m2, q1, q2, q3, q4, kP, hkP, hkPi⟩ := Cond.selects_spec hsel
  cases hcls.symm.trans q1
  cases (State.methodFound?_of_named hnamed hy).symm.trans q2
  cases hnamed.symm.trans q3
  have hselP : selectMethod e.platform s.vm cellB.cls mk = .method mk := by rw [Launch.admits_selectMethod X.admits]; exact q4
  obtain ⟨vm₁, X₁, hstep₁⟩ := X.invokevirtual hexec hown hlink hnamed hmethM hstM hkP hkPi hy (a := b) (cell := cellB) hcell
    (fun z h => by rw [h] at hobj; cases hobj) hselP hmethM habM hkP hkPi (g := g) hg (argsL := argsL) (rest := rest) (hlen _ hsigM) hstack hdg
  rcases hK m meth c ⟨T.setVm vm₁, locs, cells, slots⟩ { g with stack := rest } (.invokevirtual index) mk (Value.ref b :: argsL).toArray X₁ hg hsize hdg hW (X₁.named hnamed) (hpre vm₁ X₁.warmed) with ⟨v, B, X', hpost, hsteps⟩ | ⟨q, B, X', hpost, hsteps⟩
  · exact Or.inl ⟨v, vm₁, B, X₁.warmed, X', hpost, fun target h => hstep₁ _ fun acts => by rw [doInvoke_state]; exact hsteps.trans h⟩
  · exact Or.inr ⟨q, vm₁, B, X₁.warmed, X', hpost, hstep₁ _ fun acts => by rw [doInvoke_state]; exact hsteps⟩
theorem vx_callS (X : Stand p l e R s m args below meth c T locs cells slots) (hexec : p.tables.exec = Jvm.exec) {own : String} {index : Nat} {y : MethodName} {bytes : ByteArray} {maxL : Nat} {ret : Option FieldType}
    (hown : s.vm.findClass own = some m.cls) (hlink : (Cond.methodLink own index y).before args s = true) (hstat : (Cond.static y).before args s = true) (hinit : (Cond.initialized y.cls).before args s = true)
    (hcode : (Cond.code y bytes maxL ret).before args s = true) (hy : y.cls ≠ "java/lang/invoke/MethodHandle" ∧ y.cls ≠ "java/lang/invoke/VarHandle")
    {W9 : Nat} {Pre : Pt → Array Value → Prop} {Post : Pt → Array Value → Option Value → Pt → Prop} {PostX : Pt → Array Value → Addr → Pt → Prop} (hK : vx_Back l R p e below s args y 3 W9 Pre Post PostX)
    {g : JFrame} (hg : g.method = m) (hsize : g.locals.size = c.maxLocals) {argsL rest : List Value} (hlen : ∀ sig, parseMethodDescriptor y.desc = some sig → argsL.length = sig.parameters.length)
    (hstack : g.stack = argsL.reverse ++ rest) (hW : 2 * g.monitorRoom + (rest.map fun v => v.category).sum ≤ W9) (hdg : decode c.code g.pc = .ok (.invokestatic index, 3))
    (hpre : ∀ vm₁, s.WarmedH vm₁ → Pre ⟨T.setVm vm₁, locs, cells, slots⟩ argsL.toArray) :
    (∃ (v : Option Value) (vm₁ : Vm) (B : Pt), s.WarmedH vm₁ ∧ Stand p l e R s m args below meth c B.U B.locs B.cells B.slots ∧ Post ⟨T.setVm vm₁, locs, cells, slots⟩ argsL.toArray v B ∧
      ∀ target, Steps p.tables e below (B.U.setTop { g with pc := g.pc + 3, stack := v.toList ++ rest }) target → Steps p.tables e below (T.setTop g) target) ∨
    (∃ (q : Addr) (vm₁ : Vm) (B : Pt), s.WarmedH vm₁ ∧ Stand p l e R s m args below meth c B.U B.locs B.cells B.slots ∧ PostX ⟨T.setVm vm₁, locs, cells, slots⟩ argsL.toArray q B ∧
      Steps p.tables e below (T.setTop g) ((B.U.setTop { g with stack := rest }).pushFrame (.throwing q))) := by
  obtain ⟨mk, hnamed⟩ := Cond.code_named hcode
  obtain ⟨methM, cM, hmethM, -, -, -, -, -, -, hsigM⟩ := Cond.code_spec hnamed hcode
  have hstatic : methM.isStatic = true := Cond.static_spec hnamed hmethM hstat
  obtain ⟨kP, hkP, -⟩ := className_of_methodNamed hnamed
  have hinitP : kP.init = .initialized := Cond.initialized_spec (findClass_of_methodNamed hnamed) hkP hinit
  obtain ⟨vm₁, X₁, hstep₁⟩ := X.invokestatic hexec hown hlink hnamed hmethM hstatic hkP hinitP hy (g := g) hg (argsL := argsL) (rest := rest) (hlen _ hsigM) hstack hdg
  rcases hK m meth c ⟨T.setVm vm₁, locs, cells, slots⟩ { g with stack := rest } (.invokestatic index) mk argsL.toArray X₁ hg hsize hdg hW (X₁.named hnamed) (hpre vm₁ X₁.warmed) with ⟨v, B, X', hpost, hsteps⟩ | ⟨q, B, X', hpost, hsteps⟩
  · exact Or.inl ⟨v, vm₁, B, X₁.warmed, X', hpost, fun target h => hstep₁ _ fun acts => by rw [doInvoke_state]; exact hsteps.trans h⟩
  · exact Or.inr ⟨q, vm₁, B, X₁.warmed, X', hpost, hstep₁ _ fun acts => by rw [doInvoke_state]; exact hsteps⟩
end Calls
theorem vx_cls {s : State} {T : State} {vm₁ : Vm} {E : String} {k : ClassId} (hW : s.WarmedH vm₁) (h : (T.setVm vm₁).vm.findClass E = some k) : s.vm.findClass E = some k := by
  have h1 : vm₁.findClass E = some k := h
  rw [hW.alike.findClass] at h1
  exact h1
/-- the method's frame g, with q thrown over it -/
def vx_W (p : Program) (l : Launch) (e : Env) (R : Room) (s : State) (m : MethodId) (args : Array Value) (below : List Frame) (meth : Method) (c : Code) (H : Heap) (locs : List Loc) (cells slots : Nat) (Q : State → Prop) (g : JFrame) (q : Addr) : Prop :=
  ∀ T : State, T.heap = H → Stand p l e R s m args below meth c T locs cells slots → ∃ t, Steps p.tables e below ((T.setTop g).pushFrame (.throwing q)) t ∧ Q t
def vx_Run (p : Program) (l : Launch) (e : Env) (R : Room) (s : State) (m : MethodId) (args : Array Value) (below : List Frame) (meth : Method) (c : Code) (H : Heap) (locs : List Loc) (cells slots mc ms : Nat) (g : JFrame) (rest : List Value) (Qa : State → Outcome → State → Prop) (XC : String → State → State → Prop) (free : Addr → Prop) : Prop :=
  ∀ T : State, T.heap = H → Stand p l e R s m args below meth c T locs cells slots →
    (∃ (v : Option Value) (st₀ t T' : State) (L : List Loc), st₀.heap = H ∧ Stand p l e R s m args below meth c T' (locs ++ L) (cells + mc) (slots + ms) ∧ (∀ q ∈ L, free q.base) ∧ T'.heap = t.heap ∧ T'.vm = t.vm ∧ Qa st₀ (.returned v) t ∧
      Goes p e below T g T' { g with pc := g.pc + 3, stack := v.toList ++ rest }) ∨
    (∃ (q : Addr) (st₀ t T' : State) (L : List Loc) (E : String) (ce : Cell), st₀.heap = H ∧ Stand p l e R s m args below meth c T' (locs ++ L) (cells + mc) (slots + ms) ∧ (∀ z ∈ L, free z.base) ∧ T'.heap = t.heap ∧ T'.vm = t.vm ∧ XC E st₀ t ∧ t.heap[q]? = some ce ∧ ce.vm = .none ∧ s.vm.findClass E = some ce.cls ∧
      Steps p.tables e below (T.setTop g) ((T'.setTop { g with stack := rest }).pushFrame (.throwing q)))
def vx_X {S : Type} (px : S → Prop) (B : String → S → State → Prop) (A : Nat → Prop) : String → State → State → Prop := fun E st t => ∃ u : S, px u ∧ B E u t ∧ va_F A st t
section Runs
variable {p : Program} {l : Launch} {e : Env} {R : Room} {s : State} {m : MethodId} {args : Array Value} {below : List Frame} {meth : Method} {c : Code} {H : Heap} {locs : List Loc} {cells slots : Nat}
variable {y : MethodName} {bytes cc : ByteArray} {maxL nL mc ms n index : Nat} {ret : Option FieldType} {ws : List Cond} {rm : Room} {Pc : Array Value → State → Prop} {Qc : Array Value → State → Outcome → State → Prop} {XC : String → State → State → Prop} {free : Addr → Prop} {Ts : List Cond} {own C : String} {b : Addr} {As rest : List Value} {g : JFrame}
theorem vx_callBack (cb : CallB R s args own index y bytes maxL ret ws rm mc ms n) (hM : vx_Met l y ws rm Pc Qc XC mc ms free) (hbl : FrameBlind Pc) : vx_Back l R p e below s args y 3 8 (PreOf R mc ms Pc) (PostOf Qc mc ms free) (vx_Post XC mc ms free) := by
  obtain ⟨hrc, hrs, hfr, hlo, hws, hcw, -, hini, -⟩ := cb
  exact vx_back (bytes := bytes) (maxL := maxL) (ret := ret) hM hbl hrc hrs hfr hlo hws hcw (fun a' U hW => word_at hW (Or.inl (by first | rfl | simp [Cond.onTables, Cond.keeps, Cond.steady])) hini)
theorem vx_runV (S : CallFix p m c cc nL s args Ts own) (hM : vx_Met l y ws rm Pc Qc XC mc ms free) (cw : CallW R s args own C index y bytes maxL ret ws rm mc ms n) (hp : PreV s H C b Pc As)
    (hg : g.method = m) (hn : As.length = n) (hsize : g.locals.size = nL) (hstack : g.stack = As.reverse ++ .ref b :: rest) (hW : 2 * g.monitorRoom + (rest.map fun v => v.category).sum ≤ 8) (hdg : decode cc g.pc = .ok (.invokevirtual index, 3)) (hf : cells + mc ≤ R.cells ∧ slots + ms ≤ R.slots) :
    vx_Run p l e R s m args below meth c H locs cells slots mc ms g rest (Qc (Value.ref b :: As).toArray) XC free := by
  have hK : vx_Back l R p e below s args y 3 8 (PreOf R mc ms Pc) (PostOf Qc mc ms free) (vx_Post XC mc ms free) := vx_callBack cw.1 hM hp.1
  obtain ⟨⟨-, -, -, -, -, -, hcode, -, hy, hlen, hl⟩, hin, hse⟩ := cw
  obtain ⟨hx, hb, hml, ho, -⟩ := S
  obtain ⟨-, ⟨cellB, hcB, hoB, hclB⟩, hPc⟩ := hp
  intro T hT X
  rcases vx_callV X hx (C := C) (bytes := bytes) (maxL := maxL) (ret := ret) ho hl hin hse hcode hy hK (by rw [hT]; exact hcB) hoB hclB hg (hsize.trans hml.symm) (argsL := As) (rest := rest) (fun sig h => hn.trans (hlen sig h)) hstack hW (by rw [hb]; exact hdg)
    (fun vm₁ hW₁ => ⟨hf.1, hf.2, hPc (T.setVm vm₁) hT hW₁⟩) with ⟨v, vm₁, ⟨U', l2, c2, s2⟩, hW₁, X', ⟨g', mk, t, L, e1, e2, hq, h1, hL, h2, h3⟩, st⟩ | ⟨q, vm₁, ⟨U', l2, c2, s2⟩, hW₁, X', ⟨g', mk, t, L, E, ce, e1, e2, hq, hce, hcv, hcl, h1, hL, h2, h3⟩, st⟩
  · dsimp only [Pt.U, Pt.locs, Pt.cells, Pt.slots] at X' e1 e2 h1 h2 h3 st
    subst h1; subst h2; subst h3
    exact Or.inl ⟨v, (T.setVm vm₁).calling g' mk (Value.ref b :: As).toArray, t, U', L, hT, X', hL, e1, e2, hq, st⟩
  · dsimp only [Pt.U, Pt.locs, Pt.cells, Pt.slots] at X' e1 e2 h1 h2 h3 st hcl
    subst h1; subst h2; subst h3
    exact Or.inr ⟨q, (T.setVm vm₁).calling g' mk (Value.ref b :: As).toArray, t, U', L, E, ce, hT, X', hL, e1, e2, hq, hce, hcv, vx_cls hW₁ hcl, st⟩
theorem vx_runS (S : CallFix p m c cc nL s args Ts own) (hM : vx_Met l y ws rm Pc Qc XC mc ms free) (cw : CallB R s args own index y bytes maxL ret ws rm mc ms n ∧ (Cond.static y).before args s = true) (hp : PreS s H Pc As)
    (hg : g.method = m) (hn : As.length = n) (hsize : g.locals.size = nL) (hstack : g.stack = As.reverse ++ rest) (hW : 2 * g.monitorRoom + (rest.map fun v => v.category).sum ≤ 8) (hdg : decode cc g.pc = .ok (.invokestatic index, 3)) (hf : cells + mc ≤ R.cells ∧ slots + ms ≤ R.slots) :
    vx_Run p l e R s m args below meth c H locs cells slots mc ms g rest (Qc As.toArray) XC free := by
  have hK : vx_Back l R p e below s args y 3 8 (PreOf R mc ms Pc) (PostOf Qc mc ms free) (vx_Post XC mc ms free) := vx_callBack cw.1 hM hp.1
  obtain ⟨⟨-, -, -, -, -, -, hcode, hini, hy, hlen, hl⟩, hstt⟩ := cw
  obtain ⟨hx, hb, hml, ho, -⟩ := S
  intro T hT X
  rcases vx_callS X hx (bytes := bytes) (maxL := maxL) (ret := ret) ho hl hstt hini hcode hy hK hg (hsize.trans hml.symm) (argsL := As) (rest := rest) (fun sig h => hn.trans (hlen sig h)) hstack hW (by rw [hb]; exact hdg)
    (fun vm₁ hW₁ => ⟨hf.1, hf.2, hp.2 (T.setVm vm₁) hT hW₁⟩) with ⟨v, vm₁, ⟨U', l2, c2, s2⟩, hW₁, X', ⟨g', mk, t, L, e1, e2, hq, h1, hL, h2, h3⟩, st⟩ | ⟨q, vm₁, ⟨U', l2, c2, s2⟩, hW₁, X', ⟨g', mk, t, L, E, ce, e1, e2, hq, hce, hcv, hcl, h1, hL, h2, h3⟩, st⟩
  · dsimp only [Pt.U, Pt.locs, Pt.cells, Pt.slots] at X' e1 e2 h1 h2 h3 st
    subst h1; subst h2; subst h3
    exact Or.inl ⟨v, (T.setVm vm₁).calling g' mk As.toArray, t, U', L, hT, X', hL, e1, e2, hq, st⟩
  · dsimp only [Pt.U, Pt.locs, Pt.cells, Pt.slots] at X' e1 e2 h1 h2 h3 st hcl
    subst h1; subst h2; subst h3
    exact Or.inr ⟨q, (T.setVm vm₁).calling g' mk As.toArray, t, U', L, E, ce, hT, X', hL, e1, e2, hq, hce, hcv, vx_cls hW₁ hcl, st⟩
end Runs
section Rows
variable {p : Program} {l : Launch} {e : Env} {R : Room} {s : State} {m : MethodId} {args : Array Value} {below : List Frame} {meth : Method} {c : Code} {H : Heap} {locs : List Loc} {cells slots : Nat} {Q : State → Prop}
variable {mc ms : Nat} {free : Addr → Prop} {A0 A1 : Nat → Prop} {H0 : Heap} {a : Array Value} {pc : Nat} {ls : Array Slot} {st0 rest : List Value}
theorem vx_keep {st₀ t T' : State} {L : List Loc} (h0 : st₀.heap = H) (e1 : T'.heap = t.heap) (hS : va_S A0 H0 H locs) (hA : ∀ q, q < H.size → A1 q → A0 q) (hf : ∀ q, free q → A0 q) (hL : ∀ q ∈ L, free q.base) (hF : va_F A1 st₀ t) :
    H.size ≤ T'.heap.size ∧ (∀ q : Nat, q < H.size → ¬ A1 q → T'.heap[q]? = H[q]?) ∧ va_S A0 H0 T'.heap (locs ++ L) := by
  obtain ⟨hz, hk⟩ := hF
  rw [h0] at hz hk
  exact ⟨by rw [e1]; exact hz, fun q h1 h2 => by rw [e1]; exact hk q h1 h2,
    ⟨Nat.le_trans hS.1 (by rw [e1]; exact hz), fun q h1 h2 => by rw [e1, hk q (Nat.lt_of_lt_of_le h1 hS.1) (fun z => h2 (hA q (Nat.lt_of_lt_of_le h1 hS.1) z))]; exact hS.2.1 q h1 h2, fun q hq => by
      rcases List.mem_append.mp hq with h | h
      · exact hS.2.2 q h
      · exact hf _ (hL q h)⟩⟩
theorem vx_calli {S SX : Type} {post : Int32 → S → Prop} {px : SX → Prop} {B : S → State → Prop} {BX : String → SX → State → Prop} {AX : Nat → Prop} (hr : vx_Run p l e R s m args below meth c H locs cells slots mc ms (F0 m pc ls st0) rest (va_Qi post B A1 a) (vx_X px BX AX) free) (hS : va_S A0 H0 H locs) (hA : ∀ q, q < H.size → A1 q → A0 q) (hf : ∀ q, free q → A0 q) (hAX : ∀ q, q < H.size → AX q → A0 q)
    (kx : ∀ (E : String) (ce : Cell) (q9 : Addr) (u : SX) (t : State) (H1 : Heap) (locs1 : List Loc), t.heap = H1 → s.vm.Alike t.vm → px u → BX E u t → H.size ≤ H1.size → (∀ q : Nat, q < H.size → ¬ AX q → H1[q]? = H[q]?) → va_S A0 H0 H1 locs1 → H1[q9]? = some ce → ce.vm = .none → s.vm.findClass E = some ce.cls → vx_W p l e R s m args below meth c H1 locs1 (cells + mc) (slots + ms) Q (F0 m pc ls rest) q9)
    (kk : ∀ (r : Int32) (u : S) (t : State) (H1 : Heap) (locs1 : List Loc), t.heap = H1 → s.vm.Alike t.vm → post r u → B u t → H.size ≤ H1.size → (∀ q : Nat, q < H.size → ¬ A1 q → H1[q]? = H[q]?) → va_S A0 H0 H1 locs1 → W p l e R s m args below meth c H1 locs1 (cells + mc) (slots + ms) Q (F0 m (pc + 3) ls (.int r :: rest))) : W p l e R s m args below meth c H locs cells slots Q (F0 m pc ls st0) := by
  intro T hT X
  rcases hr T hT X with ⟨v, st₀, t, T', L, h0, X', hL, e1, e2, ⟨⟨r, u, hv, hp, hb⟩, hF⟩, st⟩ | ⟨q, st₀, t, T', L, E, ce, h0, X', hL, e1, e2, ⟨u, hp, hb, hF⟩, hce, hcv, hcl, st⟩
  · cases hv
    obtain ⟨k1, k2, k3⟩ := vx_keep h0 e1 hS hA hf hL hF
    obtain ⟨t2, a1, b1⟩ := kk r u t T'.heap (locs ++ L) e1.symm (by rw [← e2]; exact X'.warmed.alike) hp hb k1 k2 k3 T' rfl X'
    exact ⟨t2, st t2 a1, b1⟩
  · obtain ⟨k1, k2, k3⟩ := vx_keep h0 e1 hS hAX hf hL hF
    obtain ⟨t2, a1, b1⟩ := kx E ce q u t T'.heap (locs ++ L) e1.symm (by rw [← e2]; exact X'.warmed.alike) hp hb k1 k2 k3 (by rw [e1]; exact hce) hcv hcl T' rfl X'
    exact ⟨t2, st.trans a1, b1⟩
theorem vx_calll {S SX : Type} {post : Int64 → S → Prop} {px : SX → Prop} {B : S → State → Prop} {BX : String → SX → State → Prop} {AX : Nat → Prop} (hr : vx_Run p l e R s m args below meth c H locs cells slots mc ms (F0 m pc ls st0) rest (va_Ql post B A1 a) (vx_X px BX AX) free) (hS : va_S A0 H0 H locs) (hA : ∀ q, q < H.size → A1 q → A0 q) (hf : ∀ q, free q → A0 q) (hAX : ∀ q, q < H.size → AX q → A0 q)
    (kx : ∀ (E : String) (ce : Cell) (q9 : Addr) (u : SX) (t : State) (H1 : Heap) (locs1 : List Loc), t.heap = H1 → s.vm.Alike t.vm → px u → BX E u t → H.size ≤ H1.size → (∀ q : Nat, q < H.size → ¬ AX q → H1[q]? = H[q]?) → va_S A0 H0 H1 locs1 → H1[q9]? = some ce → ce.vm = .none → s.vm.findClass E = some ce.cls → vx_W p l e R s m args below meth c H1 locs1 (cells + mc) (slots + ms) Q (F0 m pc ls rest) q9)
    (kk : ∀ (r : Int64) (u : S) (t : State) (H1 : Heap) (locs1 : List Loc), t.heap = H1 → s.vm.Alike t.vm → post r u → B u t → H.size ≤ H1.size → (∀ q : Nat, q < H.size → ¬ A1 q → H1[q]? = H[q]?) → va_S A0 H0 H1 locs1 → W p l e R s m args below meth c H1 locs1 (cells + mc) (slots + ms) Q (F0 m (pc + 3) ls (.long r :: rest))) : W p l e R s m args below meth c H locs cells slots Q (F0 m pc ls st0) := by
  intro T hT X
  rcases hr T hT X with ⟨v, st₀, t, T', L, h0, X', hL, e1, e2, ⟨⟨r, u, hv, hp, hb⟩, hF⟩, st⟩ | ⟨q, st₀, t, T', L, E, ce, h0, X', hL, e1, e2, ⟨u, hp, hb, hF⟩, hce, hcv, hcl, st⟩
  · cases hv
    obtain ⟨k1, k2, k3⟩ := vx_keep h0 e1 hS hA hf hL hF
    obtain ⟨t2, a1, b1⟩ := kk r u t T'.heap (locs ++ L) e1.symm (by rw [← e2]; exact X'.warmed.alike) hp hb k1 k2 k3 T' rfl X'
    exact ⟨t2, st t2 a1, b1⟩
  · obtain ⟨k1, k2, k3⟩ := vx_keep h0 e1 hS hAX hf hL hF
    obtain ⟨t2, a1, b1⟩ := kx E ce q u t T'.heap (locs ++ L) e1.symm (by rw [← e2]; exact X'.warmed.alike) hp hb k1 k2 k3 (by rw [e1]; exact hce) hcv hcl T' rfl X'
    exact ⟨t2, st.trans a1, b1⟩
theorem vx_callf {S SX : Type} {post : UInt32 → S → Prop} {px : SX → Prop} {B : S → State → Prop} {BX : String → SX → State → Prop} {AX : Nat → Prop} (hr : vx_Run p l e R s m args below meth c H locs cells slots mc ms (F0 m pc ls st0) rest (va_Qf post B A1 a) (vx_X px BX AX) free) (hS : va_S A0 H0 H locs) (hA : ∀ q, q < H.size → A1 q → A0 q) (hf : ∀ q, free q → A0 q) (hAX : ∀ q, q < H.size → AX q → A0 q)
    (kx : ∀ (E : String) (ce : Cell) (q9 : Addr) (u : SX) (t : State) (H1 : Heap) (locs1 : List Loc), t.heap = H1 → s.vm.Alike t.vm → px u → BX E u t → H.size ≤ H1.size → (∀ q : Nat, q < H.size → ¬ AX q → H1[q]? = H[q]?) → va_S A0 H0 H1 locs1 → H1[q9]? = some ce → ce.vm = .none → s.vm.findClass E = some ce.cls → vx_W p l e R s m args below meth c H1 locs1 (cells + mc) (slots + ms) Q (F0 m pc ls rest) q9)
    (kk : ∀ (r : UInt32) (u : S) (t : State) (H1 : Heap) (locs1 : List Loc), t.heap = H1 → s.vm.Alike t.vm → post r u → B u t → H.size ≤ H1.size → (∀ q : Nat, q < H.size → ¬ A1 q → H1[q]? = H[q]?) → va_S A0 H0 H1 locs1 → W p l e R s m args below meth c H1 locs1 (cells + mc) (slots + ms) Q (F0 m (pc + 3) ls (.float r :: rest))) : W p l e R s m args below meth c H locs cells slots Q (F0 m pc ls st0) := by
  intro T hT X
  rcases hr T hT X with ⟨v, st₀, t, T', L, h0, X', hL, e1, e2, ⟨⟨r, u, hv, hp, hb⟩, hF⟩, st⟩ | ⟨q, st₀, t, T', L, E, ce, h0, X', hL, e1, e2, ⟨u, hp, hb, hF⟩, hce, hcv, hcl, st⟩
  · cases hv
    obtain ⟨k1, k2, k3⟩ := vx_keep h0 e1 hS hA hf hL hF
    obtain ⟨t2, a1, b1⟩ := kk r u t T'.heap (locs ++ L) e1.symm (by rw [← e2]; exact X'.warmed.alike) hp hb k1 k2 k3 T' rfl X'
    exact ⟨t2, st t2 a1, b1⟩
  · obtain ⟨k1, k2, k3⟩ := vx_keep h0 e1 hS hAX hf hL hF
    obtain ⟨t2, a1, b1⟩ := kx E ce q u t T'.heap (locs ++ L) e1.symm (by rw [← e2]; exact X'.warmed.alike) hp hb k1 k2 k3 (by rw [e1]; exact hce) hcv hcl T' rfl X'
    exact ⟨t2, st.trans a1, b1⟩
theorem vx_calld {S SX : Type} {post : UInt64 → S → Prop} {px : SX → Prop} {B : S → State → Prop} {BX : String → SX → State → Prop} {AX : Nat → Prop} (hr : vx_Run p l e R s m args below meth c H locs cells slots mc ms (F0 m pc ls st0) rest (va_Qd post B A1 a) (vx_X px BX AX) free) (hS : va_S A0 H0 H locs) (hA : ∀ q, q < H.size → A1 q → A0 q) (hf : ∀ q, free q → A0 q) (hAX : ∀ q, q < H.size → AX q → A0 q)
    (kx : ∀ (E : String) (ce : Cell) (q9 : Addr) (u : SX) (t : State) (H1 : Heap) (locs1 : List Loc), t.heap = H1 → s.vm.Alike t.vm → px u → BX E u t → H.size ≤ H1.size → (∀ q : Nat, q < H.size → ¬ AX q → H1[q]? = H[q]?) → va_S A0 H0 H1 locs1 → H1[q9]? = some ce → ce.vm = .none → s.vm.findClass E = some ce.cls → vx_W p l e R s m args below meth c H1 locs1 (cells + mc) (slots + ms) Q (F0 m pc ls rest) q9)
    (kk : ∀ (r : UInt64) (u : S) (t : State) (H1 : Heap) (locs1 : List Loc), t.heap = H1 → s.vm.Alike t.vm → post r u → B u t → H.size ≤ H1.size → (∀ q : Nat, q < H.size → ¬ A1 q → H1[q]? = H[q]?) → va_S A0 H0 H1 locs1 → W p l e R s m args below meth c H1 locs1 (cells + mc) (slots + ms) Q (F0 m (pc + 3) ls (.double r :: rest))) : W p l e R s m args below meth c H locs cells slots Q (F0 m pc ls st0) := by
  intro T hT X
  rcases hr T hT X with ⟨v, st₀, t, T', L, h0, X', hL, e1, e2, ⟨⟨r, u, hv, hp, hb⟩, hF⟩, st⟩ | ⟨q, st₀, t, T', L, E, ce, h0, X', hL, e1, e2, ⟨u, hp, hb, hF⟩, hce, hcv, hcl, st⟩
  · cases hv
    obtain ⟨k1, k2, k3⟩ := vx_keep h0 e1 hS hA hf hL hF
    obtain ⟨t2, a1, b1⟩ := kk r u t T'.heap (locs ++ L) e1.symm (by rw [← e2]; exact X'.warmed.alike) hp hb k1 k2 k3 T' rfl X'
    exact ⟨t2, st t2 a1, b1⟩
  · obtain ⟨k1, k2, k3⟩ := vx_keep h0 e1 hS hAX hf hL hF
    obtain ⟨t2, a1, b1⟩ := kx E ce q u t T'.heap (locs ++ L) e1.symm (by rw [← e2]; exact X'.warmed.alike) hp hb k1 k2 k3 (by rw [e1]; exact hce) hcv hcl T' rfl X'
    exact ⟨t2, st.trans a1, b1⟩
theorem vx_callv {S SX : Type} {post : S → Prop} {px : SX → Prop} {B : S → State → Prop} {BX : String → SX → State → Prop} {AX : Nat → Prop} (hr : vx_Run p l e R s m args below meth c H locs cells slots mc ms (F0 m pc ls st0) rest (va_Qv post B A1 a) (vx_X px BX AX) free) (hS : va_S A0 H0 H locs) (hA : ∀ q, q < H.size → A1 q → A0 q) (hf : ∀ q, free q → A0 q) (hAX : ∀ q, q < H.size → AX q → A0 q)
    (kx : ∀ (E : String) (ce : Cell) (q9 : Addr) (u : SX) (t : State) (H1 : Heap) (locs1 : List Loc), t.heap = H1 → s.vm.Alike t.vm → px u → BX E u t → H.size ≤ H1.size → (∀ q : Nat, q < H.size → ¬ AX q → H1[q]? = H[q]?) → va_S A0 H0 H1 locs1 → H1[q9]? = some ce → ce.vm = .none → s.vm.findClass E = some ce.cls → vx_W p l e R s m args below meth c H1 locs1 (cells + mc) (slots + ms) Q (F0 m pc ls rest) q9)
    (kk : ∀ (u : S) (t : State) (H1 : Heap) (locs1 : List Loc), t.heap = H1 → s.vm.Alike t.vm → post u → B u t → H.size ≤ H1.size → (∀ q : Nat, q < H.size → ¬ A1 q → H1[q]? = H[q]?) → va_S A0 H0 H1 locs1 → W p l e R s m args below meth c H1 locs1 (cells + mc) (slots + ms) Q (F0 m (pc + 3) ls (rest))) : W p l e R s m args below meth c H locs cells slots Q (F0 m pc ls st0) := by
  intro T hT X
  rcases hr T hT X with ⟨v, st₀, t, T', L, h0, X', hL, e1, e2, ⟨⟨u, hv, hp, hb⟩, hF⟩, st⟩ | ⟨q, st₀, t, T', L, E, ce, h0, X', hL, e1, e2, ⟨u, hp, hb, hF⟩, hce, hcv, hcl, st⟩
  · cases hv
    obtain ⟨k1, k2, k3⟩ := vx_keep h0 e1 hS hA hf hL hF
    obtain ⟨t2, a1, b1⟩ := kk u t T'.heap (locs ++ L) e1.symm (by rw [← e2]; exact X'.warmed.alike) hp hb k1 k2 k3 T' rfl X'
    exact ⟨t2, st t2 a1, b1⟩
  · obtain ⟨k1, k2, k3⟩ := vx_keep h0 e1 hS hAX hf hL hF
    obtain ⟨t2, a1, b1⟩ := kx E ce q u t T'.heap (locs ++ L) e1.symm (by rw [← e2]; exact X'.warmed.alike) hp hb k1 k2 k3 (by rw [e1]; exact hce) hcv hcl T' rfl X'
    exact ⟨t2, st.trans a1, b1⟩
/-- caught by the row x of this method's table; the rows ahead don't take it -/
theorem vx_catch {own name : String} {E : String} {ce : Cell} {q : Addr} (hown : s.vm.findClass own = some m.cls) (pre : List ExceptionTableEntry) (x : ExceptionTableEntry) (suf : List ExceptionTableEntry) (hsplit : c.exceptionTable.toList = pre ++ x :: suf)
    (hpass : ∀ z ∈ pre, covers z pc = false ∨ (z.catchType ≠ 0 ∧ ∃ nm : String, (Cond.classLink own z.catchType nm).before args s = true ∧ va_Nc E nm s)) (hx : covers x pc = true) (h0 : x.catchType ≠ 0)
    (hlink : (Cond.classLink own x.catchType name).before args s = true) (hcast : (Cond.castable E name).before args s = true) (hcell : H[q]? = some ce) (hv : ce.vm = .none) (hcl : s.vm.findClass E = some ce.cls)
    (kk : W p l e R s m args below meth c H locs cells slots Q (F0 m x.handlerPc ls [.ref q])) : vx_W p l e R s m args below meth c H locs cells slots Q (F0 m pc ls rest) q := by
  intro T hT X
  have hpl : e.platform.magicAccessors = ({} : Platform).magicAccessors := by rw [X.admits.platform]
  obtain ⟨c3, c4, hc3, hc4, hasg⟩ := Cond.castable_spec hcast
  cases Option.some.inj (hc3.symm.trans hcl)
  obtain ⟨c5, hc5, hcl5⟩ := Cond.classLink_spec hown hlink e.platform hpl
  cases Option.some.inj (hc4.symm.trans hc5)
  obtain ⟨vm', hW', hfd⟩ := gc_find (e := e) (s0 := s) (f := F0 m pc ls rest) (a := q) (x := x) (rest := suf) (VmData.ne_statics_of (by rw [hv]; rfl)) (by obtain ⟨k9, h9, -⟩ := Vm.findClass_spec hcl; exact ⟨k9, h9⟩) hx h0 hcl5 hasg pre
    ((T.setTop (F0 m pc ls rest)).pushFrame (.throwing q)) (by rw [throwing_vm]; exact X.warmed) (by rw [throwing_heap, hT]; exact hcell)
    (fun z hz hc9 => by
      rcases hpass z hz with h | ⟨hz0, nm, hl1, hn1⟩
      · rw [h] at hc9; cases hc9
      · obtain ⟨c6, hc6, hcl6⟩ := Cond.classLink_spec hown hl1 e.platform hpl
        obtain ⟨a8, b8, h1, h2, h3⟩ := hn1
        cases Option.some.inj (h1.symm.trans hcl)
        cases Option.some.inj (h2.symm.trans hc6)
        exact ⟨hz0, _, hcl6, h3⟩)
  obtain ⟨t, a1, b1⟩ := kk (T.setVm vm') hT (X.noted hW')
  refine ⟨t, gc_steps (c := c) X.here (fun Q E d acts => ?_) a1, b1⟩
  rw [W.findHandler_eq (meth := meth) (code := c) (by rw [throwing_vm]; exact X.method') X.code, hsplit]
  exact hfd Q E d acts
end Rows
section Ends
variable {p : Program} {l : Launch} {e : Env} {R : Room} {s : State} {m : MethodId} {args : Array Value} {below : List Frame} {meth : Method} {c : Code} {H : Heap} {locs : List Loc} {cells slots : Nat} {Q : State → Prop}
variable {mc ms : Nat} {free : Addr → Prop} {A0 A1 : Nat → Prop} {H0 : Heap} {a : Array Value} {ls : Array Slot} {st0 rest : List Value}
variable {Qc : Array Value → State → Outcome → State → Prop} {XC : String → State → State → Prop}
/-- what a body that may throw owes at its end -/
def vx_MQ (below : List Frame) (Qc : Array Value → State → Outcome → State → Prop) (XC : String → State → State → Prop) (a : Array Value) (s : State) (mc ms : Nat) (free : Addr → Prop) : State → Prop := fun t =>
  ∃ o, t.status = .running ∧ Ended t below o ∧ vx_Q Qc XC mc ms free a s o t
theorem vx_ret {g : JFrame} {mc ms : Nat} (k : W p l e R s m args below meth c H locs cells slots (MQ below Qc args s mc ms free) g) : W p l e R s m args below meth c H locs cells slots (vx_MQ below Qc XC args s mc ms free) g := by
  intro T hT X
  obtain ⟨t, a1, o, b1, b2, b3, b4⟩ := k T hT X
  exact ⟨t, a1, o, b1, b2, Or.inl ⟨b3, b4⟩⟩
/-- not caught here: it goes on to the caller -/
theorem vx_widen {g : JFrame} {q : Addr} {k n : Nat} (h1 : cells ≤ k) (h2 : slots ≤ n) (kk : vx_W p l e R s m args below meth c H locs k n Q g q) : vx_W p l e R s m args below meth c H locs cells slots Q g q := fun T hT X => kk T hT (stand_widen X h1 h2)
theorem vx_out {pc : Nat} {E : String} {ce : Cell} {q : Addr} {mc ms : Nat} (hout : ∀ x ∈ c.exceptionTable.toList, covers x pc = false) (hlocks : meth.locks = false) (hcell : H[q]? = some ce) (hv : ce.vm = .none) (hcl : s.vm.findClass E = some ce.cls)
    (hx : ∀ t : State, t.heap = H → s.vm.Alike t.vm → XC E s t) (hf : ∀ z ∈ locs, free z.base) (hc : cells ≤ mc) (hs : slots ≤ ms) :
    vx_W p l e R s m args below meth c H locs cells slots (vx_MQ below Qc XC args s mc ms free) (F0 m pc ls rest) q := by
  intro T hT X
  obtain ⟨st1, hrun, hend, hW, hsm⟩ := X.leaveThrown q (g := F0 m pc ls rest) rfl rfl rfl hout hlocks
  have hcell9 : (T.setFrames (.throwing q :: below)).heap[q]? = some ce := by
    show T.heap[q]? = some ce
    rw [hT]; exact hcell
  exact ⟨_, st1, .threw q, hrun, hend, Or.inr ⟨q, rfl, E, ce, locs, hx _ hT hW.alike, hcell9, hv, hcl, hW, hsm.mono hc hs, hf⟩⟩
theorem vx_frame {U : State} {k n : Nat} (h : s.sameButNew ({ U with vm := s.vm } : State) locs k n) : s.heap.size ≤ U.heap.size ∧ ∀ q : Nat, q < s.heap.size → (∀ z ∈ locs, z.base ≠ q) → U.heap[q]? = s.heap[q]? := by
  obtain ⟨-, h2, -, -, -, h6⟩ := h
  refine ⟨h2, fun q hq hz => ?_⟩
  obtain ⟨c9, e1, e2, e3, e4⟩ := h6 q _ (Array.getElem?_eq_getElem hq)
  have hs : c9.slots = (s.heap[q]).slots := Array.ext_getElem? fun i => e4 i fun hm => hz _ hm rfl
  have h9 : c9 = s.heap[q] := by
    rw [hs] at e2
    exact e2
  have e5 : U.heap[q]? = some c9 := e1
  rw [e5, h9, Array.getElem?_eq_getElem hq]
/-- the words of a throw but the four that speak of the heap -/
def vx_no (w : Cond) : Bool := decide (w ≠ .isRef (.static Bundle.tN "UNASSIGNED_STACK" Bundle.steD)) && decide (w ≠ .isRef (.static Bundle.tN "SUPPRESSED_SENTINEL" Bundle.listD)) && decide (w ≠ .laysStatic Bundle.tN "UNASSIGNED_STACK" Bundle.steD) && decide (w ≠ .laysStatic Bundle.tN "SUPPRESSED_SENTINEL" Bundle.listD)
def vx_at0 (own : String) (ic : Nat) (X : String) (names : List String) : List Cond := (Bundle.ownAtoms0 own ic X names).filter vx_no
def vx_atS (own : String) (ic : Nat) (X : String) (names : List String) : List Cond := (Bundle.ownAtoms own ic X names).filter vx_no
/-- a word that the tables alone decide, or a good one -/
def vx_ot (w : Cond) : Bool := w.onTables || goodWord w
theorem vx_ot_at {args a' : Array Value} {s U : State} {w : Cond} (hW : s.WarmedH U.vm) (hvm : s.vm = U.vm) (hg : vx_ot w = true) (h : w.before args s = true) : w.before a' U = true := by
  simp only [vx_ot, Bool.or_eq_true] at hg
  rcases hg with hg | hg
  · exact va_tabs hg hvm h
  · exact word_at hW (good_of_word hg) h
/-- a list's words: the good ones out of the method's own list, the others by premises of their own -/
theorem vx_hat {args : Array Value} {s : State} {L B : List Cond} (h1 : ∀ w ∈ L.filter goodWord, w.before args s = true) (h2 : ∀ w ∈ L.filter (fun w => !goodWord w), w ∈ B) (h3 : ∀ w ∈ B, w.before args s = true) : ∀ w ∈ L, w.before args s = true := by
  intro w hw
  by_cases g : goodWord w = true
  · exact h1 w (List.mem_filter.mpr ⟨hw, g⟩)
  · refine h3 w (h2 w (List.mem_filter.mpr ⟨hw, ?_⟩))
    show (!goodWord w) = true
    cases hgw : goodWord w
    · rfl
    · exact absurd hgw g
theorem vx_c {args : Array Value} {s : State} {w : Cond} {B : List Cond} (h : w.before args s = true) (t : ∀ w ∈ B, w.before args s = true) : ∀ w' ∈ w :: B, w'.before args s = true := fun w' h' => (List.mem_cons.mp h').elim (fun e => by rw [e]; exact h) (t w')
theorem vx_n {args : Array Value} {s : State} : ∀ w ∈ ([] : List Cond), w.before args s = true := fun _ h => nomatch h
theorem vx_own {args : Array Value} {s : State} {L : List Cond} (h1 : ∀ w ∈ L.filter vx_no, w.before args s = true)
    (hU : (Cond.isRef (.static Bundle.tN "UNASSIGNED_STACK" Bundle.steD)).before args s = true) (hN : (Cond.isRef (.static Bundle.tN "SUPPRESSED_SENTINEL" Bundle.listD)).before args s = true)
    (lU : (Cond.laysStatic Bundle.tN "UNASSIGNED_STACK" Bundle.steD).before args s = true) (lN : (Cond.laysStatic Bundle.tN "SUPPRESSED_SENTINEL" Bundle.listD).before args s = true) : ∀ w ∈ L, w.before args s = true := by
  intro w hw
  by_cases e1 : w = .isRef (.static Bundle.tN "UNASSIGNED_STACK" Bundle.steD)
  · rw [e1]; exact hU
  · by_cases e2 : w = .isRef (.static Bundle.tN "SUPPRESSED_SENTINEL" Bundle.listD)
    · rw [e2]; exact hN
    · by_cases e3 : w = .laysStatic Bundle.tN "UNASSIGNED_STACK" Bundle.steD
      · rw [e3]; exact lU
      · by_cases e4 : w = .laysStatic Bundle.tN "SUPPRESSED_SENTINEL" Bundle.listD
        · rw [e4]; exact lN
        · exact h1 w (List.mem_filter.mpr ⟨hw, by unfold vx_no; rw [decide_eq_true e1, decide_eq_true e2, decide_eq_true e3, decide_eq_true e4]; rfl⟩)
/-- where a static field lies, its class's statics cell in H -/
def vx_L (C n d : String) (A : Nat → Prop) (U : State) (H : Heap) : Prop := ∃ (c : ClassId) (k : Class) (i : Nat) (f : Field) (a : Nat) (cell : Cell), U.vm.findClass C = some c ∧ U.fieldFound? C n d = some (c, k, i, f) ∧ f.isStatic = true ∧ k.statics = some a ∧ H[a]? = some cell ∧ cell.vm.isStatics = true ∧ cell.cls = c ∧ f.slot < cell.slots.size ∧ k.staticTypes[f.slot]? = some f.type ∧ ¬ A a
theorem vx_L.moved {C n d : String} {A : Nat → Prop} {u U : State} {H : Heap} (hvm : u.vm.Alike U.vm) (h : vx_L C n d A u H) : vx_L C n d A U H := by
  obtain ⟨c, k, i, f, a, cell, h1, h2, h3, h4, h5, h6, h7, h8, h9, h10⟩ := h
  obtain ⟨k', hi', he⟩ := State.fieldFound?_setVm hvm h2
  exact ⟨c, k', i, f, a, cell, by rw [hvm.findClass]; exact h1, hi', h3, by rw [he]; exact h4, h5, h6, h7, h8, by rw [he]; exact h9, h10⟩
theorem vx_L.kept {C n d : String} {A : Nat → Prop} {U : State} {H H1 : Heap} (h : vx_L C n d A U H) (hq : ∀ a : Nat, a < H.size → ¬ A a → H1[a]? = H[a]?) : vx_L C n d A U H1 := by
  obtain ⟨c, k, i, f, a, cell, h1, h2, h3, h4, h5, h6, h7, h8, h9, h10⟩ := h
  exact ⟨c, k, i, f, a, cell, h1, h2, h3, h4, by rw [hq a (Array.getElem?_eq_some_iff.mp h5).1 h10]; exact h5, h6, h7, h8, h9, h10⟩
theorem vx_L.narrow {C n d : String} {A B : Nat → Prop} {U : State} {H : Heap} (h : vx_L C n d A U H) (hAB : ∀ q, B q → A q) : vx_L C n d B U H := by
  obtain ⟨c, k, i, f, a, cell, h1, h2, h3, h4, h5, h6, h7, h8, h9, h10⟩ := h
  exact ⟨c, k, i, f, a, cell, h1, h2, h3, h4, h5, h6, h7, h8, h9, fun z => h10 (hAB _ z)⟩
theorem vx_L.word {C n d : String} {A : Nat → Prop} {s : State} {args : Array Value} (h : vx_L C n d A s s.heap) : (Cond.laysStatic C n d).before args s = true := by
  obtain ⟨c, k, i, f, a, cell, h1, h2, h3, h4, h5, h6, h7, h8, h9, -⟩ := h
  show (Cond.laysStatic C n d).holds args s none s [] = true
  exact Cond.laysStatic_of h1 h2 h3 h4 h5 h6 h7 h8 h9
/-- .. and what it holds: null or some reference -/
def vx_Zq (C n d : String) (A : Nat → Prop) (U : State) (H : Heap) : Prop := va_Zq C n d A U H ∧ vx_L C n d A U H
theorem vx_Zq.moved {C n d : String} {A : Nat → Prop} {u U : State} {H : Heap} (hvm : u.vm.Alike U.vm) (h : vx_Zq C n d A u H) : vx_Zq C n d A U H := ⟨va_Zq.moved hvm h.1, vx_L.moved hvm h.2⟩
theorem vx_Zq.kept {C n d : String} {A : Nat → Prop} {U : State} {H H1 : Heap} (h : vx_Zq C n d A U H) (hq : ∀ a : Nat, a < H.size → ¬ A a → H1[a]? = H[a]?) : vx_Zq C n d A U H1 := ⟨va_Zq.kept h.1 hq, vx_L.kept h.2 hq⟩
theorem vx_Zq.narrow {C n d : String} {A B : Nat → Prop} {U : State} {H : Heap} (h : vx_Zq C n d A U H) (hAB : ∀ q, B q → A q) : vx_Zq C n d B U H := ⟨va_Zq.narrow h.1 hAB, vx_L.narrow h.2 hAB⟩
theorem vx_Zqof {args : Array Value} {s : State} {C n d : String} {A : Nat → Prop} (hl : (Cond.laysStatic C n d).before args s = true) (hini : (Cond.initialized C).before args s = true) (h : (Cond.isRef (.static C n d)).before args s = true) (hA : ∀ a : Nat, a < s.heap.size → ¬ A a) : vx_Zq C n d A s s.heap := by
  refine ⟨va_Zqof hl hini h hA, ?_⟩
  obtain ⟨c, k, i, f, a, cell, h1, h2, h3, h4, h5, h6, h7, h8, h9⟩ := Cond.laysStatic_spec hl
  exact ⟨c, k, i, f, a, cell, h1, h2, h3, h4, h5, h6, h7, h8, h9, hA a (Array.getElem?_eq_some_iff.mp h5).1⟩
theorem vx_isRef {C n d : String} {v : Value} {A : Nat → Prop} {s : State} {args : Array Value} (h : va_Z C n d v A s s.heap) (hv : v.isRef = true) : (Cond.isRef (.static C n d)).before args s = true := by
  obtain ⟨cf, kf, fi, f, a, cell, h1, h2, h3, h4, h5, h6, h7, -⟩ := h
  have he : (Term.static C n d).eval args s none [] s = some v := by
    simp [Term.eval, State.fieldNamed?, h1, h2, h4, h5, h6, h7]
  simp only [Cond.before, Cond.holds, Cond.value, he]
  cases v <;> simp_all [Value.isRef]
theorem vx_isRefq {C n d : String} {A : Nat → Prop} {s : State} {args : Array Value} (h : va_Zq C n d A s s.heap) : (Cond.isRef (.static C n d)).before args s = true := by
  rcases h with h | ⟨t, h⟩
  · exact vx_isRef h rfl
  · exact vx_isRef h rfl
/-- the same frame, seen from here: as if the method were called anew in this heap -/
theorem vx_rebase {T : State} (X : Stand p l e R s m args below meth c T locs cells slots) {R' : Room} (hf : R'.frames ≤ R.frames) (hl : R'.locals ≤ R.locals) (hc : cells + R'.cells ≤ R.cells) (hs : slots + R'.slots ≤ R.slots) :
    Stand p l e R' ((T.setVm s.vm).setFrames (.invoking m args :: below)) m args below meth c T [] 0 0 := by
  have htop : (T.setVm s.vm).topJava?.isSome := X.here.top
  have hF : ((T.setVm s.vm).setFrames (.invoking m args :: below)).frames = .invoking m args :: below := State.frames_setFrames _ (State.cur_lt_of_top htop)
  obtain ⟨g₀, hg0⟩ := Option.isSome_iff_exists.mp htop
  obtain ⟨r, hr⟩ := State.topJava?_eq_some.mp hg0
  have hl9 : e.platform.stackLimits (T.setVm s.vm).me = e.platform.stackLimits s.me := X.limits
  have hb9 : (T.setVm s.vm).me.stackBytes = s.me.stackBytes := X.bytes
  refine ⟨X.admits, X.cas, X.clock, hF, ?_, X.hears, X.method, X.code, X.here, X.tail, X.warmed, ?_, ?_, ?_⟩
  · have h := X.room
    have hU : ((T.setVm s.vm).setFrames (.invoking m args :: below)).localsInUse = s.localsInUse := by
      rw [State.localsInUse_invoking hF (meth := meth) (c := c) X.method X.code, State.localsInUse_invoking X.frames X.method X.code]
    simp only [State.hasRoom, Bool.and_eq_true, decide_eq_true_eq] at h ⊢
    obtain ⟨⟨⟨⟨h1, h2, h3, h4, h5, h6⟩, h7⟩, h8⟩, h9⟩ := h
    rw [X.frames, List.length_cons] at h2 h3
    have q1 := X.heapSize
    have q2 := X.used
    simp only [hF, hU, List.length_cons, State.stackLimits_setFrames, State.stackBytes_setFrames, hl9, hb9]
    refine ⟨⟨⟨⟨by omega, by omega, by omega, by omega, by omega, h6⟩, ?_⟩, ?_⟩, X.book⟩
    · show T.heap.size + R'.cells ≤ e.platform.maxCells
      omega
    · show T.slotsUsed + R'.slots ≤ e.platform.maxSlots
      omega
  · rw [State.stackLimits_setFrames]; rfl
  · rw [State.stackBytes_setFrames]; rfl
  · refine ⟨?_, Nat.le_refl _, Nat.le_refl _, ?_, ?_, fun a c9 h9 => ⟨c9, h9, rfl, rfl, fun _ _ => rfl⟩⟩
    · obtain ⟨t, ht, -⟩ := State.frames_cons hr
      show T.setVm s.vm = { ((T.setVm s.vm).setFrames (.invoking m args :: below)).setFrames (T.setVm s.vm).frames with heap := T.heap, slotsUsed := T.slotsUsed }
      rw [State.setFrames_setFrames, State.setFrames_self ht]
      rfl
    · show T.slotsUsed = T.slotsUsed + ((T.heap.toList.drop T.heap.size).map (·.slots.size)).sum
      rw [List.drop_eq_nil_of_le (Nat.le_of_eq Array.length_toList)]
      rfl
    · show ((T.heap.toList.drop T.heap.size).map (·.slots.size)).sum ≤ 0
      rw [List.drop_eq_nil_of_le (Nat.le_of_eq Array.length_toList)]
      exact Nat.le_refl _
/-- 'throw new E()': new; dup; invokespecial; athrow -/
theorem vx_throw0 {cc : ByteArray} {pc : Nat} (hexec : p.tables.exec = Jvm.exec) (hb : c.code = cc) (hl : l.stackTraces = false) {own cls : String} {names : List String} {ik ic mc ms : Nat} {A : Nat → Prop}
    (hown : s.vm.findClass own = some m.cls) (hcls : Bundle.fit cls = true) (hnames : ∀ n ∈ names, Bundle.fit n = true)
    (hk : (Cond.classLink own ik cls).before args s = true) (hini : (Cond.initialized cls).before args s = true) (hat : ∀ w ∈ vx_at0 own ic cls names, w.before args s = true)
    (hgood : ∀ w ∈ Cond.classLink own ik cls :: Cond.initialized cls :: vx_at0 own ic cls names, vx_ot w = true)
    (hU : vx_Zq Bundle.tN "UNASSIGNED_STACK" Bundle.steD A s s.heap) (hN : vx_Zq Bundle.tN "SUPPRESSED_SENTINEL" Bundle.listD A s s.heap) (hS : va_S A s.heap H locs) (hsize : ls.size = c.maxLocals)
    (d0 : decode cc pc = .ok (.new ik, 3)) (d3 : decode cc (pc + 3) = .ok (.dup, 1)) (d4 : decode cc (pc + 4) = .ok (.invokespecial ic, 3)) (d7 : decode cc (pc + 7) = .ok (.athrow, 1))
    (hout : ∀ x ∈ c.exceptionTable.toList, covers x (pc + 7) = false)
    (hRframes : names.length + 3 < R.frames) (hRlocals : (rest.map fun v => v.category).sum + (13 * (names.length + 1) + 42) ≤ R.locals) (hRcells : cells + 1 ≤ R.cells) (hRslots : slots + 6 ≤ R.slots) (hlocks : meth.locks = false)
    (hx : ∀ t : State, s.vm.Alike t.vm → H.size ≤ t.heap.size → (∀ q : Nat, q < H.size → t.heap[q]? = H[q]?) → XC cls s t)
    (hf : ∀ z ∈ locs, free z.base) (hc : cells + 1 ≤ mc) (hs : slots + 6 ≤ ms) :
    W p l e R s m args below meth c H locs cells slots (vx_MQ below Qc XC args s mc ms free) (F0 m pc ls rest) := by
  intro T hT X
  have htr : e.platform.stackTraces = false := (show e.platform.stackTraces = l.stackTraces by rw [X.admits.platform]).trans hl
  have Y := vx_rebase X (R' := { frames := R.frames, locals := R.locals, cells := 1, slots := 6 }) (Nat.le_refl _) (Nat.le_refl _) hRcells hRslots
  obtain ⟨s', hA⟩ : ∃ z, z = (T.setVm s.vm).setFrames (.invoking m args :: below) := ⟨_, rfl⟩
  rw [← hA] at Y
  have hvm : s'.vm = s.vm := by rw [hA]; rfl
  have hhp : s'.heap = H := by rw [hA]; exact hT
  have hW0 : s.WarmedH s'.vm := by rw [hvm]; exact State.WarmedH.refl s
  have hat' : ∀ w ∈ vx_at0 own ic cls names, w.before args s' = true := fun w hw => vx_ot_at hW0 hvm.symm (hgood w (List.mem_cons_of_mem _ (List.mem_cons_of_mem _ hw))) (hat w hw)
  have hk' : (Cond.classLink own ik cls).before args s' = true := vx_ot_at hW0 hvm.symm (hgood _ List.mem_cons_self) hk
  have hini' : (Cond.initialized cls).before args s' = true := vx_ot_at hW0 hvm.symm (hgood _ (List.mem_cons_of_mem _ List.mem_cons_self)) hini
  have hU' : vx_Zq Bundle.tN "UNASSIGNED_STACK" Bundle.steD A s' s'.heap := by rw [hhp]; exact vx_Zq.moved hW0.alike (hU.kept hS.2.1)
  have hN' : vx_Zq Bundle.tN "SUPPRESSED_SENTINEL" Bundle.listD A s' s'.heap := by rw [hhp]; exact vx_Zq.moved hW0.alike (hN.kept hS.2.1)
  have h : ∀ w ∈ Bundle.ownAtoms0 own ic cls names, w.before args s' = true := vx_own hat' (vx_isRefq hU'.1) (vx_isRefq hN'.1) hU'.2.word hN'.2.word
  have hown' : s'.vm.findClass own = some m.cls := by rw [hvm]; exact hown
  have hins : (Cond.instantiable cls 6).before args s' = true := h _ (by simp [Bundle.ownAtoms0])
  obtain ⟨vm₁, cX, kX, hfX, hkX, -, -, X₁, st1⟩ := Y.newCold hexec (own := own) (C := cls) (index := ik) (n := 6) hown' hk' hins hini'
    (g := F0 m pc ls rest) rfl (by rw [hb]; exact d0) (Nat.le_refl _) (Nat.le_refl _)
  generalize hT1 : (T.setVm vm₁).pushCell { cls := cX, slots := kX.instanceTypes.map defaultValue, vm := .none } = T1 at X₁ st1
  have hcat : (Value.ref T.heap.size).category = 1 := rfl
  have hcellA : T1.heap[T.heap.size]? = some (freshCell cX kX) := by rw [← hT1]; exact State.heap_pushCell_size _ _
  have d3' : decode c.code (pc + 3) = .ok (.dup, 1) := by rw [hb]; exact d3
  obtain ⟨U, hsteps, hrun, hend, hW, hsame, ce, hce, hO⟩ := X₁.ctorThrow0 hexec htr (own := own) (cls := cls) (names := names) (ic := ic) hown' hcls hnames h (fun x hx => nomatch hx) hfX hkX hcellA (by rw [hhp, hT]; exact Nat.le_refl _)
    (g := { method := m, pc := pc + 4, locals := ls, stack := .ref T.heap.size :: .ref T.heap.size :: rest, locked := none }) rfl hsize rfl rfl (rest := rest) rfl
    (by rw [hb]; exact d4) (by rw [hb]; exact d7) hout hRframes (by simp only [List.map_cons, List.sum_cons, hcat]; omega) hlocks
  obtain ⟨f1, f2⟩ := vx_frame hsame
  rw [hhp] at f1 f2
  have hWs : s.WarmedH U.vm := State.WarmedH.trans hW0 hW
  have hcl : s.vm.findClass cls = some ce.cls := by
    have h9 := hO.cls
    rw [hvm] at h9
    exact h9
  have hall : s.sameButNew ({ U with vm := s.vm } : State) locs mc ms := by
    subst hA
    obtain ⟨e1, e2⟩ := hsame
    rw [State.setFrames_setFrames] at e1
    have h2 : (T.setVm s.vm).sameButNew ({ U with vm := s.vm } : State) [] (0 + 1) (0 + 6) := ⟨e1, e2⟩
    have h3 := X.same.trans h2
    rw [List.append_nil] at h3
    exact h3.mono hc hs
  refine ⟨U, ?_, .threw T.heap.size, hrun, hend, Or.inr ⟨T.heap.size, rfl, cls, ce, locs, hx U hWs.alike f1 (fun q hq => f2 q hq (fun z hz => nomatch hz)), hce, hO.vm, hcl, hWs, hall, hf⟩⟩
  refine st1 _ ?_
  show Steps p.tables e below (T1.setTop { method := m, pc := pc + 3, locals := ls, stack := .ref T.heap.size :: rest, locked := none }) _
  jvm_step X₁.here [X₁.here.top, hexec, d3', Value.category]
  exact hsteps
/-- 'throw new E("text")': new; dup; ldc; invokespecial; athrow -/
theorem vx_throwS {cc : ByteArray} {pc : Nat} (hexec : p.tables.exec = Jvm.exec) (hb : c.code = cc) (hl : l.stackTraces = false) {own cls text : String} {names : List String} {ik is ic mc ms sa : Nat} {A : Nat → Prop}
    (hown : s.vm.findClass own = some m.cls) (hcls : Bundle.fit cls = true) (hnames : ∀ n ∈ names, Bundle.fit n = true)
    (hk : (Cond.classLink own ik cls).before args s = true) (hini : (Cond.initialized cls).before args s = true) (hstr : vk_R own is text sa s) (hat : ∀ w ∈ vx_atS own ic cls names, w.before args s = true)
    (hgood : ∀ w ∈ Cond.classLink own ik cls :: Cond.initialized cls :: vx_atS own ic cls names, vx_ot w = true)
    (hU : vx_Zq Bundle.tN "UNASSIGNED_STACK" Bundle.steD A s s.heap) (hN : vx_Zq Bundle.tN "SUPPRESSED_SENTINEL" Bundle.listD A s s.heap) (hS : va_S A s.heap H locs) (hsize : ls.size = c.maxLocals)
    (d0 : decode cc pc = .ok (.new ik, 3)) (d3 : decode cc (pc + 3) = .ok (.dup, 1)) (d4 : decode cc (pc + 4) = .ok (.ldc is, 2)) (d6 : decode cc (pc + 6) = .ok (.invokespecial ic, 3)) (d9 : decode cc (pc + 9) = .ok (.athrow, 1))
    (hout : ∀ x ∈ c.exceptionTable.toList, covers x (pc + 9) = false)
    (hRframes : names.length + 3 < R.frames) (hRlocals : (rest.map fun v => v.category).sum + (13 * (names.length + 1) + 43) ≤ R.locals) (hRcells : cells + 1 ≤ R.cells) (hRslots : slots + 6 ≤ R.slots) (hlocks : meth.locks = false)
    (hx : ∀ t : State, s.vm.Alike t.vm → H.size ≤ t.heap.size → (∀ q : Nat, q < H.size → t.heap[q]? = H[q]?) → XC cls s t)
    (hf : ∀ z ∈ locs, free z.base) (hc : cells + 1 ≤ mc) (hs : slots + 6 ≤ ms) :
    W p l e R s m args below meth c H locs cells slots (vx_MQ below Qc XC args s mc ms free) (F0 m pc ls rest) := by
  intro T hT X
  have htr : e.platform.stackTraces = false := (show e.platform.stackTraces = l.stackTraces by rw [X.admits.platform]).trans hl
  have Y := vx_rebase X (R' := { frames := R.frames, locals := R.locals, cells := 1, slots := 6 }) (Nat.le_refl _) (Nat.le_refl _) hRcells hRslots
  obtain ⟨s', hA⟩ : ∃ z, z = (T.setVm s.vm).setFrames (.invoking m args :: below) := ⟨_, rfl⟩
  rw [← hA] at Y
  have hvm : s'.vm = s.vm := by rw [hA]; rfl
  have hhp : s'.heap = H := by rw [hA]; exact hT
  have hW0 : s.WarmedH s'.vm := by rw [hvm]; exact State.WarmedH.refl s
  have hat' : ∀ w ∈ vx_atS own ic cls names, w.before args s' = true := fun w hw => vx_ot_at hW0 hvm.symm (hgood w (List.mem_cons_of_mem _ (List.mem_cons_of_mem _ hw))) (hat w hw)
  have hk' : (Cond.classLink own ik cls).before args s' = true := vx_ot_at hW0 hvm.symm (hgood _ List.mem_cons_self) hk
  have hini' : (Cond.initialized cls).before args s' = true := vx_ot_at hW0 hvm.symm (hgood _ (List.mem_cons_of_mem _ List.mem_cons_self)) hini
  have hU' : vx_Zq Bundle.tN "UNASSIGNED_STACK" Bundle.steD A s' s'.heap := by rw [hhp]; exact vx_Zq.moved hW0.alike (hU.kept hS.2.1)
  have hN' : vx_Zq Bundle.tN "SUPPRESSED_SENTINEL" Bundle.listD A s' s'.heap := by rw [hhp]; exact vx_Zq.moved hW0.alike (hN.kept hS.2.1)
  have h : ∀ w ∈ Bundle.ownAtoms own ic cls names, w.before args s' = true := vx_own hat' (vx_isRefq hU'.1) (vx_isRefq hN'.1) hU'.2.word hN'.2.word
  have hown' : s'.vm.findClass own = some m.cls := by rw [hvm]; exact hown
  have hins : (Cond.instantiable cls 6).before args s' = true := h _ (by simp [Bundle.ownAtoms])
  obtain ⟨vm₁, cX, kX, hfX, hkX, -, -, X₁, st1⟩ := Y.newCold hexec (own := own) (C := cls) (index := ik) (n := 6) hown' hk' hins hini'
    (g := F0 m pc ls rest) rfl (by rw [hb]; exact d0) (Nat.le_refl _) (Nat.le_refl _)
  generalize hT1 : (T.setVm vm₁).pushCell { cls := cX, slots := kX.instanceTypes.map defaultValue, vm := .none } = T1 at X₁ st1
  have hcat : (Value.ref T.heap.size).category = 1 := rfl
  have hcellA : T1.heap[T.heap.size]? = some (freshCell cX kX) := by rw [← hT1]; exact State.heap_pushCell_size _ _
  have d3' : decode c.code (pc + 3) = .ok (.dup, 1) := by rw [hb]; exact d3
  have d4' : decode c.code (pc + 4) = .ok (.ldc is, 2) := by rw [hb]; exact d4
  have hstr' : vk_R own is text sa s' := vk_R.warm hW0 hstr
  obtain ⟨U, hsteps, hrun, hend, hW, hsame, ce, hce, hO⟩ := X₁.ctorThrowS hexec htr (own := own) (cls := cls) (names := names) (ic := ic) hown' hcls hnames h (fun x hx => nomatch hx) hfX hkX hcellA (by rw [hhp, hT]; exact Nat.le_refl _) (msg := .ref sa) rfl
    (g := { method := m, pc := pc + 6, locals := ls, stack := .ref sa :: .ref T.heap.size :: .ref T.heap.size :: rest, locked := none }) rfl hsize rfl rfl (rest := rest) rfl
    (by rw [hb]; exact d6) (by rw [hb]; exact d9) hout hRframes (by simp only [List.map_cons, List.sum_cons, hcat]; omega) hlocks
  obtain ⟨f1, f2⟩ := vx_frame hsame
  rw [hhp] at f1 f2
  have hWs : s.WarmedH U.vm := State.WarmedH.trans hW0 hW
  have hcl : s.vm.findClass cls = some ce.cls := by
    have h9 := hO.cls
    rw [hvm] at h9
    exact h9
  have hall : s.sameButNew ({ U with vm := s.vm } : State) locs mc ms := by
    subst hA
    obtain ⟨e1, e2⟩ := hsame
    rw [State.setFrames_setFrames] at e1
    have h2 : (T.setVm s.vm).sameButNew ({ U with vm := s.vm } : State) [] (0 + 1) (0 + 6) := ⟨e1, e2⟩
    have h3 := X.same.trans h2
    rw [List.append_nil] at h3
    exact h3.mono hc hs
  refine ⟨U, ?_, .threw T.heap.size, hrun, hend, Or.inr ⟨T.heap.size, rfl, cls, ce, locs, hx U hWs.alike f1 (fun q hq => f2 q hq (fun z hz => nomatch hz)), hce, hO.vm, hcl, hWs, hall, hf⟩⟩
  refine st1 _ ?_
  show Steps p.tables e below (T1.setTop { method := m, pc := pc + 3, locals := ls, stack := .ref T.heap.size :: rest, locked := none }) _
  jvm_step X₁.here [X₁.here.top, hexec, d3', Value.category]
  exact X₁.ldcString hexec (own := own) (text := text) (index := is) (a := sa) hown' hstr'.1 hstr'.2
    (g := { method := m, pc := pc + 4, locals := ls, stack := .ref T.heap.size :: .ref T.heap.size :: rest, locked := none }) rfl d4' _ hsteps
/-- 'throw new E("text")', the text by a wide index -/
theorem vx_throwSW {cc : ByteArray} {pc : Nat} (hexec : p.tables.exec = Jvm.exec) (hb : c.code = cc) (hl : l.stackTraces = false) {own cls text : String} {names : List String} {ik is ic mc ms sa : Nat} {A : Nat → Prop}
    (hown : s.vm.findClass own = some m.cls) (hcls : Bundle.fit cls = true) (hnames : ∀ n ∈ names, Bundle.fit n = true)
    (hk : (Cond.classLink own ik cls).before args s = true) (hini : (Cond.initialized cls).before args s = true) (hstr : vk_R own is text sa s) (hat : ∀ w ∈ vx_atS own ic cls names, w.before args s = true)
    (hgood : ∀ w ∈ Cond.classLink own ik cls :: Cond.initialized cls :: vx_atS own ic cls names, vx_ot w = true)
    (hU : vx_Zq Bundle.tN "UNASSIGNED_STACK" Bundle.steD A s s.heap) (hN : vx_Zq Bundle.tN "SUPPRESSED_SENTINEL" Bundle.listD A s s.heap) (hS : va_S A s.heap H locs) (hsize : ls.size = c.maxLocals)
    (d0 : decode cc pc = .ok (.new ik, 3)) (d3 : decode cc (pc + 3) = .ok (.dup, 1)) (d4 : decode cc (pc + 4) = .ok (.ldc_w is, 3)) (d7 : decode cc (pc + 7) = .ok (.invokespecial ic, 3)) (d10 : decode cc (pc + 10) = .ok (.athrow, 1))
    (hout : ∀ x ∈ c.exceptionTable.toList, covers x (pc + 10) = false)
    (hRframes : names.length + 3 < R.frames) (hRlocals : (rest.map fun v => v.category).sum + (13 * (names.length + 1) + 43) ≤ R.locals) (hRcells : cells + 1 ≤ R.cells) (hRslots : slots + 6 ≤ R.slots) (hlocks : meth.locks = false)
    (hx : ∀ t : State, s.vm.Alike t.vm → H.size ≤ t.heap.size → (∀ q : Nat, q < H.size → t.heap[q]? = H[q]?) → XC cls s t)
    (hf : ∀ z ∈ locs, free z.base) (hc : cells + 1 ≤ mc) (hs : slots + 6 ≤ ms) :
    W p l e R s m args below meth c H locs cells slots (vx_MQ below Qc XC args s mc ms free) (F0 m pc ls rest) := by
  intro T hT X
  have htr : e.platform.stackTraces = false := (show e.platform.stackTraces = l.stackTraces by rw [X.admits.platform]).trans hl
  have Y := vx_rebase X (R' := { frames := R.frames, locals := R.locals, cells := 1, slots := 6 }) (Nat.le_refl _) (Nat.le_refl _) hRcells hRslots
  obtain ⟨s', hA⟩ : ∃ z, z = (T.setVm s.vm).setFrames (.invoking m args :: below) := ⟨_, rfl⟩
  rw [← hA] at Y
  have hvm : s'.vm = s.vm := by rw [hA]; rfl
  have hhp : s'.heap = H := by rw [hA]; exact hT
  have hW0 : s.WarmedH s'.vm := by rw [hvm]; exact State.WarmedH.refl s
  have hat' : ∀ w ∈ vx_atS own ic cls names, w.before args s' = true := fun w hw => vx_ot_at hW0 hvm.symm (hgood w (List.mem_cons_of_mem _ (List.mem_cons_of_mem _ hw))) (hat w hw)
  have hk' : (Cond.classLink own ik cls).before args s' = true := vx_ot_at hW0 hvm.symm (hgood _ List.mem_cons_self) hk
  have hini' : (Cond.initialized cls).before args s' = true := vx_ot_at hW0 hvm.symm (hgood _ (List.mem_cons_of_mem _ List.mem_cons_self)) hini
  have hU' : vx_Zq Bundle.tN "UNASSIGNED_STACK" Bundle.steD A s' s'.heap := by rw [hhp]; exact vx_Zq.moved hW0.alike (hU.kept hS.2.1)
  have hN' : vx_Zq Bundle.tN "SUPPRESSED_SENTINEL" Bundle.listD A s' s'.heap := by rw [hhp]; exact vx_Zq.moved hW0.alike (hN.kept hS.2.1)
  have h : ∀ w ∈ Bundle.ownAtoms own ic cls names, w.before args s' = true := vx_own hat' (vx_isRefq hU'.1) (vx_isRefq hN'.1) hU'.2.word hN'.2.word
  have hown' : s'.vm.findClass own = some m.cls := by rw [hvm]; exact hown
  have hins : (Cond.instantiable cls 6).before args s' = true := h _ (by simp [Bundle.ownAtoms])
  obtain ⟨vm₁, cX, kX, hfX, hkX, -, -, X₁, st1⟩ := Y.newCold hexec (own := own) (C := cls) (index := ik) (n := 6) hown' hk' hins hini'
    (g := F0 m pc ls rest) rfl (by rw [hb]; exact d0) (Nat.le_refl _) (Nat.le_refl _)
  generalize hT1 : (T.setVm vm₁).pushCell { cls := cX, slots := kX.instanceTypes.map defaultValue, vm := .none } = T1 at X₁ st1
  have hcat : (Value.ref T.heap.size).category = 1 := rfl
  have hcellA : T1.heap[T.heap.size]? = some (freshCell cX kX) := by rw [← hT1]; exact State.heap_pushCell_size _ _
  have d3' : decode c.code (pc + 3) = .ok (.dup, 1) := by rw [hb]; exact d3
  have d4' : decode c.code (pc + 4) = .ok (.ldc_w is, 3) := by rw [hb]; exact d4
  have hstr' : vk_R own is text sa s' := vk_R.warm hW0 hstr
  obtain ⟨U, hsteps, hrun, hend, hW, hsame, ce, hce, hO⟩ := X₁.ctorThrowS hexec htr (own := own) (cls := cls) (names := names) (ic := ic) hown' hcls hnames h (fun x hx => nomatch hx) hfX hkX hcellA (by rw [hhp, hT]; exact Nat.le_refl _) (msg := .ref sa) rfl
    (g := { method := m, pc := pc + 7, locals := ls, stack := .ref sa :: .ref T.heap.size :: .ref T.heap.size :: rest, locked := none }) rfl hsize rfl rfl (rest := rest) rfl
    (by rw [hb]; exact d7) (by rw [hb]; exact d10) hout hRframes (by simp only [List.map_cons, List.sum_cons, hcat]; omega) hlocks
  obtain ⟨f1, f2⟩ := vx_frame hsame
  rw [hhp] at f1 f2
  have hWs : s.WarmedH U.vm := State.WarmedH.trans hW0 hW
  have hcl : s.vm.findClass cls = some ce.cls := by
    have h9 := hO.cls
    rw [hvm] at h9
    exact h9
  have hall : s.sameButNew ({ U with vm := s.vm } : State) locs mc ms := by
    subst hA
    obtain ⟨e1, e2⟩ := hsame
    rw [State.setFrames_setFrames] at e1
    have h2 : (T.setVm s.vm).sameButNew ({ U with vm := s.vm } : State) [] (0 + 1) (0 + 6) := ⟨e1, e2⟩
    have h3 := X.same.trans h2
    rw [List.append_nil] at h3
    exact h3.mono hc hs
  refine ⟨U, ?_, .threw T.heap.size, hrun, hend, Or.inr ⟨T.heap.size, rfl, cls, ce, locs, hx U hWs.alike f1 (fun q hq => f2 q hq (fun z hz => nomatch hz)), hce, hO.vm, hcl, hWs, hall, hf⟩⟩
  refine st1 _ ?_
  show Steps p.tables e below (T1.setTop { method := m, pc := pc + 3, locals := ls, stack := .ref T.heap.size :: rest, locked := none }) _
  jvm_step X₁.here [X₁.here.top, hexec, d3', Value.category]
  exact X₁.ldcStringW hexec (own := own) (text := text) (index := is) (a := sa) hown' hstr'.1 hstr'.2
    (g := { method := m, pc := pc + 4, locals := ls, stack := .ref T.heap.size :: .ref T.heap.size :: rest, locked := none }) rfl d4' _ hsteps
end Ends
section Bodies
variable {l : Launch}
theorem vx_ofW {y : MethodName} {ws ws' : List Cond} {rm : Room} {Pc : Array Value → State → Prop} {Qc : Array Value → State → Outcome → State → Prop} {XC : String → State → State → Prop} {mc ms : Nat} {free : Addr → Prop} {cc : ByteArray} {maxL : Nat} {ret : Option FieldType}
    (hy : plainName y.cls = true) (hw : ws = Cond.code y cc maxL ret :: ws')
    (body : ∀ p e s m args below meth c s₁, BodyLoose p l y (headSpec ws rm) cc maxL ret e s m args below meth c s₁ → c.maxLocals = maxL → (∀ x ∈ c.exceptionTable.toList, False) → Pc args s →
      W p l e (headSpec ws rm).room s m args below meth c s.heap [] 0 0 (vx_MQ below Qc XC args s mc ms free) (entryFrame m args maxL)) : vx_Met l y ws rm Pc Qc XC mc ms free := by
  refine MetFree.of_bodyS (code := cc) (maxLocals := maxL) (ret := ret) hy ?_ ?_
  · intro args s m h hn
    obtain ⟨meth, c, h1, h2, h3, h4, h5, h6, -, -⟩ := Cond.code_spec hn (atoms_spec (ws := ws) h _ (by rw [hw]; exact List.mem_cons_self))
    exact ⟨meth, c, h1, h2, h3, h4, h5, h6⟩
  · intro p e s m args below meth c s₁ B hml hP _
    have hh0 : s₁.heap = s.heap := by rw [B.state]; rfl
    have ht : ∀ x ∈ c.exceptionTable.toList, False := by
      obtain ⟨meth9, c9, h1, h2, -, -, -, -, h7, -⟩ := Cond.code_spec B.named (atoms_spec (ws := ws) B.pre _ (by rw [hw]; exact List.mem_cons_self))
      cases Option.some.inj (h1.symm.trans B.method)
      cases Option.some.inj (h2.symm.trans (Stand.of_body B).code)
      intro x hx
      rw [Array.isEmpty_iff.mp h7] at hx
      cases hx
    obtain ⟨t, a1, o, b1, b2, b3⟩ := body p e s m args below meth c s₁ B hml ht hP s₁ hh0 (Stand.of_body B)
    exact ⟨t, o, a1, b1, b2, b3⟩
/-- the table of a body with handlers -/
theorem vx_table {p : Program} {x y : MethodName} {S : Spec} {cc bytes : ByteArray} {maxL maxL' : Nat} {ret ret' : Option FieldType} {e : Env} {s s₁ : State} {m : MethodId} {args : Array Value} {below : List Frame} {meth : Method} {c : Code} {hh : List (Nat × Nat × Nat × Nat)}
    (B : BodyLoose p l y S cc maxL ret e s m args below meth c s₁) (h : (Cond.codeWith y bytes maxL' ret' hh).before args s = true) : c.exceptionTable.toList = tableOf hh := by
  obtain ⟨m9, meth9, c9, hn9, h1, h2, -, -, h6, -⟩ := Cond.codeWith_spec h
  cases Option.some.inj (hn9.symm.trans B.named)
  cases Option.some.inj (h1.symm.trans B.method)
  cases Option.some.inj (h2.symm.trans (Stand.of_body B).code)
  rw [← h6, table_eq]
end Bodies
end VXA
/-! ===== END ===== -/
/-! ===== BEGIN a static call of a method with an exception table ===== -/
section VXS
variable {p : Program} {l : Launch} {e : Env} {R : Room} {s : State} {m : MethodId} {args : Array Value} {below : List Frame} {meth : Method} {c : Code} {T : State} {H : Heap} {locs : List Loc} {cells slots : Nat}
abbrev vx_CSW (R : Room) (s : State) (args : Array Value) (own : String) (index : Nat) (y : MethodName) (bytes : ByteArray) (maxL : Nat) (ret : Option FieldType) (hh : List (Nat × Nat × Nat × Nat)) (ws : List Cond) (rm : Room) (mc ms n : Nat) : Prop :=
  (rm.cells = mc ∧ rm.slots = ms ∧ rm.frames + 1 ≤ R.frames ∧ 8 + (maxL + 11) + rm.locals ≤ R.locals ∧ (∀ w ∈ ws, ∀ (a' : Array Value) (U : State), s.WarmedH U.vm → w.before a' U = true) ∧ Cond.codeWith y bytes maxL ret hh ∈ ws) ∧
  (Cond.codeWith y bytes maxL ret hh).before args s = true ∧ (Cond.initialized y.cls).before args s = true ∧ (y.cls ≠ "java/lang/invoke/MethodHandle" ∧ y.cls ≠ "java/lang/invoke/VarHandle") ∧
  (∀ sig, parseMethodDescriptor y.desc = some sig → n = sig.parameters.length) ∧ (Cond.methodLink own index y).before args s = true ∧ (Cond.static y).before args s = true
theorem vx_cwSW {own : String} {index maxL mc ms : Nat} {y : MethodName} {bytes : ByteArray} {ret : Option FieldType} {hh : List (Nat × Nat × Nat × Nat)} {Ts ws ws' : List Cond} {rm : Room} (n : Nat) (ht : ∀ w ∈ Ts, w.before args s = true) (hT : GoodIn Ts (va_wsS own index y ws)) (hw : ws = Cond.codeWith y bytes maxL ret hh :: ws') (hrc : rm.cells = mc) (hrs : rm.slots = ms)
    (hd : y.cls ≠ "java/lang/invoke/MethodHandle" ∧ y.cls ≠ "java/lang/invoke/VarHandle" ∧ (parseMethodDescriptor y.desc).map (fun d => d.parameters.length) = some n) (hR : rm.frames + 1 ≤ R.frames ∧ 8 + (maxL + 11) + rm.locals ≤ R.locals) :
    vx_CSW R s args own index y bytes maxL ret hh ws rm mc ms n := by
  have ok : ∀ w ∈ va_wsS own index y ws, w.before args s = true := fun w h => ht w (hT w h).1
  have hG : GoodIn Ts ws := fun w h => hT w (by unfold va_wsS; exact List.mem_append_right _ h)
  have hc : Cond.codeWith y bytes maxL ret hh ∈ ws := by rw [hw]; exact List.mem_cons_self
  refine ⟨⟨hrc, hrs, hR.1, hR.2, pay_in ht hG, hc⟩, ht _ (hG _ hc).1, ok _ (by simp [va_wsS]), ⟨hd.1, hd.2.1⟩, fun sig h => ?_, ok _ (by simp [va_wsS]), ok _ (by simp [va_wsS])⟩
  have h2 := hd.2.2
  rw [h] at h2
  exact (Option.some.inj h2).symm
theorem vx_callSW (X : Stand p l e R s m args below meth c T locs cells slots) (hexec : p.tables.exec = Jvm.exec) {own : String} {index : Nat} {y : MethodName} {bytes : ByteArray} {maxL : Nat} {ret : Option FieldType} {hh : List (Nat × Nat × Nat × Nat)}
    (hown : s.vm.findClass own = some m.cls) (hlink : (Cond.methodLink own index y).before args s = true) (hstat : (Cond.static y).before args s = true) (hinit : (Cond.initialized y.cls).before args s = true)
    (hcode : (Cond.codeWith y bytes maxL ret hh).before args s = true) (hy : y.cls ≠ "java/lang/invoke/MethodHandle" ∧ y.cls ≠ "java/lang/invoke/VarHandle")
    {W9 : Nat} {Pre : Pt → Array Value → Prop} {Post : Pt → Array Value → Option Value → Pt → Prop} (hK : Back l R p e below s args y 3 W9 Pre Post)
    {g : JFrame} (hg : g.method = m) (hsize : g.locals.size = c.maxLocals) {argsL rest : List Value} (hlen : ∀ sig, parseMethodDescriptor y.desc = some sig → argsL.length = sig.parameters.length)
    (hstack : g.stack = argsL.reverse ++ rest) (hW : 2 * g.monitorRoom + (rest.map fun v => v.category).sum ≤ W9) (hdg : decode c.code g.pc = .ok (.invokestatic index, 3))
    (hpre : ∀ vm₁, s.WarmedH vm₁ → Pre ⟨T.setVm vm₁, locs, cells, slots⟩ argsL.toArray) :
    ∃ (v : Option Value) (vm₁ : Vm) (B : Pt), s.WarmedH vm₁ ∧ Stand p l e R s m args below meth c B.U B.locs B.cells B.slots ∧ Post ⟨T.setVm vm₁, locs, cells, slots⟩ argsL.toArray v B ∧
      ∀ target, Steps p.tables e below (B.U.setTop { g with pc := g.pc + 3, stack := v.toList ++ rest }) target → Steps p.tables e below (T.setTop g) target := by
  obtain ⟨mk, methM, cM, hnamed, hmethM, -, -, -, -, -, -, hsigM⟩ := Cond.codeWith_spec hcode
  have hstatic : methM.isStatic = true := Cond.static_spec hnamed hmethM hstat
  obtain ⟨kP, hkP, -⟩ := className_of_methodNamed hnamed
  have hinitP : kP.init = .initialized := Cond.initialized_spec (findClass_of_methodNamed hnamed) hkP hinit
  obtain ⟨vm₁, X₁, hstep₁⟩ := X.invokestatic hexec hown hlink hnamed hmethM hstatic hkP hinitP hy (g := g) hg (argsL := argsL) (rest := rest) (hlen _ hsigM) hstack hdg
  obtain ⟨v, B, X', hpost, hsteps⟩ := hK m meth c ⟨T.setVm vm₁, locs, cells, slots⟩ { g with stack := rest } (.invokestatic index) mk argsL.toArray X₁ hg hsize hdg hW (X₁.named hnamed) (hpre vm₁ X₁.warmed)
  exact ⟨v, vm₁, B, X₁.warmed, X', hpost, fun target h => hstep₁ _ fun acts => by rw [doInvoke_state]; exact hsteps.trans h⟩
theorem vx_runSW {y : MethodName} {bytes cc : ByteArray} {maxL nL mc ms n index : Nat} {ret : Option FieldType} {hh : List (Nat × Nat × Nat × Nat)} {ws : List Cond} {rm : Room} {Pc : Array Value → State → Prop} {Qc : Array Value → State → Outcome → State → Prop} {free : Addr → Prop} {Ts : List Cond} {own : String} {As rest : List Value} {g : JFrame}
    (S : CallFix p m c cc nL s args Ts own) (hM : Met l y ws rm Pc Qc mc ms free) (cw : vx_CSW R s args own index y bytes maxL ret hh ws rm mc ms n) (hp : PreS s H Pc As)
    (hg : g.method = m) (hn : As.length = n) (hsize : g.locals.size = nL) (hstack : g.stack = As.reverse ++ rest) (hW : 2 * g.monitorRoom + (rest.map fun v => v.category).sum ≤ 8) (hdg : decode cc g.pc = .ok (.invokestatic index, 3)) (hf : cells + mc ≤ R.cells ∧ slots + ms ≤ R.slots) :
    va_Run p l e R s m args below meth c H locs cells slots mc ms g rest (Qc As.toArray) (free) := by
  obtain ⟨⟨hrc, hrs, hfr, hlo, hws, hcw⟩, hcode, hini, hy, hlen, hl, hstt⟩ := cw
  have hK : Back l R p e below s args y 3 8 (PreOf R mc ms Pc) (PostOf Qc mc ms free) := va_backW (hh := hh) (bytes := bytes) (maxL := maxL) (ret := ret) hM hp.1 hrc hrs hfr hlo hws hcw (fun a' U hW => word_at hW (Or.inl (by first | rfl | simp [Cond.onTables, Cond.keeps, Cond.steady])) hini)
  obtain ⟨hx, hb, hml, ho, -⟩ := S
  intro T hT X
  obtain ⟨v, vm₁, ⟨U', l2, c2, s2⟩, hW₁, X', ⟨g', mk, t, L, e1, e2, hq, h1, hL, h2, h3⟩, st⟩ := vx_callSW X hx (hh := hh) (bytes := bytes) (maxL := maxL) (ret := ret) ho hl hstt hini hcode hy hK hg (hsize.trans hml.symm) (argsL := As) (rest := rest) (fun sig h => hn.trans (hlen sig h)) hstack hW (by rw [hb]; exact hdg)
    (fun vm₁ hW₁ => ⟨hf.1, hf.2, hp.2 (T.setVm vm₁) hT hW₁⟩)
  dsimp only [Pt.U, Pt.locs, Pt.cells, Pt.slots] at X' e1 e2 h1 h2 h3 st
  subst h1; subst h2; subst h3
  exact ⟨v, (T.setVm vm₁).calling g' mk As.toArray, t, U', L, hT, X', hL, e1, e2, hq, st⟩
theorem vx_lt {D : va_G} {cl : List vw_C} {ws : va_W} {H1 : Heap} (h : va_P D cl ws H1) {k : Nat} {q : Nat × va_E} (hk : ws[k]? = some q) : q.1 < H1.size := (h k q hk).lt
end VXS
/-! ===== END ===== -/
/-! ===== BEGIN methods with a table of their own: called by a name, returning or throwing ===== -/
section VXH
/-! vx_backW, vx_callVX, vx_callSX, vx_callVW, vx_runVW, vx_runVX, vx_runSX, vx_ofWH follow the same proofs as their sisters above (Free/Laws.lean, Shelf42/LK1.lean); vx_outP calls Shelf42/NT130.lean (outThrough). -/
section
variable {l : Launch} {R : Room} {p : Program} {e : Env} {below : List Frame} {s : State} {sargs : Array Value} {y : MethodName} {len W9 : Nat}
theorem vx_backW {ws : List Cond} {rm : Room} {Pc : Array Value → State → Prop} {Qc : Array Value → State → Outcome → State → Prop} {XC : String → State → State → Prop} {mc ms : Nat} {free : Addr → Prop} {bytes : ByteArray} {maxL : Nat} {ret : Option FieldType} {hh : List (Nat × Nat × Nat × Nat)}
    (hM : vx_Met l y ws rm Pc Qc XC mc ms free) (hblind : FrameBlind Pc) (hrc : rm.cells = mc) (hrs : rm.slots = ms)
    (hframes : rm.frames + 1 ≤ R.frames) (hlocals : W9 + (maxL + 11) + rm.locals ≤ R.locals)
    (hws : ∀ w ∈ ws, ∀ a' U, s.WarmedH U.vm → w.before a' U = true) (hcode : Cond.codeWith y bytes maxL ret hh ∈ ws) (hinit : ∀ a' U, s.WarmedH U.vm → (Cond.initialized y.cls).before a' U = true) :
    vx_Back l R p e below s sargs y len W9 (PreOf R mc ms Pc) (PostOf Qc mc ms free) (vx_Post XC mc ms free) := by
  intro m meth c A g ig mk a X hg hsize hdg hW hn hp
  have h1 : (headSpec ws rm).pre.before a A.U = true := atoms_intro fun w hw => hws w hw _ _ X.warmed
  have h2 : (Cond.codeWith y bytes maxL ret hh).before a A.U = true := hws _ hcode _ _ X.warmed
  have h3 : (Cond.initialized y.cls).before a A.U = true := hinit _ _ X.warmed
  have h4 : A.cells + (headSpec ws rm).room.cells ≤ R.cells := by rw [show (headSpec ws rm).room.cells = mc from hrc]; exact hp.1
  have h5 : A.slots + (headSpec ws rm).room.slots ≤ R.slots := by rw [show (headSpec ws rm).room.slots = ms from hrs]; exact hp.2.1
  have hPc : Pc a (A.U.calling g mk a) := hblind _ _ _ _ hp.2.2
  obtain ⟨U, Ls, c0, s0⟩ := A
  dsimp only [Pt.U, Pt.locs, Pt.cells, Pt.slots] at h1 h2 h3 h4 h5 X hn hPc ⊢
  obtain ⟨m9, methY, cY, hn9, hmY, hcY, -, hlY, -⟩ := Cond.codeWith_spec h2
  cases Option.some.inj (hn9.symm.trans hn)
  obtain ⟨kY, hkY, -⟩ := className_of_methodNamed hn
  have hinitY : kY.init = .initialized := Cond.initialized_spec (findClass_of_methodNamed hn) hkY h3
  have h : At U g.method c below := by rw [hg]; exact X.here
  have hlocals9 : W9 + (maxL + 11) + (headSpec ws rm).room.locals ≤ R.locals := hlocals
  have happ : (headSpec ws rm).appliesLoose y e.platform (U.calling g mk a) = true :=
    Spec.appliesLoose_calling (g := g) h hdg hn hkY hinitY
      (X.room_calling (g := g) (R' := (headSpec ws rm).room) hsize hmY hcY hframes (by rw [hlY]; omega) h4 h5) h1
  obtain ⟨mid, hmid⟩ := h.above
  have hfr : (U.setTop g).frames = (.java g :: mid) ++ below := by rw [State.frames_setTop' g h.top, hmid]; rfl
  obtain ⟨o, s₂, hsteps, -, hend, hq⟩ := Steps.callFree hM p X.admits X.cas X.clock (acts := []) hfr happ hPc trivial
  have hq' : vx_Q Qc XC mc ms free a (U.calling g mk a) o s₂ := hq
  rw [State.frames_setTop' g h.top] at hend
  obtain ⟨g₀, hg0⟩ := Option.isSome_iff_exists.mp h.top
  obtain ⟨r, hr⟩ := State.topJava?_eq_some.mp hg0
  have hr' : (({ U with heap := s₂.heap, slotsUsed := s₂.slotsUsed } : State).setVm s₂.vm).frames = .java g₀ :: r := hr
  rcases hq' with ⟨hqc, L, hfe, hL⟩ | ⟨q, rfl, E, ce, L, hx, hce, hcv, hcl, hW₂, hsm, hL⟩
  · obtain ⟨⟨v, rfl⟩, hW₂, e2, q2, q3, q4, q5, q6⟩ := id hfe
    have e3 : s₂ = ({ (U.calling g mk a).setFrames s₂.frames with heap := s₂.heap, slotsUsed := s₂.slotsUsed } : State).setVm s₂.vm := by
      have : s₂ = ({ s₂ with vm := (U.calling g mk a).vm } : State).setVm s₂.vm := rfl
      rw [e2] at this
      exact this
    obtain ⟨c₂, i₂, len₂, hc₂, hd₂, hf₂⟩ := hend
    have hW' : U.WarmedH s₂.vm := hW₂
    have hcc : c₂ = c := by
      have h1 : s₂.code? g.method = U.code? g.method := by
        rw [State.code?_eq, State.code?_eq, hW'.alike.method?]
      exact Option.some.inj (hc₂.symm.trans (h1.trans h.code))
    subst hcc
    have hlen : len₂ = len := by rw [hdg] at hd₂; cases hd₂; rfl
    subst hlen
    have hs₂ : s₂ = (({ U with heap := s₂.heap, slotsUsed := s₂.slotsUsed } : State).setVm s₂.vm).setTop { g with pc := g.pc + len₂, stack := v.toList ++ g.stack } := by
      refine e3.trans ?_
      rw [hf₂, State.calling_eq h.top, State.setFrames_setFrames, State.setTop_of_frames _ hr', hr]
      rfl
    have hsame : U.sameButNew ({ U with heap := s₂.heap, slotsUsed := s₂.slotsUsed } : State) L mc ms := by
      refine ⟨?_, q2, q3, q4, q5, q6⟩
      obtain ⟨t, ht, -⟩ := State.frames_cons hr
      show ({ U with heap := s₂.heap, slotsUsed := s₂.slotsUsed } : State) = { U.setFrames U.frames with heap := s₂.heap, slotsUsed := s₂.slotsUsed }
      rw [State.setFrames_self ht]
    subst hg
    refine Or.inl ⟨v, ⟨(({ U with heap := s₂.heap, slotsUsed := s₂.slotsUsed } : State).setVm s₂.vm), Ls ++ L, c0 + mc, s0 + ms⟩,
      ⟨X.admits, X.cas, X.clock, X.frames, X.room, X.hears, X.method, X.code, (X.here.setHeapUsed s₂.heap s₂.slotsUsed).setVm hW'.alike, X.tail, State.WarmedH.trans X.warmed hW', X.limits, X.bytes, X.same.trans (hsame.setVm s.vm)⟩,
      ⟨g, mk, s₂, L, rfl, rfl, hqc, rfl, hL, rfl, rfl⟩, ?_⟩
    show Steps p.tables e below _ ((({ U with heap := s₂.heap, slotsUsed := s₂.slotsUsed } : State).setVm s₂.vm).setTop { g with pc := g.pc + len₂, stack := v.toList ++ g.stack })
    rw [← hs₂]
    exact hsteps
  · obtain ⟨e2, q2, q3, q4, q5, q6⟩ := id hsm
    have e3 : s₂ = ({ (U.calling g mk a).setFrames s₂.frames with heap := s₂.heap, slotsUsed := s₂.slotsUsed } : State).setVm s₂.vm := by
      have : s₂ = ({ s₂ with vm := (U.calling g mk a).vm } : State).setVm s₂.vm := rfl
      rw [e2] at this
      exact this
    have hf₂ : s₂.frames = .throwing q :: .java g :: U.frames.tail := hend
    have hW' : U.WarmedH s₂.vm := hW₂
    have hs₂ : s₂ = ((({ U with heap := s₂.heap, slotsUsed := s₂.slotsUsed } : State).setVm s₂.vm).setTop g).pushFrame (.throwing q) := by
      refine e3.trans ?_
      rw [hf₂, State.calling_eq h.top, State.setFrames_setFrames, State.pushFrame, State.frames_setTop _ hr', State.setTop_of_frames _ hr', State.setFrames_setFrames, hr]
      rfl
    have hsame : U.sameButNew ({ U with heap := s₂.heap, slotsUsed := s₂.slotsUsed } : State) L mc ms := by
      refine ⟨?_, q2, q3, q4, q5, q6⟩
      obtain ⟨t, ht, -⟩ := State.frames_cons hr
      show ({ U with heap := s₂.heap, slotsUsed := s₂.slotsUsed } : State) = { U.setFrames U.frames with heap := s₂.heap, slotsUsed := s₂.slotsUsed }
      rw [State.setFrames_self ht]
    subst hg
    refine Or.inr ⟨q, ⟨(({ U with heap := s₂.heap, slotsUsed := s₂.slotsUsed } : State).setVm s₂.vm), Ls ++ L, c0 + mc, s0 + ms⟩,
      ⟨X.admits, X.cas, X.clock, X.frames, X.room, X.hears, X.method, X.code, (X.here.setHeapUsed s₂.heap s₂.slotsUsed).setVm hW'.alike, X.tail, State.WarmedH.trans X.warmed hW', X.limits, X.bytes, X.same.trans (hsame.setVm s.vm)⟩,
      ⟨g, mk, s₂, L, E, ce, rfl, rfl, hx, hce, hcv, hcl, rfl, hL, rfl, rfl⟩, ?_⟩
    show Steps p.tables e below _ (((({ U with heap := s₂.heap, slotsUsed := s₂.slotsUsed } : State).setVm s₂.vm).setTop g).pushFrame (.throwing q))
    rw [← hs₂]
    exact hsteps
end
variable {p : Program} {l : Launch} {e : Env} {R : Room} {s : State} {m : MethodId} {args : Array Value} {below : List Frame} {meth : Method} {c : Code} {T : State} {H : Heap} {locs : List Loc} {cells slots : Nat}
theorem vx_callVX (X : Stand p l e R s m args below meth c T locs cells slots) (hexec : p.tables.exec = Jvm.exec) {own C : String} {index : Nat} {y : MethodName} {bytes : ByteArray} {maxL : Nat} {ret : Option FieldType} {hh : List (Nat × Nat × Nat × Nat)}
    (hown : s.vm.findClass own = some m.cls) (hlink : (Cond.methodLink own index y).before args s = true) (hinst : (Cond.instanceMethod y).before args s = true) (hsel : (Cond.selects C y y).before args s = true)
    (hcode : (Cond.codeWith y bytes maxL ret hh).before args s = true) (hy : y.cls ≠ "java/lang/invoke/MethodHandle" ∧ y.cls ≠ "java/lang/invoke/VarHandle")
    {W9 : Nat} {Pre : Pt → Array Value → Prop} {Post : Pt → Array Value → Option Value → Pt → Prop} {PostX : Pt → Array Value → Addr → Pt → Prop} (hK : vx_Back l R p e below s args y 3 W9 Pre Post PostX)
    {b : Addr} {cellB : Cell} (hcell : T.heap[b]? = some cellB) (hobj : cellB.vm.isStatics = false) (hcls : s.vm.findClass C = some cellB.cls)
    {g : JFrame} (hg : g.method = m) (hsize : g.locals.size = c.maxLocals) {argsL rest : List Value} (hlen : ∀ sig, parseMethodDescriptor y.desc = some sig → argsL.length = sig.parameters.length)
    (hstack : g.stack = argsL.reverse ++ .ref b :: rest) (hW : 2 * g.monitorRoom + (rest.map fun v => v.category).sum ≤ W9) (hdg : decode c.code g.pc = .ok (.invokevirtual index, 3))
    (hpre : ∀ vm₁, s.WarmedH vm₁ → Pre ⟨T.setVm vm₁, locs, cells, slots⟩ (Value.ref b :: argsL).toArray) :
    (∃ (v : Option Value) (vm₁ : Vm) (B : Pt), s.WarmedH vm₁ ∧ Stand p l e R s m args below meth c B.U B.locs B.cells B.slots ∧ Post ⟨T.setVm vm₁, locs, cells, slots⟩ (Value.ref b :: argsL).toArray v B ∧
      ∀ target, Steps p.tables e below (B.U.setTop { g with pc := g.pc + 3, stack := v.toList ++ rest }) target → Steps p.tables e below (T.setTop g) target) ∨
    (∃ (q : Addr) (vm₁ : Vm) (B : Pt), s.WarmedH vm₁ ∧ Stand p l e R s m args below meth c B.U B.locs B.cells B.slots ∧ PostX ⟨T.setVm vm₁, locs, cells, slots⟩ (Value.ref b :: argsL).toArray q B ∧
      Steps p.tables e below (T.setTop g) ((B.U.setTop { g with stack := rest }).pushFrame (.throwing q))) := by
  obtain ⟨mk, methM, hnamed, hmethM, hstM, habM⟩ := Cond.instanceMethod_spec hinst
  obtain ⟨m8, methM', cM, hn8, hmethM', -, -, -, -, -, -, hsigM⟩ := Cond.codeWith_spec hcode
  cases Option.some.inj (hn8.symm.trans hnamed)
  cases hmethM.symm.trans hmethM'
  obtain ⟨c2, r2, m2, q1, q2, q3, q4, kP, hkP, hkPi⟩ := Cond.selects_spec hsel
  cases hcls.symm.trans q1
  cases (State.methodFound?_of_named hnamed hy).symm.trans q2
  cases hnamed.symm.trans q3
  have hselP : selectMethod e.platform s.vm cellB.cls mk = .method mk := by rw [Launch.admits_selectMethod X.admits]; exact q4
  obtain ⟨vm₁, X₁, hstep₁⟩ := X.invokevirtual hexec hown hlink hnamed hmethM hstM hkP hkPi hy (a := b) (cell := cellB) hcell
    (fun z h => by rw [h] at hobj; cases hobj) hselP hmethM habM hkP hkPi (g := g) hg (argsL := argsL) (rest := rest) (hlen _ hsigM) hstack hdg
  rcases hK m meth c ⟨T.setVm vm₁, locs, cells, slots⟩ { g with stack := rest } (.invokevirtual index) mk (Value.ref b :: argsL).toArray X₁ hg hsize hdg hW (X₁.named hnamed) (hpre vm₁ X₁.warmed) with ⟨v, B, X', hpost, hsteps⟩ | ⟨q, B, X', hpost, hsteps⟩
  · exact Or.inl ⟨v, vm₁, B, X₁.warmed, X', hpost, fun target h => hstep₁ _ fun acts => by rw [doInvoke_state]; exact hsteps.trans h⟩
  · exact Or.inr ⟨q, vm₁, B, X₁.warmed, X', hpost, hstep₁ _ fun acts => by rw [doInvoke_state]; exact hsteps⟩
theorem vx_callSX (X : Stand p l e R s m args below meth c T locs cells slots) (hexec : p.tables.exec = Jvm.exec) {own : String} {index : Nat} {y : MethodName} {bytes : ByteArray} {maxL : Nat} {ret : Option FieldType} {hh : List (Nat × Nat × Nat × Nat)}
    (hown : s.vm.findClass own = some m.cls) (hlink : (Cond.methodLink own index y).before args s = true) (hstat : (Cond.static y).before args s = true) (hinit : (Cond.initialized y.cls).before args s = true)
    (hcode : (Cond.codeWith y bytes maxL ret hh).before args s = true) (hy : y.cls ≠ "java/lang/invoke/MethodHandle" ∧ y.cls ≠ "java/lang/invoke/VarHandle")
    {W9 : Nat} {Pre : Pt → Array Value → Prop} {Post : Pt → Array Value → Option Value → Pt → Prop} {PostX : Pt → Array Value → Addr → Pt → Prop} (hK : vx_Back l R p e below s args y 3 W9 Pre Post PostX)
    {g : JFrame} (hg : g.method = m) (hsize : g.locals.size = c.maxLocals) {argsL rest : List Value} (hlen : ∀ sig, parseMethodDescriptor y.desc = some sig → argsL.length = sig.parameters.length)
    (hstack : g.stack = argsL.reverse ++ rest) (hW : 2 * g.monitorRoom + (rest.map fun v => v.category).sum ≤ W9) (hdg : decode c.code g.pc = .ok (.invokestatic index, 3))
    (hpre : ∀ vm₁, s.WarmedH vm₁ → Pre ⟨T.setVm vm₁, locs, cells, slots⟩ argsL.toArray) :
    (∃ (v : Option Value) (vm₁ : Vm) (B : Pt), s.WarmedH vm₁ ∧ Stand p l e R s m args below meth c B.U B.locs B.cells B.slots ∧ Post ⟨T.setVm vm₁, locs, cells, slots⟩ argsL.toArray v B ∧
      ∀ target, Steps p.tables e below (B.U.setTop { g with pc := g.pc + 3, stack := v.toList ++ rest }) target → Steps p.tables e below (T.setTop g) target) ∨
    (∃ (q : Addr) (vm₁ : Vm) (B : Pt), s.WarmedH vm₁ ∧ Stand p l e R s m args below meth c B.U B.locs B.cells B.slots ∧ PostX ⟨T.setVm vm₁, locs, cells, slots⟩ argsL.toArray q B ∧
      Steps p.tables e below (T.setTop g) ((B.U.setTop { g with stack := rest }).pushFrame (.throwing q))) := by
  obtain ⟨mk, methM, cM, hnamed, hmethM, -, -, -, -, -, -, hsigM⟩ := Cond.codeWith_spec hcode
  have hstatic : methM.isStatic = true := Cond.static_spec hnamed hmethM hstat
  obtain ⟨kP, hkP, -⟩ := className_of_methodNamed hnamed
  have hinitP : kP.init = .initialized := Cond.initialized_spec (findClass_of_methodNamed hnamed) hkP hinit
  obtain ⟨vm₁, X₁, hstep₁⟩ := X.invokestatic hexec hown hlink hnamed hmethM hstatic hkP hinitP hy (g := g) hg (argsL := argsL) (rest := rest) (hlen _ hsigM) hstack hdg
  rcases hK m meth c ⟨T.setVm vm₁, locs, cells, slots⟩ { g with stack := rest } (.invokestatic index) mk argsL.toArray X₁ hg hsize hdg hW (X₁.named hnamed) (hpre vm₁ X₁.warmed) with ⟨v, B, X', hpost, hsteps⟩ | ⟨q, B, X', hpost, hsteps⟩
  · exact Or.inl ⟨v, vm₁, B, X₁.warmed, X', hpost, fun target h => hstep₁ _ fun acts => by rw [doInvoke_state]; exact hsteps.trans h⟩
  · exact Or.inr ⟨q, vm₁, B, X₁.warmed, X', hpost, hstep₁ _ fun acts => by rw [doInvoke_state]; exact hsteps⟩
theorem vx_callVW (X : Stand p l e R s m args below meth c T locs cells slots) (hexec : p.tables.exec = Jvm.exec) {own C : String} {index : Nat} {y : MethodName} {bytes : ByteArray} {maxL : Nat} {ret : Option FieldType} {hh : List (Nat × Nat × Nat × Nat)}
    (hown : s.vm.findClass own = some m.cls) (hlink : (Cond.methodLink own index y).before args s = true) (hinst : (Cond.instanceMethod y).before args s = true) (hsel : (Cond.selects C y y).before args s = true)
    (hcode : (Cond.codeWith y bytes maxL ret hh).before args s = true) (hy : y.cls ≠ "java/lang/invoke/MethodHandle" ∧ y.cls ≠ "java/lang/invoke/VarHandle")
    {W9 : Nat} {Pre : Pt → Array Value → Prop} {Post : Pt → Array Value → Option Value → Pt → Prop} (hK : Back l R p e below s args y 3 W9 Pre Post)
    {b : Addr} {cellB : Cell} (hcell : T.heap[b]? = some cellB) (hobj : cellB.vm.isStatics = false) (hcls : s.vm.findClass C = some cellB.cls)
    {g : JFrame} (hg : g.method = m) (hsize : g.locals.size = c.maxLocals) {argsL rest : List Value} (hlen : ∀ sig, parseMethodDescriptor y.desc = some sig → argsL.length = sig.parameters.length)
    (hstack : g.stack = argsL.reverse ++ .ref b :: rest) (hW : 2 * g.monitorRoom + (rest.map fun v => v.category).sum ≤ W9) (hdg : decode c.code g.pc = .ok (.invokevirtual index, 3))
    (hpre : ∀ vm₁, s.WarmedH vm₁ → Pre ⟨T.setVm vm₁, locs, cells, slots⟩ (Value.ref b :: argsL).toArray) :
    ∃ (v : Option Value) (vm₁ : Vm) (B : Pt), s.WarmedH vm₁ ∧ Stand p l e R s m args below meth c B.U B.locs B.cells B.slots ∧ Post ⟨T.setVm vm₁, locs, cells, slots⟩ (Value.ref b :: argsL).toArray v B ∧
      ∀ target, Steps p.tables e below (B.U.setTop { g with pc := g.pc + 3, stack := v.toList ++ rest }) target → Steps p.tables e below (T.setTop g) target := by
  obtain ⟨mk, methM, hnamed, hmethM, hstM, habM⟩ := Cond.instanceMethod_spec hinst
  obtain ⟨m8, methM', cM, hn8, hmethM', -, -, -, -, -, -, hsigM⟩ := Cond.codeWith_spec hcode
  cases Option.some.inj (hn8.symm.trans hnamed)
  cases hmethM.symm.trans hmethM'
  obtain ⟨c2, r2, m2, q1, q2, q3, q4, kP, hkP, hkPi⟩ := Cond.selects_spec hsel
  cases hcls.symm.trans q1
  cases (State.methodFound?_of_named hnamed hy).symm.trans q2
  cases hnamed.symm.trans q3
  have hselP : selectMethod e.platform s.vm cellB.cls mk = .method mk := by rw [Launch.admits_selectMethod X.admits]; exact q4
  obtain ⟨vm₁, X₁, hstep₁⟩ := X.invokevirtual hexec hown hlink hnamed hmethM hstM hkP hkPi hy (a := b) (cell := cellB) hcell
    (fun z h => by rw [h] at hobj; cases hobj) hselP hmethM habM hkP hkPi (g := g) hg (argsL := argsL) (rest := rest) (hlen _ hsigM) hstack hdg
  obtain ⟨v, B, X', hpost, hsteps⟩ := hK m meth c ⟨T.setVm vm₁, locs, cells, slots⟩ { g with stack := rest } (.invokevirtual index) mk (Value.ref b :: argsL).toArray X₁ hg hsize hdg hW (X₁.named hnamed) (hpre vm₁ X₁.warmed)
  exact ⟨v, vm₁, B, X₁.warmed, X', hpost, fun target h => hstep₁ _ fun acts => by rw [doInvoke_state]; exact hsteps.trans h⟩
abbrev vx_CVW (R : Room) (s : State) (args : Array Value) (own C : String) (index : Nat) (y : MethodName) (bytes : ByteArray) (maxL : Nat) (ret : Option FieldType) (hh : List (Nat × Nat × Nat × Nat)) (ws : List Cond) (rm : Room) (mc ms n : Nat) : Prop :=
  (rm.cells = mc ∧ rm.slots = ms ∧ rm.frames + 1 ≤ R.frames ∧ 8 + (maxL + 11) + rm.locals ≤ R.locals ∧ (∀ w ∈ ws, ∀ (a' : Array Value) (U : State), s.WarmedH U.vm → w.before a' U = true) ∧ Cond.codeWith y bytes maxL ret hh ∈ ws) ∧
  (Cond.codeWith y bytes maxL ret hh).before args s = true ∧ (Cond.initialized y.cls).before args s = true ∧ (y.cls ≠ "java/lang/invoke/MethodHandle" ∧ y.cls ≠ "java/lang/invoke/VarHandle") ∧
  (∀ sig, parseMethodDescriptor y.desc = some sig → n = sig.parameters.length) ∧ (Cond.methodLink own index y).before args s = true ∧ (Cond.instanceMethod y).before args s = true ∧ (Cond.selects C y y).before args s = true
theorem vx_cwVW {own C : String} {index maxL mc ms : Nat} {y : MethodName} {bytes : ByteArray} {ret : Option FieldType} {hh : List (Nat × Nat × Nat × Nat)} {Ts ws ws' : List Cond} {rm : Room} (n : Nat) (ht : ∀ w ∈ Ts, w.before args s = true) (hT : GoodIn Ts (wsV own index C y ws)) (hw : ws = Cond.codeWith y bytes maxL ret hh :: ws') (hrc : rm.cells = mc) (hrs : rm.slots = ms)
    (hd : y.cls = C ∧ y.cls ≠ "java/lang/invoke/MethodHandle" ∧ y.cls ≠ "java/lang/invoke/VarHandle" ∧ (parseMethodDescriptor y.desc).map (fun d => d.parameters.length) = some n) (hR : rm.frames + 1 ≤ R.frames ∧ 8 + (maxL + 11) + rm.locals ≤ R.locals) :
    vx_CVW R s args own C index y bytes maxL ret hh ws rm mc ms n := by
  obtain ⟨hC, hd⟩ := hd
  subst hC
  have ok : ∀ w ∈ wsV own index y.cls y ws, w.before args s = true := fun w h => ht w (hT w h).1
  have hG : GoodIn Ts ws := fun w h => hT w (by unfold wsV; exact List.mem_append_right _ h)
  have hc : Cond.codeWith y bytes maxL ret hh ∈ ws := by rw [hw]; exact List.mem_cons_self
  refine ⟨⟨hrc, hrs, hR.1, hR.2, pay_in ht hG, hc⟩, ht _ (hG _ hc).1, ok _ (by simp [wsV]), ⟨hd.1, hd.2.1⟩, fun sig h => ?_, ok _ (by simp [wsV]), ok _ (by simp [wsV]), ok _ (by simp [wsV])⟩
  have h2 := hd.2.2
  rw [h] at h2
  exact (Option.some.inj h2).symm
theorem vx_runVW {y : MethodName} {bytes cc : ByteArray} {maxL nL mc ms n index : Nat} {ret : Option FieldType} {hh : List (Nat × Nat × Nat × Nat)} {ws : List Cond} {rm : Room} {Pc : Array Value → State → Prop} {Qc : Array Value → State → Outcome → State → Prop} {free : Addr → Prop} {Ts : List Cond} {own C : String} {b : Addr} {As rest : List Value} {g : JFrame}
    (S : CallFix p m c cc nL s args Ts own) (hM : Met l y ws rm Pc Qc mc ms free) (cw : vx_CVW R s args own C index y bytes maxL ret hh ws rm mc ms n) (hp : PreV s H C b Pc As)
    (hg : g.method = m) (hn : As.length = n) (hsize : g.locals.size = nL) (hstack : g.stack = As.reverse ++ .ref b :: rest) (hW : 2 * g.monitorRoom + (rest.map fun v => v.category).sum ≤ 8) (hdg : decode cc g.pc = .ok (.invokevirtual index, 3)) (hf : cells + mc ≤ R.cells ∧ slots + ms ≤ R.slots) :
    va_Run p l e R s m args below meth c H locs cells slots mc ms g rest (Qc (Value.ref b :: As).toArray) free := by
  obtain ⟨⟨hrc, hrs, hfr, hlo, hws, hcw⟩, hcode, hini, hy, hlen, hl, hin, hse⟩ := cw
  have hK : Back l R p e below s args y 3 8 (PreOf R mc ms Pc) (PostOf Qc mc ms free) := va_backW (hh := hh) (bytes := bytes) (maxL := maxL) (ret := ret) hM hp.1 hrc hrs hfr hlo hws hcw (fun a' U hW => word_at hW (Or.inl (by first | rfl | simp [Cond.onTables, Cond.keeps, Cond.steady])) hini)
  obtain ⟨hx, hb, hml, ho, -⟩ := S
  obtain ⟨-, ⟨cellB, hcB, hoB, hclB⟩, hPc⟩ := hp
  intro T hT X
  obtain ⟨v, vm₁, ⟨U', l2, c2, s2⟩, hW₁, X', ⟨g', mk, t, L, e1, e2, hq, h1, hL, h2, h3⟩, st⟩ := vx_callVW X hx (C := C) (hh := hh) (bytes := bytes) (maxL := maxL) (ret := ret) ho hl hin hse hcode hy hK (by rw [hT]; exact hcB) hoB hclB hg (hsize.trans hml.symm) (argsL := As) (rest := rest) (fun sig h => hn.trans (hlen sig h)) hstack hW (by rw [hb]; exact hdg)
    (fun vm₁ hW₁ => ⟨hf.1, hf.2, hPc (T.setVm vm₁) hT hW₁⟩)
  dsimp only [Pt.U, Pt.locs, Pt.cells, Pt.slots] at X' e1 e2 h1 h2 h3 st
  subst h1; subst h2; subst h3
  exact ⟨v, (T.setVm vm₁).calling g' mk (Value.ref b :: As).toArray, t, U', L, hT, X', hL, e1, e2, hq, st⟩
section
variable {y : MethodName} {bytes cc : ByteArray} {maxL nL mc ms n index : Nat} {ret : Option FieldType} {ws : List Cond} {rm : Room} {Pc : Array Value → State → Prop} {Qc : Array Value → State → Outcome → State → Prop} {XC : String → State → State → Prop} {free : Addr → Prop} {Ts : List Cond} {own C : String} {b : Addr} {As rest : List Value} {g : JFrame}
theorem vx_runVX {hh : List (Nat × Nat × Nat × Nat)} (S : CallFix p m c cc nL s args Ts own) (hM : vx_Met l y ws rm Pc Qc XC mc ms free) (cw : vx_CVW R s args own C index y bytes maxL ret hh ws rm mc ms n) (hp : PreV s H C b Pc As)
    (hg : g.method = m) (hn : As.length = n) (hsize : g.locals.size = nL) (hstack : g.stack = As.reverse ++ .ref b :: rest) (hW : 2 * g.monitorRoom + (rest.map fun v => v.category).sum ≤ 8) (hdg : decode cc g.pc = .ok (.invokevirtual index, 3)) (hf : cells + mc ≤ R.cells ∧ slots + ms ≤ R.slots) :
    vx_Run p l e R s m args below meth c H locs cells slots mc ms g rest (Qc (Value.ref b :: As).toArray) XC free := by
  obtain ⟨⟨hrc, hrs, hfr, hlo, hws, hcw⟩, hcode, hini, hy, hlen, hl, hin, hse⟩ := cw
  have hK : vx_Back l R p e below s args y 3 8 (PreOf R mc ms Pc) (PostOf Qc mc ms free) (vx_Post XC mc ms free) := vx_backW (hh := hh) (bytes := bytes) (maxL := maxL) (ret := ret) hM hp.1 hrc hrs hfr hlo hws hcw (fun a' U hW => word_at hW (Or.inl (by first | rfl | simp [Cond.onTables, Cond.keeps, Cond.steady])) hini)
  obtain ⟨hx, hb, hml, ho, -⟩ := S
  obtain ⟨-, ⟨cellB, hcB, hoB, hclB⟩, hPc⟩ := hp
  intro T hT X
  rcases vx_callVX X hx (C := C) (hh := hh) (bytes := bytes) (maxL := maxL) (ret := ret) ho hl hin hse hcode hy hK (by rw [hT]; exact hcB) hoB hclB hg (hsize.trans hml.symm) (argsL := As) (rest := rest) (fun sig h => hn.trans (hlen sig h)) hstack hW (by rw [hb]; exact hdg)
    (fun vm₁ hW₁ => ⟨hf.1, hf.2, hPc (T.setVm vm₁) hT hW₁⟩) with ⟨v, vm₁, ⟨U', l2, c2, s2⟩, hW₁, X', ⟨g', mk, t, L, e1, e2, hq, h1, hL, h2, h3⟩, st⟩ | ⟨q, vm₁, ⟨U', l2, c2, s2⟩, hW₁, X', ⟨g', mk, t, L, E, ce, e1, e2, hq, hce, hcv, hcl, h1, hL, h2, h3⟩, st⟩
  · dsimp only [Pt.U, Pt.locs, Pt.cells, Pt.slots] at X' e1 e2 h1 h2 h3 st
    subst h1; subst h2; subst h3
    exact Or.inl ⟨v, (T.setVm vm₁).calling g' mk (Value.ref b :: As).toArray, t, U', L, hT, X', hL, e1, e2, hq, st⟩
  · dsimp only [Pt.U, Pt.locs, Pt.cells, Pt.slots] at X' e1 e2 h1 h2 h3 st hcl
    subst h1; subst h2; subst h3
    exact Or.inr ⟨q, (T.setVm vm₁).calling g' mk (Value.ref b :: As).toArray, t, U', L, E, ce, hT, X', hL, e1, e2, hq, hce, hcv, vx_cls hW₁ hcl, st⟩
theorem vx_runSX {hh : List (Nat × Nat × Nat × Nat)} (S : CallFix p m c cc nL s args Ts own) (hM : vx_Met l y ws rm Pc Qc XC mc ms free) (cw : vx_CSW R s args own index y bytes maxL ret hh ws rm mc ms n) (hp : PreS s H Pc As)
    (hg : g.method = m) (hn : As.length = n) (hsize : g.locals.size = nL) (hstack : g.stack = As.reverse ++ rest) (hW : 2 * g.monitorRoom + (rest.map fun v => v.category).sum ≤ 8) (hdg : decode cc g.pc = .ok (.invokestatic index, 3)) (hf : cells + mc ≤ R.cells ∧ slots + ms ≤ R.slots) :
    vx_Run p l e R s m args below meth c H locs cells slots mc ms g rest (Qc As.toArray) XC free := by
  obtain ⟨⟨hrc, hrs, hfr, hlo, hws, hcw⟩, hcode, hini, hy, hlen, hl, hstt⟩ := cw
  have hK : vx_Back l R p e below s args y 3 8 (PreOf R mc ms Pc) (PostOf Qc mc ms free) (vx_Post XC mc ms free) := vx_backW (hh := hh) (bytes := bytes) (maxL := maxL) (ret := ret) hM hp.1 hrc hrs hfr hlo hws hcw (fun a' U hW => word_at hW (Or.inl (by first | rfl | simp [Cond.onTables, Cond.keeps, Cond.steady])) hini)
  obtain ⟨hx, hb, hml, ho, -⟩ := S
  intro T hT X
  rcases vx_callSX X hx (hh := hh) (bytes := bytes) (maxL := maxL) (ret := ret) ho hl hstt hini hcode hy hK hg (hsize.trans hml.symm) (argsL := As) (rest := rest) (fun sig h => hn.trans (hlen sig h)) hstack hW (by rw [hb]; exact hdg)
    (fun vm₁ hW₁ => ⟨hf.1, hf.2, hp.2 (T.setVm vm₁) hT hW₁⟩) with ⟨v, vm₁, ⟨U', l2, c2, s2⟩, hW₁, X', ⟨g', mk, t, L, e1, e2, hq, h1, hL, h2, h3⟩, st⟩ | ⟨q, vm₁, ⟨U', l2, c2, s2⟩, hW₁, X', ⟨g', mk, t, L, E, ce, e1, e2, hq, hce, hcv, hcl, h1, hL, h2, h3⟩, st⟩
  · dsimp only [Pt.U, Pt.locs, Pt.cells, Pt.slots] at X' e1 e2 h1 h2 h3 st
    subst h1; subst h2; subst h3
    exact Or.inl ⟨v, (T.setVm vm₁).calling g' mk As.toArray, t, U', L, hT, X', hL, e1, e2, hq, st⟩
  · dsimp only [Pt.U, Pt.locs, Pt.cells, Pt.slots] at X' e1 e2 h1 h2 h3 st hcl
    subst h1; subst h2; subst h3
    exact Or.inr ⟨q, (T.setVm vm₁).calling g' mk As.toArray, t, U', L, E, ce, hT, X', hL, e1, e2, hq, hce, hcv, vx_cls hW₁ hcl, st⟩
end
end VXH
theorem vx_ofWH {l : Launch} {y : MethodName} {ws ws' : List Cond} {rm : Room} {Pc : Array Value → State → Prop} {Qc : Array Value → State → Outcome → State → Prop} {XC : String → State → State → Prop} {mc ms : Nat} {free : Addr → Prop} {cc : ByteArray} {maxL : Nat} {ret : Option FieldType} {hh : List (Nat × Nat × Nat × Nat)}
    (hy : plainName y.cls = true) (hw : ws = Cond.codeWith y cc maxL ret hh :: ws')
    (body : ∀ p e s m args below meth c s₁, BodyLoose p l y (headSpec ws rm) cc maxL ret e s m args below meth c s₁ → c.maxLocals = maxL → Pc args s →
      W p l e (headSpec ws rm).room s m args below meth c s.heap [] 0 0 (vx_MQ below Qc XC args s mc ms free) (entryFrame m args maxL)) : vx_Met l y ws rm Pc Qc XC mc ms free := by
  refine MetFree.of_bodyS (code := cc) (maxLocals := maxL) (ret := ret) hy ?_ ?_
  · intro args s m h hn
    obtain ⟨m9, meth, c, hn9, h1, h2, h3, h4, -, h5, h6, -⟩ := Cond.codeWith_spec (atoms_spec (ws := ws) h _ (by rw [hw]; exact List.mem_cons_self))
    cases hn.symm.trans hn9
    exact ⟨meth, c, h1, h2, h3, h4, h5, h6⟩
  · intro p e s m args below meth c s₁ B hml hP _
    have hh0 : s₁.heap = s.heap := by rw [B.state]; rfl
    obtain ⟨t, a1, o, b1, b2, b3⟩ := body p e s m args below meth c s₁ B hml hP s₁ hh0 (Stand.of_body B)
    exact ⟨t, o, a1, b1, b2, b3⟩
/-! ===== END ===== -/
end
section
/-! G: the frame of a method at pc, its locals L, its stack st, its world ws (cells by list), cs cells of sl slots new since its entry; the machine around it is hidden. A rule an instruction. -/
abbrev gEnv : Type := va_G × List vw_C × List (ClassId × FieldType) × ((Nat → Prop) → State → Heap → Prop) × List Cond
abbrev gKey : Type := ByteArray × Nat × String × Option FieldType × List ExceptionTableEntry × String
abbrev gFin : Type := List Frame → Array Value → State → (Nat → Prop) → State → Prop
def gC (v : gEnv) (k : gKey) (A : Nat → Prop) (p : Program) (l : Launch) (s : State) (m : MethodId) (args : Array Value) (meth : Method) (c : Code) : Prop :=
  p.tables.exec = Jvm.exec ∧ c.code = k.1 ∧ c.maxLocals = k.2.1 ∧ s.vm.findClass k.2.2.1 = some m.cls ∧ meth.sig.returnType = k.2.2.2.1 ∧ c.exceptionTable.toList = k.2.2.2.2.1 ∧ meth.name = k.2.2.2.2.2 ∧
  (∀ w ∈ v.2.2.2.2, w.before args s = true) ∧ meth.locks = false ∧ va_K v.1 v.2.1 v.2.2.1 s ∧ (∀ q, s.heap.size ≤ q → A q) ∧ v.2.2.2.1 A s s.heap ∧ l.stackTraces = false
def G (v : gEnv) (l : Launch) (R : Room) (Qf : gFin) (k : gKey) (pc : Nat) (L : List (Nat × Value)) (st : List Value) (ws : va_W) (cs sl : Nat) : Prop :=
  ∀ (p : Program) (e : Env) (s : State) (m : MethodId) (args : Array Value) (below : List Frame) (meth : Method) (c : Code) (A : Nat → Prop) (H : Heap) (locs : List Loc) (ls : Array Slot),
    gC v k A p l s m args meth c → va_P v.1 v.2.1 ws H → va_D A ws → va_S A s.heap H locs → lv_has ls k.2.1 L → W p l e R s m args below meth c H locs cs sl (Qf below args s A) (F0 m pc ls st)
section GR
variable {v : gEnv} {l : Launch} {R : Room} {Qf : gFin} {k : gKey} {pc : Nat} {L L' : List (Nat × Value)} {st : List Value} {ws : va_W} {cs sl : Nat}
theorem G_iconst {i : Int} (x : Int32) (d : decode k.1 pc = .ok (.iconst i, 1)) (h : Int32.ofInt i = x) (n : G v l R Qf k (pc + 1) L (.int x :: st) ws cs sl) : G v l R Qf k pc L (st) ws cs sl := fun p e s m args below meth c A H locs ls C hP hD hS hl => lv_iconst C.1 C.2.1 d h (n p e s m args below meth c A H locs ls C hP hD hS hl)
theorem G_bipush {i : Int} (x : Int32) (d : decode k.1 pc = .ok (.bipush i, 2)) (h : (Int8.ofInt i).toInt32 = x) (n : G v l R Qf k (pc + 2) L (.int x :: st) ws cs sl) : G v l R Qf k pc L (st) ws cs sl := fun p e s m args below meth c A H locs ls C hP hD hS hl => lv_bipush C.1 C.2.1 d h (n p e s m args below meth c A H locs ls C hP hD hS hl)
theorem G_sipush {i : Int} (x : Int32) (d : decode k.1 pc = .ok (.sipush i, 3)) (h : (Int16.ofInt i).toInt32 = x) (n : G v l R Qf k (pc + 3) L (.int x :: st) ws cs sl) : G v l R Qf k pc L (st) ws cs sl := fun p e s m args below meth c A H locs ls C hP hD hS hl => lv_sipush C.1 C.2.1 d h (n p e s m args below meth c A H locs ls C hP hD hS hl)
theorem G_lconst {i : Fin 2} (x : Int64) (d : decode k.1 pc = .ok (.lconst i, 1)) (h : Int64.ofNat (i : Nat) = x) (n : G v l R Qf k (pc + 1) L (.long x :: st) ws cs sl) : G v l R Qf k pc L (st) ws cs sl := fun p e s m args below meth c A H locs ls C hP hD hS hl => lv_lconst C.1 C.2.1 d h (n p e s m args below meth c A H locs ls C hP hD hS hl)
theorem G_null  (d : decode k.1 pc = .ok (.aconst_null, 1)) (n : G v l R Qf k (pc + 1) L (.null :: st) ws cs sl) : G v l R Qf k pc L (st) ws cs sl := fun p e s m args below meth c A H locs ls C hP hD hS hl => lv_null C.1 C.2.1 d (n p e s m args below meth c A H locs ls C hP hD hS hl)
theorem G_ldc {i : Nat} (x : Int32) (d : decode k.1 pc = .ok (.ldc i, 2)) (h : Cond.constant k.2.2.1 i x ∈ v.2.2.2.2) (n : G v l R Qf k (pc + 2) L (.int x :: st) ws cs sl) : G v l R Qf k pc L (st) ws cs sl := fun p e s m args below meth c A H locs ls C hP hD hS hl => lv_ldc C.1 C.2.1 C.2.2.2.1 (C.2.2.2.2.2.2.2.1 _ h) d (n p e s m args below meth c A H locs ls C hP hD hS hl)
theorem G_ldcw {i : Nat} (x : Int32) (d : decode k.1 pc = .ok (.ldc_w i, 3)) (h : Cond.constant k.2.2.1 i x ∈ v.2.2.2.2) (n : G v l R Qf k (pc + 3) L (.int x :: st) ws cs sl) : G v l R Qf k pc L (st) ws cs sl := fun p e s m args below meth c A H locs ls C hP hD hS hl => lv_ldcw C.1 C.2.1 C.2.2.2.1 (C.2.2.2.2.2.2.2.1 _ h) d (n p e s m args below meth c A H locs ls C hP hD hS hl)
theorem G_ldc2 {i : Nat} (x : Int64) (d : decode k.1 pc = .ok (.ldc2_w i, 3)) (h : Cond.constantLong k.2.2.1 i x ∈ v.2.2.2.2) (n : G v l R Qf k (pc + 3) L (.long x :: st) ws cs sl) : G v l R Qf k pc L (st) ws cs sl := fun p e s m args below meth c A H locs ls C hP hD hS hl => lv_ldc2 C.1 C.2.1 C.2.2.2.1 (C.2.2.2.2.2.2.2.1 _ h) d (n p e s m args below meth c A H locs ls C hP hD hS hl)
theorem G_iload_n {i : Fin 4} {x : Int32} (j : Nat) (d : decode k.1 pc = .ok (.iload_n i, 1)) (h : L[j]? = some ((i : Nat), .int x)) (n : G v l R Qf k (pc + 1) L (.int x :: st) ws cs sl) : G v l R Qf k pc L (st) ws cs sl := fun p e s m args below meth c A H locs ls C hP hD hS hl => lv_iload_n C.1 C.2.1 d rfl (lv_at hl j h) (n p e s m args below meth c A H locs ls C hP hD hS hl)
theorem G_iload {i : Nat} {x : Int32} (j : Nat) (d : decode k.1 pc = .ok (.iload i, 2)) (h : L[j]? = some (i, .int x)) (n : G v l R Qf k (pc + 2) L (.int x :: st) ws cs sl) : G v l R Qf k pc L (st) ws cs sl := fun p e s m args below meth c A H locs ls C hP hD hS hl => lv_iload C.1 C.2.1 d (lv_at hl j h) (n p e s m args below meth c A H locs ls C hP hD hS hl)
theorem G_lload_n {i : Fin 4} {x : Int64} (j : Nat) (d : decode k.1 pc = .ok (.lload_n i, 1)) (h : L[j]? = some ((i : Nat), .long x)) (n : G v l R Qf k (pc + 1) L (.long x :: st) ws cs sl) : G v l R Qf k pc L (st) ws cs sl := fun p e s m args below meth c A H locs ls C hP hD hS hl => lv_lload_n C.1 C.2.1 d rfl (lv_at hl j h) (n p e s m args below meth c A H locs ls C hP hD hS hl)
theorem G_lload {i : Nat} {x : Int64} (j : Nat) (d : decode k.1 pc = .ok (.lload i, 2)) (h : L[j]? = some (i, .long x)) (n : G v l R Qf k (pc + 2) L (.long x :: st) ws cs sl) : G v l R Qf k pc L (st) ws cs sl := fun p e s m args below meth c A H locs ls C hP hD hS hl => lv_lload C.1 C.2.1 d (lv_at hl j h) (n p e s m args below meth c A H locs ls C hP hD hS hl)
theorem G_aload_n {i : Fin 4} {x : Nat} (j : Nat) (d : decode k.1 pc = .ok (.aload_n i, 1)) (h : L[j]? = some ((i : Nat), .ref x)) (n : G v l R Qf k (pc + 1) L (.ref x :: st) ws cs sl) : G v l R Qf k pc L (st) ws cs sl := fun p e s m args below meth c A H locs ls C hP hD hS hl => lv_aload_n C.1 C.2.1 d rfl (lv_at hl j h) (n p e s m args below meth c A H locs ls C hP hD hS hl)
theorem G_aload {i : Nat} {x : Nat} (j : Nat) (d : decode k.1 pc = .ok (.aload i, 2)) (h : L[j]? = some (i, .ref x)) (n : G v l R Qf k (pc + 2) L (.ref x :: st) ws cs sl) : G v l R Qf k pc L (st) ws cs sl := fun p e s m args below meth c A H locs ls C hP hD hS hl => lv_aload C.1 C.2.1 d (lv_at hl j h) (n p e s m args below meth c A H locs ls C hP hD hS hl)
theorem G_aload_nN {i : Fin 4} (j : Nat) (d : decode k.1 pc = .ok (.aload_n i, 1)) (h : L[j]? = some ((i : Nat), .null)) (n : G v l R Qf k (pc + 1) L (.null :: st) ws cs sl) : G v l R Qf k pc L (st) ws cs sl := fun p e s m args below meth c A H locs ls C hP hD hS hl => lv_aload_nN C.1 C.2.1 d rfl (lv_at hl j h) (n p e s m args below meth c A H locs ls C hP hD hS hl)
theorem G_aloadN {i : Nat} (j : Nat) (d : decode k.1 pc = .ok (.aload i, 2)) (h : L[j]? = some (i, .null)) (n : G v l R Qf k (pc + 2) L (.null :: st) ws cs sl) : G v l R Qf k pc L (st) ws cs sl := fun p e s m args below meth c A H locs ls C hP hD hS hl => lv_aloadN C.1 C.2.1 d (lv_at hl j h) (n p e s m args below meth c A H locs ls C hP hD hS hl)
theorem G_istore_n {i : Fin 4} {x : Int32} (d : decode k.1 pc = .ok (.istore_n i, 1)) (hn : (i : Nat) < k.2.1) (h : ((i : Nat), Value.int x) :: L.filter (fun q => !(q.1 == (i : Nat)) && !(q.1 + 1 == (i : Nat) && q.2.category == 2)) = L') (n : G v l R Qf k (pc + 1) L' (st) ws cs sl) : G v l R Qf k pc L (.int x :: st) ws cs sl := fun p e s m args below meth c A H locs ls C hP hD hS hl => lv_istore_n C.1 C.2.1 d rfl hl hn h (fun ls hl => n p e s m args below meth c A H locs ls C hP hD hS hl)
theorem G_istore {i : Nat} {x : Int32} (d : decode k.1 pc = .ok (.istore i, 2)) (hn : i < k.2.1) (h : (i, Value.int x) :: L.filter (fun q => !(q.1 == i) && !(q.1 + 1 == i && q.2.category == 2)) = L') (n : G v l R Qf k (pc + 2) L' (st) ws cs sl) : G v l R Qf k pc L (.int x :: st) ws cs sl := fun p e s m args below meth c A H locs ls C hP hD hS hl => lv_istore C.1 C.2.1 d hl hn h (fun ls hl => n p e s m args below meth c A H locs ls C hP hD hS hl)
theorem G_lstore_n {i : Fin 4} {x : Int64} (d : decode k.1 pc = .ok (.lstore_n i, 1)) (hn : (i : Nat) + 1 < k.2.1) (h : ((i : Nat), Value.long x) :: L.filter (fun q => !(q.1 == (i : Nat)) && (!(q.1 == (i : Nat) + 1) && !(q.1 + 1 == (i : Nat) && q.2.category == 2))) = L') (n : G v l R Qf k (pc + 1) L' (st) ws cs sl) : G v l R Qf k pc L (.long x :: st) ws cs sl := fun p e s m args below meth c A H locs ls C hP hD hS hl => lv_lstore_n C.1 C.2.1 d rfl hl hn h (fun ls hl => n p e s m args below meth c A H locs ls C hP hD hS hl)
theorem G_lstore {i : Nat} {x : Int64} (d : decode k.1 pc = .ok (.lstore i, 2)) (hn : i + 1 < k.2.1) (h : (i, Value.long x) :: L.filter (fun q => !(q.1 == i) && (!(q.1 == i + 1) && !(q.1 + 1 == i && q.2.category == 2))) = L') (n : G v l R Qf k (pc + 2) L' (st) ws cs sl) : G v l R Qf k pc L (.long x :: st) ws cs sl := fun p e s m args below meth c A H locs ls C hP hD hS hl => lv_lstore C.1 C.2.1 d hl hn h (fun ls hl => n p e s m args below meth c A H locs ls C hP hD hS hl)
theorem G_astore_n {i : Fin 4} {x : Nat} (d : decode k.1 pc = .ok (.astore_n i, 1)) (hn : (i : Nat) < k.2.1) (h : ((i : Nat), Value.ref x) :: L.filter (fun q => !(q.1 == (i : Nat)) && !(q.1 + 1 == (i : Nat) && q.2.category == 2)) = L') (n : G v l R Qf k (pc + 1) L' (st) ws cs sl) : G v l R Qf k pc L (.ref x :: st) ws cs sl := fun p e s m args below meth c A H locs ls C hP hD hS hl => lv_astore_n C.1 C.2.1 d rfl hl hn h (fun ls hl => n p e s m args below meth c A H locs ls C hP hD hS hl)
theorem G_astore {i : Nat} {x : Nat} (d : decode k.1 pc = .ok (.astore i, 2)) (hn : i < k.2.1) (h : (i, Value.ref x) :: L.filter (fun q => !(q.1 == i) && !(q.1 + 1 == i && q.2.category == 2)) = L') (n : G v l R Qf k (pc + 2) L' (st) ws cs sl) : G v l R Qf k pc L (.ref x :: st) ws cs sl := fun p e s m args below meth c A H locs ls C hP hD hS hl => lv_astore C.1 C.2.1 d hl hn h (fun ls hl => n p e s m args below meth c A H locs ls C hP hD hS hl)
theorem G_astore_nN {i : Fin 4} (d : decode k.1 pc = .ok (.astore_n i, 1)) (hn : (i : Nat) < k.2.1) (h : ((i : Nat), Value.null) :: L.filter (fun q => !(q.1 == (i : Nat)) && !(q.1 + 1 == (i : Nat) && q.2.category == 2)) = L') (n : G v l R Qf k (pc + 1) L' (st) ws cs sl) : G v l R Qf k pc L (.null :: st) ws cs sl := fun p e s m args below meth c A H locs ls C hP hD hS hl => lv_astore_nN C.1 C.2.1 d rfl hl hn h (fun ls hl => n p e s m args below meth c A H locs ls C hP hD hS hl)
theorem G_astoreN {i : Nat} (d : decode k.1 pc = .ok (.astore i, 2)) (hn : i < k.2.1) (h : (i, Value.null) :: L.filter (fun q => !(q.1 == i) && !(q.1 + 1 == i && q.2.category == 2)) = L') (n : G v l R Qf k (pc + 2) L' (st) ws cs sl) : G v l R Qf k pc L (.null :: st) ws cs sl := fun p e s m args below meth c A H locs ls C hP hD hS hl => lv_astoreN C.1 C.2.1 d hl hn h (fun ls hl => n p e s m args below meth c A H locs ls C hP hD hS hl)
theorem G_iinc {i : Nat} {a : Int} {x : Int32} (y : Int32) (j : Nat) (d : decode k.1 pc = .ok (.iinc i a, 3)) (hj : L[j]? = some (i, .int x)) (hv : x + Int32.ofInt a = y) (hn : i < k.2.1) (h : (i, Value.int y) :: L.filter (fun q => !(q.1 == i) && !(q.1 + 1 == i && q.2.category == 2)) = L') (n : G v l R Qf k (pc + 3) L' (st) ws cs sl) : G v l R Qf k pc L (st) ws cs sl := fun p e s m args below meth c A H locs ls C hP hD hS hl => lv_iinc C.1 C.2.1 d hl hj hv hn h (fun ls hl => n p e s m args below meth c A H locs ls C hP hD hS hl)
theorem G_iadd {x y : Int32} (d : decode k.1 pc = .ok (.iadd, 1)) (n : G v l R Qf k (pc + 1) L (.int (x + y) :: st) ws cs sl) : G v l R Qf k pc L (.int y :: .int x :: st) ws cs sl := fun p e s m args below meth c A H locs ls C hP hD hS hl => lv_iadd C.1 C.2.1 d (n p e s m args below meth c A H locs ls C hP hD hS hl)
theorem G_isub {x y : Int32} (d : decode k.1 pc = .ok (.isub, 1)) (n : G v l R Qf k (pc + 1) L (.int (x - y) :: st) ws cs sl) : G v l R Qf k pc L (.int y :: .int x :: st) ws cs sl := fun p e s m args below meth c A H locs ls C hP hD hS hl => lv_isub C.1 C.2.1 d (n p e s m args below meth c A H locs ls C hP hD hS hl)
theorem G_imul {x y : Int32} (d : decode k.1 pc = .ok (.imul, 1)) (n : G v l R Qf k (pc + 1) L (.int (x * y) :: st) ws cs sl) : G v l R Qf k pc L (.int y :: .int x :: st) ws cs sl := fun p e s m args below meth c A H locs ls C hP hD hS hl => lv_imul C.1 C.2.1 d (n p e s m args below meth c A H locs ls C hP hD hS hl)
theorem G_iand {x y : Int32} (d : decode k.1 pc = .ok (.iand, 1)) (n : G v l R Qf k (pc + 1) L (.int (x &&& y) :: st) ws cs sl) : G v l R Qf k pc L (.int y :: .int x :: st) ws cs sl := fun p e s m args below meth c A H locs ls C hP hD hS hl => lv_iand C.1 C.2.1 d (n p e s m args below meth c A H locs ls C hP hD hS hl)
theorem G_ior {x y : Int32} (d : decode k.1 pc = .ok (.ior, 1)) (n : G v l R Qf k (pc + 1) L (.int (x ||| y) :: st) ws cs sl) : G v l R Qf k pc L (.int y :: .int x :: st) ws cs sl := fun p e s m args below meth c A H locs ls C hP hD hS hl => lv_ior C.1 C.2.1 d (n p e s m args below meth c A H locs ls C hP hD hS hl)
theorem G_ixor {x y : Int32} (d : decode k.1 pc = .ok (.ixor, 1)) (n : G v l R Qf k (pc + 1) L (.int (x ^^^ y) :: st) ws cs sl) : G v l R Qf k pc L (.int y :: .int x :: st) ws cs sl := fun p e s m args below meth c A H locs ls C hP hD hS hl => lv_ixor C.1 C.2.1 d (n p e s m args below meth c A H locs ls C hP hD hS hl)
theorem G_idiv {x y : Int32} (d : decode k.1 pc = .ok (.idiv, 1)) (h : ¬ y = 0) (n : G v l R Qf k (pc + 1) L (.int (x / y) :: st) ws cs sl) : G v l R Qf k pc L (.int y :: .int x :: st) ws cs sl := fun p e s m args below meth c A H locs ls C hP hD hS hl => lv_idiv C.1 C.2.1 d h (n p e s m args below meth c A H locs ls C hP hD hS hl)
theorem G_irem {x y : Int32} (d : decode k.1 pc = .ok (.irem, 1)) (h : ¬ y = 0) (n : G v l R Qf k (pc + 1) L (.int (x - x / y * y) :: st) ws cs sl) : G v l R Qf k pc L (.int y :: .int x :: st) ws cs sl := fun p e s m args below meth c A H locs ls C hP hD hS hl => lv_irem C.1 C.2.1 d h (n p e s m args below meth c A H locs ls C hP hD hS hl)
theorem G_ineg {x : Int32} (d : decode k.1 pc = .ok (.ineg, 1)) (n : G v l R Qf k (pc + 1) L (.int (-x) :: st) ws cs sl) : G v l R Qf k pc L (.int x :: st) ws cs sl := fun p e s m args below meth c A H locs ls C hP hD hS hl => lv_ineg C.1 C.2.1 d (n p e s m args below meth c A H locs ls C hP hD hS hl)
theorem G_ladd {x y : Int64} (d : decode k.1 pc = .ok (.ladd, 1)) (n : G v l R Qf k (pc + 1) L (.long (x + y) :: st) ws cs sl) : G v l R Qf k pc L (.long y :: .long x :: st) ws cs sl := fun p e s m args below meth c A H locs ls C hP hD hS hl => lv_ladd C.1 C.2.1 d (n p e s m args below meth c A H locs ls C hP hD hS hl)
theorem G_lsub {x y : Int64} (d : decode k.1 pc = .ok (.lsub, 1)) (n : G v l R Qf k (pc + 1) L (.long (x - y) :: st) ws cs sl) : G v l R Qf k pc L (.long y :: .long x :: st) ws cs sl := fun p e s m args below meth c A H locs ls C hP hD hS hl => lv_lsub C.1 C.2.1 d (n p e s m args below meth c A H locs ls C hP hD hS hl)
theorem G_lmul {x y : Int64} (d : decode k.1 pc = .ok (.lmul, 1)) (n : G v l R Qf k (pc + 1) L (.long (x * y) :: st) ws cs sl) : G v l R Qf k pc L (.long y :: .long x :: st) ws cs sl := fun p e s m args below meth c A H locs ls C hP hD hS hl => lv_lmul C.1 C.2.1 d (n p e s m args below meth c A H locs ls C hP hD hS hl)
theorem G_land {x y : Int64} (d : decode k.1 pc = .ok (.land, 1)) (n : G v l R Qf k (pc + 1) L (.long (x &&& y) :: st) ws cs sl) : G v l R Qf k pc L (.long y :: .long x :: st) ws cs sl := fun p e s m args below meth c A H locs ls C hP hD hS hl => lv_land C.1 C.2.1 d (n p e s m args below meth c A H locs ls C hP hD hS hl)
theorem G_lor {x y : Int64} (d : decode k.1 pc = .ok (.lor, 1)) (n : G v l R Qf k (pc + 1) L (.long (x ||| y) :: st) ws cs sl) : G v l R Qf k pc L (.long y :: .long x :: st) ws cs sl := fun p e s m args below meth c A H locs ls C hP hD hS hl => lv_lor C.1 C.2.1 d (n p e s m args below meth c A H locs ls C hP hD hS hl)
theorem G_lxor {x y : Int64} (d : decode k.1 pc = .ok (.lxor, 1)) (n : G v l R Qf k (pc + 1) L (.long (x ^^^ y) :: st) ws cs sl) : G v l R Qf k pc L (.long y :: .long x :: st) ws cs sl := fun p e s m args below meth c A H locs ls C hP hD hS hl => lv_lxor C.1 C.2.1 d (n p e s m args below meth c A H locs ls C hP hD hS hl)
theorem G_ldiv {x y : Int64} (d : decode k.1 pc = .ok (.ldiv, 1)) (h : ¬ y = 0) (n : G v l R Qf k (pc + 1) L (.long (x / y) :: st) ws cs sl) : G v l R Qf k pc L (.long y :: .long x :: st) ws cs sl := fun p e s m args below meth c A H locs ls C hP hD hS hl => lv_ldiv C.1 C.2.1 d h (n p e s m args below meth c A H locs ls C hP hD hS hl)
theorem G_lrem {x y : Int64} (d : decode k.1 pc = .ok (.lrem, 1)) (h : ¬ y = 0) (n : G v l R Qf k (pc + 1) L (.long (x - x / y * y) :: st) ws cs sl) : G v l R Qf k pc L (.long y :: .long x :: st) ws cs sl := fun p e s m args below meth c A H locs ls C hP hD hS hl => lv_lrem C.1 C.2.1 d h (n p e s m args below meth c A H locs ls C hP hD hS hl)
theorem G_lneg {x : Int64} (d : decode k.1 pc = .ok (.lneg, 1)) (n : G v l R Qf k (pc + 1) L (.long (-x) :: st) ws cs sl) : G v l R Qf k pc L (.long x :: st) ws cs sl := fun p e s m args below meth c A H locs ls C hP hD hS hl => lv_lneg C.1 C.2.1 d (n p e s m args below meth c A H locs ls C hP hD hS hl)
theorem G_ishl {x y : Int32} (d : decode k.1 pc = .ok (.ishl, 1)) (n : G v l R Qf k (pc + 1) L (.int (x <<< (y &&& 31)) :: st) ws cs sl) : G v l R Qf k pc L (.int y :: .int x :: st) ws cs sl := fun p e s m args below meth c A H locs ls C hP hD hS hl => lv_ishl C.1 C.2.1 d (n p e s m args below meth c A H locs ls C hP hD hS hl)
theorem G_ishr {x y : Int32} (d : decode k.1 pc = .ok (.ishr, 1)) (n : G v l R Qf k (pc + 1) L (.int (x >>> (y &&& 31)) :: st) ws cs sl) : G v l R Qf k pc L (.int y :: .int x :: st) ws cs sl := fun p e s m args below meth c A H locs ls C hP hD hS hl => lv_ishr C.1 C.2.1 d (n p e s m args below meth c A H locs ls C hP hD hS hl)
theorem G_iushr {x y : Int32} (d : decode k.1 pc = .ok (.iushr, 1)) (n : G v l R Qf k (pc + 1) L (.int ((x.toUInt32 >>> (y.toUInt32 &&& Int32.toUInt32 31)).toInt32) :: st) ws cs sl) : G v l R Qf k pc L (.int y :: .int x :: st) ws cs sl := fun p e s m args below meth c A H locs ls C hP hD hS hl => lv_iushr C.1 C.2.1 d rfl (n p e s m args below meth c A H locs ls C hP hD hS hl)
theorem G_lshl {x : Int64} {y : Int32} (d : decode k.1 pc = .ok (.lshl, 1)) (n : G v l R Qf k (pc + 1) L (.long (x <<< (y.toInt64 &&& 63)) :: st) ws cs sl) : G v l R Qf k pc L (.int y :: .long x :: st) ws cs sl := fun p e s m args below meth c A H locs ls C hP hD hS hl => lv_lshl C.1 C.2.1 d rfl (n p e s m args below meth c A H locs ls C hP hD hS hl)
theorem G_lshr {x : Int64} {y : Int32} (d : decode k.1 pc = .ok (.lshr, 1)) (n : G v l R Qf k (pc + 1) L (.long (x >>> (y.toInt64 &&& 63)) :: st) ws cs sl) : G v l R Qf k pc L (.int y :: .long x :: st) ws cs sl := fun p e s m args below meth c A H locs ls C hP hD hS hl => lv_lshr C.1 C.2.1 d rfl (n p e s m args below meth c A H locs ls C hP hD hS hl)
theorem G_lushr {x : Int64} {y : Int32} (d : decode k.1 pc = .ok (.lushr, 1)) (n : G v l R Qf k (pc + 1) L (.long ((x.toUInt64 >>> (y.toInt64.toUInt64 &&& Int64.toUInt64 63)).toInt64) :: st) ws cs sl) : G v l R Qf k pc L (.int y :: .long x :: st) ws cs sl := fun p e s m args below meth c A H locs ls C hP hD hS hl => lv_lushr C.1 C.2.1 d rfl (n p e s m args below meth c A H locs ls C hP hD hS hl)
theorem G_i2l {x : Int32} (d : decode k.1 pc = .ok (.i2l, 1)) (n : G v l R Qf k (pc + 1) L (.long x.toInt64 :: st) ws cs sl) : G v l R Qf k pc L (.int x :: st) ws cs sl := fun p e s m args below meth c A H locs ls C hP hD hS hl => lv_i2l C.1 C.2.1 d rfl (n p e s m args below meth c A H locs ls C hP hD hS hl)
theorem G_l2i {x : Int64} (d : decode k.1 pc = .ok (.l2i, 1)) (n : G v l R Qf k (pc + 1) L (.int x.toInt32 :: st) ws cs sl) : G v l R Qf k pc L (.long x :: st) ws cs sl := fun p e s m args below meth c A H locs ls C hP hD hS hl => lv_l2i C.1 C.2.1 d rfl (n p e s m args below meth c A H locs ls C hP hD hS hl)
theorem G_i2b {x : Int32} (d : decode k.1 pc = .ok (.i2b, 1)) (n : G v l R Qf k (pc + 1) L (.int x.toInt8.toInt32 :: st) ws cs sl) : G v l R Qf k pc L (.int x :: st) ws cs sl := fun p e s m args below meth c A H locs ls C hP hD hS hl => lv_i2b C.1 C.2.1 d rfl (n p e s m args below meth c A H locs ls C hP hD hS hl)
theorem G_i2s {x : Int32} (d : decode k.1 pc = .ok (.i2s, 1)) (n : G v l R Qf k (pc + 1) L (.int x.toInt16.toInt32 :: st) ws cs sl) : G v l R Qf k pc L (.int x :: st) ws cs sl := fun p e s m args below meth c A H locs ls C hP hD hS hl => lv_i2s C.1 C.2.1 d rfl (n p e s m args below meth c A H locs ls C hP hD hS hl)
theorem G_i2c {x : Int32} (d : decode k.1 pc = .ok (.i2c, 1)) (n : G v l R Qf k (pc + 1) L (.int (x.toUInt32 % 65536).toInt32 :: st) ws cs sl) : G v l R Qf k pc L (.int x :: st) ws cs sl := fun p e s m args below meth c A H locs ls C hP hD hS hl => lv_i2c C.1 C.2.1 d rfl (n p e s m args below meth c A H locs ls C hP hD hS hl)
theorem G_dup {a : Value} (d : decode k.1 pc = .ok (.dup, 1)) (h0 : a.category = 1) (n : G v l R Qf k (pc + 1) L (a :: a :: st) ws cs sl) : G v l R Qf k pc L (a :: st) ws cs sl := fun p e s m args below meth c A H locs ls C hP hD hS hl => lv_dup C.1 C.2.1 d h0 (n p e s m args below meth c A H locs ls C hP hD hS hl)
theorem G_pop {a : Value} (d : decode k.1 pc = .ok (.pop, 1)) (h0 : a.category = 1) (n : G v l R Qf k (pc + 1) L (st) ws cs sl) : G v l R Qf k pc L (a :: st) ws cs sl := fun p e s m args below meth c A H locs ls C hP hD hS hl => lv_pop C.1 C.2.1 d h0 (n p e s m args below meth c A H locs ls C hP hD hS hl)
theorem G_dup_x1 {a b : Value} (d : decode k.1 pc = .ok (.dup_x1, 1)) (h0 : a.category = 1) (h1 : b.category = 1) (n : G v l R Qf k (pc + 1) L (a :: b :: a :: st) ws cs sl) : G v l R Qf k pc L (a :: b :: st) ws cs sl := fun p e s m args below meth c A H locs ls C hP hD hS hl => lv_dup_x1 C.1 C.2.1 d h0 h1 (n p e s m args below meth c A H locs ls C hP hD hS hl)
theorem G_dup_x2 {a b c0 : Value} (d : decode k.1 pc = .ok (.dup_x2, 1)) (h0 : a.category = 1) (h1 : b.category = 1) (h2 : c0.category = 1) (n : G v l R Qf k (pc + 1) L (a :: b :: c0 :: a :: st) ws cs sl) : G v l R Qf k pc L (a :: b :: c0 :: st) ws cs sl := fun p e s m args below meth c A H locs ls C hP hD hS hl => lv_dup_x2 C.1 C.2.1 d h0 h1 h2 (n p e s m args below meth c A H locs ls C hP hD hS hl)
theorem G_dup2_11 {a b : Value} (d : decode k.1 pc = .ok (.dup2, 1)) (h0 : a.category = 1) (h1 : b.category = 1) (n : G v l R Qf k (pc + 1) L (a :: b :: a :: b :: st) ws cs sl) : G v l R Qf k pc L (a :: b :: st) ws cs sl := fun p e s m args below meth c A H locs ls C hP hD hS hl => lv_dup2_11 C.1 C.2.1 d h0 h1 (n p e s m args below meth c A H locs ls C hP hD hS hl)
theorem G_dup2_2 {a : Value} (d : decode k.1 pc = .ok (.dup2, 1)) (h0 : a.category = 2) (n : G v l R Qf k (pc + 1) L (a :: a :: st) ws cs sl) : G v l R Qf k pc L (a :: st) ws cs sl := fun p e s m args below meth c A H locs ls C hP hD hS hl => lv_dup2_2 C.1 C.2.1 d h0 (n p e s m args below meth c A H locs ls C hP hD hS hl)
theorem G_pop2_2 {a : Value} (d : decode k.1 pc = .ok (.pop2, 1)) (h0 : a.category = 2) (n : G v l R Qf k (pc + 1) L (st) ws cs sl) : G v l R Qf k pc L (a :: st) ws cs sl := fun p e s m args below meth c A H locs ls C hP hD hS hl => lv_pop2_2 C.1 C.2.1 d h0 (n p e s m args below meth c A H locs ls C hP hD hS hl)
theorem G_dup2_x1_2 {a b : Value} (d : decode k.1 pc = .ok (.dup2_x1, 1)) (h0 : a.category = 2) (h1 : b.category = 1) (n : G v l R Qf k (pc + 1) L (a :: b :: a :: st) ws cs sl) : G v l R Qf k pc L (a :: b :: st) ws cs sl := fun p e s m args below meth c A H locs ls C hP hD hS hl => lv_dup2_x1_2 C.1 C.2.1 d h0 h1 (n p e s m args below meth c A H locs ls C hP hD hS hl)
theorem G_dup2_x2_2 {a b c0 : Value} (d : decode k.1 pc = .ok (.dup2_x2, 1)) (h0 : a.category = 2) (h1 : b.category = 1) (h2 : c0.category = 1) (n : G v l R Qf k (pc + 1) L (a :: b :: c0 :: a :: st) ws cs sl) : G v l R Qf k pc L (a :: b :: c0 :: st) ws cs sl := fun p e s m args below meth c A H locs ls C hP hD hS hl => lv_dup2_x2_2 C.1 C.2.1 d h0 h1 h2 (n p e s m args below meth c A H locs ls C hP hD hS hl)
theorem G_if_eq {x : Int32} {o : Int} (tgt : Nat) (d : decode k.1 pc = .ok (.ifCond .eq o, 3)) (ht : (pc : Int) + o = (tgt : Int)) (a : x = 0 → G v l R Qf k tgt L (st) ws cs sl) (n : ¬ x = 0 → G v l R Qf k (pc + 3) L (st) ws cs sl) : G v l R Qf k pc L (.int x :: st) ws cs sl := fun p e s m args below meth c A H locs ls C hP hD hS hl => lv_if_eq C.1 C.2.1 d ht (fun q => a q p e s m args below meth c A H locs ls C hP hD hS hl) (fun q => n q p e s m args below meth c A H locs ls C hP hD hS hl)
theorem G_if_ne {x : Int32} {o : Int} (tgt : Nat) (d : decode k.1 pc = .ok (.ifCond .ne o, 3)) (ht : (pc : Int) + o = (tgt : Int)) (a : ¬ x = 0 → G v l R Qf k tgt L (st) ws cs sl) (n : x = 0 → G v l R Qf k (pc + 3) L (st) ws cs sl) : G v l R Qf k pc L (.int x :: st) ws cs sl := fun p e s m args below meth c A H locs ls C hP hD hS hl => lv_if_ne C.1 C.2.1 d ht (fun q => a q p e s m args below meth c A H locs ls C hP hD hS hl) (fun q => n q p e s m args below meth c A H locs ls C hP hD hS hl)
theorem G_if_lt {x : Int32} {o : Int} (tgt : Nat) (d : decode k.1 pc = .ok (.ifCond .lt o, 3)) (ht : (pc : Int) + o = (tgt : Int)) (a : x < 0 → G v l R Qf k tgt L (st) ws cs sl) (n : ¬ x < 0 → G v l R Qf k (pc + 3) L (st) ws cs sl) : G v l R Qf k pc L (.int x :: st) ws cs sl := fun p e s m args below meth c A H locs ls C hP hD hS hl => lv_if_lt C.1 C.2.1 d ht (fun q => a q p e s m args below meth c A H locs ls C hP hD hS hl) (fun q => n q p e s m args below meth c A H locs ls C hP hD hS hl)
theorem G_if_ge {x : Int32} {o : Int} (tgt : Nat) (d : decode k.1 pc = .ok (.ifCond .ge o, 3)) (ht : (pc : Int) + o = (tgt : Int)) (a : 0 ≤ x → G v l R Qf k tgt L (st) ws cs sl) (n : ¬ 0 ≤ x → G v l R Qf k (pc + 3) L (st) ws cs sl) : G v l R Qf k pc L (.int x :: st) ws cs sl := fun p e s m args below meth c A H locs ls C hP hD hS hl => lv_if_ge C.1 C.2.1 d ht (fun q => a q p e s m args below meth c A H locs ls C hP hD hS hl) (fun q => n q p e s m args below meth c A H locs ls C hP hD hS hl)
theorem G_if_gt {x : Int32} {o : Int} (tgt : Nat) (d : decode k.1 pc = .ok (.ifCond .gt o, 3)) (ht : (pc : Int) + o = (tgt : Int)) (a : 0 < x → G v l R Qf k tgt L (st) ws cs sl) (n : ¬ 0 < x → G v l R Qf k (pc + 3) L (st) ws cs sl) : G v l R Qf k pc L (.int x :: st) ws cs sl := fun p e s m args below meth c A H locs ls C hP hD hS hl => lv_if_gt C.1 C.2.1 d ht (fun q => a q p e s m args below meth c A H locs ls C hP hD hS hl) (fun q => n q p e s m args below meth c A H locs ls C hP hD hS hl)
theorem G_if_le {x : Int32} {o : Int} (tgt : Nat) (d : decode k.1 pc = .ok (.ifCond .le o, 3)) (ht : (pc : Int) + o = (tgt : Int)) (a : x ≤ 0 → G v l R Qf k tgt L (st) ws cs sl) (n : ¬ x ≤ 0 → G v l R Qf k (pc + 3) L (st) ws cs sl) : G v l R Qf k pc L (.int x :: st) ws cs sl := fun p e s m args below meth c A H locs ls C hP hD hS hl => lv_if_le C.1 C.2.1 d ht (fun q => a q p e s m args below meth c A H locs ls C hP hD hS hl) (fun q => n q p e s m args below meth c A H locs ls C hP hD hS hl)
theorem G_icmp_eq {x y : Int32} {o : Int} (tgt : Nat) (d : decode k.1 pc = .ok (.if_icmp .eq o, 3)) (ht : (pc : Int) + o = (tgt : Int)) (a : x = y → G v l R Qf k tgt L (st) ws cs sl) (n : ¬ x = y → G v l R Qf k (pc + 3) L (st) ws cs sl) : G v l R Qf k pc L (.int y :: .int x :: st) ws cs sl := fun p e s m args below meth c A H locs ls C hP hD hS hl => lv_icmp_eq C.1 C.2.1 d ht (fun q => a q p e s m args below meth c A H locs ls C hP hD hS hl) (fun q => n q p e s m args below meth c A H locs ls C hP hD hS hl)
theorem G_icmp_ne {x y : Int32} {o : Int} (tgt : Nat) (d : decode k.1 pc = .ok (.if_icmp .ne o, 3)) (ht : (pc : Int) + o = (tgt : Int)) (a : ¬ x = y → G v l R Qf k tgt L (st) ws cs sl) (n : x = y → G v l R Qf k (pc + 3) L (st) ws cs sl) : G v l R Qf k pc L (.int y :: .int x :: st) ws cs sl := fun p e s m args below meth c A H locs ls C hP hD hS hl => lv_icmp_ne C.1 C.2.1 d ht (fun q => a q p e s m args below meth c A H locs ls C hP hD hS hl) (fun q => n q p e s m args below meth c A H locs ls C hP hD hS hl)
theorem G_icmp_lt {x y : Int32} {o : Int} (tgt : Nat) (d : decode k.1 pc = .ok (.if_icmp .lt o, 3)) (ht : (pc : Int) + o = (tgt : Int)) (a : x < y → G v l R Qf k tgt L (st) ws cs sl) (n : ¬ x < y → G v l R Qf k (pc + 3) L (st) ws cs sl) : G v l R Qf k pc L (.int y :: .int x :: st) ws cs sl := fun p e s m args below meth c A H locs ls C hP hD hS hl => lv_icmp_lt C.1 C.2.1 d ht (fun q => a q p e s m args below meth c A H locs ls C hP hD hS hl) (fun q => n q p e s m args below meth c A H locs ls C hP hD hS hl)
theorem G_icmp_ge {x y : Int32} {o : Int} (tgt : Nat) (d : decode k.1 pc = .ok (.if_icmp .ge o, 3)) (ht : (pc : Int) + o = (tgt : Int)) (a : y ≤ x → G v l R Qf k tgt L (st) ws cs sl) (n : ¬ y ≤ x → G v l R Qf k (pc + 3) L (st) ws cs sl) : G v l R Qf k pc L (.int y :: .int x :: st) ws cs sl := fun p e s m args below meth c A H locs ls C hP hD hS hl => lv_icmp_ge C.1 C.2.1 d ht (fun q => a q p e s m args below meth c A H locs ls C hP hD hS hl) (fun q => n q p e s m args below meth c A H locs ls C hP hD hS hl)
theorem G_icmp_gt {x y : Int32} {o : Int} (tgt : Nat) (d : decode k.1 pc = .ok (.if_icmp .gt o, 3)) (ht : (pc : Int) + o = (tgt : Int)) (a : y < x → G v l R Qf k tgt L (st) ws cs sl) (n : ¬ y < x → G v l R Qf k (pc + 3) L (st) ws cs sl) : G v l R Qf k pc L (.int y :: .int x :: st) ws cs sl := fun p e s m args below meth c A H locs ls C hP hD hS hl => lv_icmp_gt C.1 C.2.1 d ht (fun q => a q p e s m args below meth c A H locs ls C hP hD hS hl) (fun q => n q p e s m args below meth c A H locs ls C hP hD hS hl)
theorem G_icmp_le {x y : Int32} {o : Int} (tgt : Nat) (d : decode k.1 pc = .ok (.if_icmp .le o, 3)) (ht : (pc : Int) + o = (tgt : Int)) (a : x ≤ y → G v l R Qf k tgt L (st) ws cs sl) (n : ¬ x ≤ y → G v l R Qf k (pc + 3) L (st) ws cs sl) : G v l R Qf k pc L (.int y :: .int x :: st) ws cs sl := fun p e s m args below meth c A H locs ls C hP hD hS hl => lv_icmp_le C.1 C.2.1 d ht (fun q => a q p e s m args below meth c A H locs ls C hP hD hS hl) (fun q => n q p e s m args below meth c A H locs ls C hP hD hS hl)
theorem G_goto {o : Int} (tgt : Nat) (d : decode k.1 pc = .ok (.goto o, 3)) (ht : (pc : Int) + o = (tgt : Int)) (n : G v l R Qf k tgt L (st) ws cs sl) : G v l R Qf k pc L (st) ws cs sl := fun p e s m args below meth c A H locs ls C hP hD hS hl => lv_goto C.1 C.2.1 d ht (n p e s m args below meth c A H locs ls C hP hD hS hl)
theorem G_ifnull {x : Nat} {o : Int} (d : decode k.1 pc = .ok (.ifnull o, 3)) (n : G v l R Qf k (pc + 3) L (st) ws cs sl) : G v l R Qf k pc L (.ref x :: st) ws cs sl := fun p e s m args below meth c A H locs ls C hP hD hS hl => lv_ifnull C.1 C.2.1 d (n p e s m args below meth c A H locs ls C hP hD hS hl)
theorem G_ifnonnull {x : Nat} {o : Int} (tgt : Nat) (d : decode k.1 pc = .ok (.ifnonnull o, 3)) (ht : (pc : Int) + o = (tgt : Int)) (n : G v l R Qf k tgt L (st) ws cs sl) : G v l R Qf k pc L (.ref x :: st) ws cs sl := fun p e s m args below meth c A H locs ls C hP hD hS hl => lv_ifnonnull C.1 C.2.1 d ht (n p e s m args below meth c A H locs ls C hP hD hS hl)
theorem G_ifnullN {o : Int} (tgt : Nat) (d : decode k.1 pc = .ok (.ifnull o, 3)) (ht : (pc : Int) + o = (tgt : Int)) (n : G v l R Qf k tgt L (st) ws cs sl) : G v l R Qf k pc L (.null :: st) ws cs sl := fun p e s m args below meth c A H locs ls C hP hD hS hl => lv_ifnullN C.1 C.2.1 d ht (n p e s m args below meth c A H locs ls C hP hD hS hl)
theorem G_ifnonnullN {o : Int} (d : decode k.1 pc = .ok (.ifnonnull o, 3)) (n : G v l R Qf k (pc + 3) L (st) ws cs sl) : G v l R Qf k pc L (.null :: st) ws cs sl := fun p e s m args below meth c A H locs ls C hP hD hS hl => lv_ifnonnullN C.1 C.2.1 d (n p e s m args below meth c A H locs ls C hP hD hS hl)
theorem G_lookup {df : Int} {ps : Array (Int × Int)} {len : Nat} {x : Int32} {o : Int} (tgt : Nat) (d : decode k.1 pc = .ok (.lookupswitch df ps, len)) (h : (ps.toList.zip (ps.toList.drop 1)).all (fun (a, next) => a.1 < next.1) = true) (ho : Op.lookupswitch.offset ps.toList df x.toInt = o) (ht : (pc : Int) + o = (tgt : Int)) (n : G v l R Qf k tgt L (st) ws cs sl) : G v l R Qf k pc L (.int x :: st) ws cs sl := fun p e s m args below meth c A H locs ls C hP hD hS hl => lv_lookup C.1 C.2.1 d h ho ht (n p e s m args below meth c A H locs ls C hP hD hS hl)
theorem G_tableOut {df lo hi : Int} {offs : Array Int} {len : Nat} {x : Int32} (tgt : Nat) (d : decode k.1 pc = .ok (.tableswitch df lo hi offs, len)) (h : x.toInt < lo ∨ hi < x.toInt) (ht : (pc : Int) + df = (tgt : Int)) (n : G v l R Qf k tgt L (st) ws cs sl) : G v l R Qf k pc L (.int x :: st) ws cs sl := fun p e s m args below meth c A H locs ls C hP hD hS hl => lv_tableOut C.1 C.2.1 d h ht (n p e s m args below meth c A H locs ls C hP hD hS hl)
theorem G_tableIn {df lo hi : Int} {offs : Array Int} {len : Nat} {x : Int32} {o : Int} (tgt : Nat) (d : decode k.1 pc = .ok (.tableswitch df lo hi offs, len)) (h1 : ¬ x.toInt < lo) (h2 : ¬ hi < x.toInt) (ho : offs[(x.toInt - lo).toNat]? = some o) (ht : (pc : Int) + o = (tgt : Int)) (n : G v l R Qf k tgt L (st) ws cs sl) : G v l R Qf k pc L (.int x :: st) ws cs sl := fun p e s m args below meth c A H locs ls C hP hD hS hl => lv_tableIn C.1 C.2.1 d h1 h2 ho ht (n p e s m args below meth c A H locs ls C hP hD hS hl)
end GR
end
section
/-! G: fields, arrays, new cells, returns -/
/-- what the tables say of the class C, number ci: its fields by T, their types by ty -/
def gK (v : gEnv) (ci : Nat) (C : String) (T : u_T) (N : Nat) (ty : Nat → FieldType) : Prop :=
  v.2.1[ci]? = some (C, T, N) ∧ (∀ w ∈ u_ws C T N, w ∈ v.2.2.2.2) ∧ (∀ k, k < N → parseFieldDescriptor (T k).2.2.1 = some (ty k)) ∧ ∀ a, a < N → ∀ b, b < N → a ≠ b → (T a).2.1 ≠ (T b).2.1
theorem g_fm {α β : Type} {f : α → Option β} {is : List α} {w : List β} (h : is.map f = w.map some) : is.filterMap f = w := by
  have h1 : (is.map f).filterMap id = is.filterMap f := by rw [List.filterMap_map]; rfl
  rw [← h1, h, List.filterMap_map]
  exact List.filterMap_some
section GH
variable {v : gEnv} {l : Launch} {R : Room} {Qf : gFin} {k : gKey} {pc : Nat} {L L' : List (Nat × Value)} {st : List Value} {ws ws' : va_W} {cs sl : Nat}
variable {a ci N i : Nat} {fs : List Value} {x : Value} {C ref : String} {T : u_T} {ty : Nat → FieldType}
theorem G_getf (q f : Nat) (d : decode k.1 pc = .ok (.getfield i, 3)) (he : ws[q]? = some (a, .inr (ci, fs))) (hc : gK v ci C T N ty) (hf : f < N) (hl : Cond.fieldLink k.2.2.1 i (T f).1 (T f).2.1 (T f).2.2.1 ∈ v.2.2.2.2) (hx : fs[f]? = some x)
    (n : G v l R Qf k (pc + 3) L (x :: st) ws cs sl) : G v l R Qf k pc L (.ref a :: st) ws cs sl := fun p e s m args below meth c A H locs ls C hP hD hS h => by
  obtain ⟨h1, h2, h3, h4, h5, h6, h7, h8, h9, h10, h11, h12, h13⟩ := id C
  exact va_get h1 h2 h8 hc.2.1 h4 h10 hP q he hc.1 f hf (h8 _ hl) (fun _ z => z) hx d (n p e s m args below meth c A H locs ls C hP hD hS h)
theorem G_getfN {host : String} (q f : Nat) (d : decode k.1 pc = .ok (.getfield i, 3)) (he : ws[q]? = some (a, .inr (ci, fs))) (hc : gK v ci C T N ty) (hf : f < N) (hl : ∀ A s H, v.2.2.2.1 A s H → va_Nw (.fieldLinkNest k.2.2.1 i (T f).1 (T f).2.1 (T f).2.2.1 host) s) (hx : fs[f]? = some x)
    (n : G v l R Qf k (pc + 3) L (x :: st) ws cs sl) : G v l R Qf k pc L (.ref a :: st) ws cs sl := fun p e s m args below meth c A H locs ls C hP hD hS h => by
  obtain ⟨h1, h2, h3, h4, h5, h6, h7, h8, h9, h10, h11, h12, h13⟩ := id C
  exact va_getN h1 h2 h8 hc.2.1 h4 h10 hP q he hc.1 f hf (va_Nw.use rfl (hl _ _ _ h12)) (fun _ z => z) hx d (n p e s m args below meth c A H locs ls C hP hD hS h)
theorem G_putf (q f : Nat) (d : decode k.1 pc = .ok (.putfield i, 3)) (he : ws[q]? = some (a, .inr (ci, fs))) (hc : gK v ci C T N ty) (hf : f < N) (hl : Cond.fieldLink k.2.2.1 i (T f).1 (T f).2.1 (T f).2.2.1 ∈ v.2.2.2.2) (hfin : (T f).2.2.2 = false) (hn : narrow (ty f) x = x) (hfit : fits (ty f) x = true) (hlen : f < fs.length)
    (hw : ws.set q (a, .inr (ci, fs.set f x)) = ws') (n : G v l R Qf k (pc + 3) L st ws' cs sl) : G v l R Qf k pc L (x :: .ref a :: st) ws cs sl := fun p e s m args below meth c A H locs ls C hP hD hS h => by
  obtain ⟨h1, h2, h3, h4, h5, h6, h7, h8, h9, h10, h11, h12, h13⟩ := id C
  subst hw
  exact va_put h1 h2 h8 hc.2.1 ty hc.2.2.1 hc.2.2.2 h4 h10 hP hD hS q he hc.1 f hf (h8 _ hl) (fun _ z => z) hfin (hc.2.2.1 f hf) hn hfit hlen d (fun H1 locs1 hP hD hS => n p e s m args below meth c A H1 locs1 ls C hP hD hS h)
theorem G_putfN {host : String} (q f : Nat) (d : decode k.1 pc = .ok (.putfield i, 3)) (he : ws[q]? = some (a, .inr (ci, fs))) (hc : gK v ci C T N ty) (hf : f < N) (hl : ∀ A s H, v.2.2.2.1 A s H → va_Nw (.fieldLinkNest k.2.2.1 i (T f).1 (T f).2.1 (T f).2.2.1 host) s) (hfin : (T f).2.2.2 = false) (hn : narrow (ty f) x = x) (hfit : fits (ty f) x = true) (hlen : f < fs.length)
    (hw : ws.set q (a, .inr (ci, fs.set f x)) = ws') (n : G v l R Qf k (pc + 3) L st ws' cs sl) : G v l R Qf k pc L (x :: .ref a :: st) ws cs sl := fun p e s m args below meth c A H locs ls C hP hD hS h => by
  obtain ⟨h1, h2, h3, h4, h5, h6, h7, h8, h9, h10, h11, h12, h13⟩ := id C
  subst hw
  exact va_putN h1 h2 h8 hc.2.1 ty hc.2.2.1 hc.2.2.2 h4 h10 hP hD hS q he hc.1 f hf (va_Nw.use rfl (hl _ _ _ h12)) (fun _ z => z) hfin (hc.2.2.1 f hf) hn hfit hlen d (fun H1 locs1 hP hD hS => n p e s m args below meth c A H1 locs1 ls C hP hD hS h)
/-- a final field, in the constructor of its own class -/
theorem G_putF (q f : Nat) (d : decode k.1 pc = .ok (.putfield i, 3)) (he : ws[q]? = some (a, .inr (ci, fs))) (hc : gK v ci C T N ty) (hf : f < N) (hl : Cond.fieldLink k.2.2.1 i (T f).1 (T f).2.1 (T f).2.2.1 ∈ v.2.2.2.2) (hfin : (T f).2.2.2 = true) (hin : k.2.2.2.2.2 = "<init>") (hdc : (T f).1 = k.2.2.1) (hn : narrow (ty f) x = x) (hfit : fits (ty f) x = true) (hlen : f < fs.length)
    (hw : ws.set q (a, .inr (ci, fs.set f x)) = ws') (n : G v l R Qf k (pc + 3) L st ws' cs sl) : G v l R Qf k pc L (x :: .ref a :: st) ws cs sl := fun p e s m args below meth c A H locs ls C hP hD hS h => by
  obtain ⟨h1, h2, h3, h4, h5, h6, h7, h8, h9, h10, h11, h12, h13⟩ := id C
  subst hw
  exact va_putF h1 h2 h8 hc.2.1 ty hc.2.2.1 hc.2.2.2 h4 h10 hP hD hS q he hc.1 f hf (h8 _ hl) (fun _ z => z) hfin (h7.trans hin) hdc (hc.2.2.1 f hf) hn hfit hlen d (fun H1 locs1 hP hD hS => n p e s m args below meth c A H1 locs1 ls C hP hD hS h)
/-- a new object -/
theorem G_new (fs : List Value) (d : decode k.1 pc = .ok (.new i, 3)) (hc : gK v ci C T N ty) (hl : Cond.classLink k.2.2.1 i C ∈ v.2.2.2.2) (hi : Cond.instantiable C N ∈ v.2.2.2.2) (hz : Cond.initialized C ∈ v.2.2.2.2) (hfs : ∀ j, j < N → defaultValue (ty j) = vp_V fs j) (hcs : cs + 1 ≤ R.cells) (hsl : sl + N ≤ R.slots)
    (n : ∀ q : Nat, G v l R Qf k (pc + 3) L (.ref q :: st) (ws ++ [(q, .inr (ci, fs))]) (cs + 1) (sl + N)) : G v l R Qf k pc L st ws cs sl := fun p e s m args below meth c A H locs ls C hP hD hS h => by
  obtain ⟨h1, h2, h3, h4, h5, h6, h7, h8, h9, h10, h11, h12, h13⟩ := id C
  exact va_new h1 h2 h8 hc.2.1 ty hc.2.2.1 h4 (h8 _ hl) (h8 _ hi) (h8 _ hz) h10 hP hD hS h11 hc.1 hfs hcs hsl d (fun q H1 hP hD hS => n q p e s m args below meth c A H1 locs ls C hP hD hS h)
/-- a new array of numbers; its class is the one that the tables name -/
theorem G_newa {atype : ArrayType} {fty : FieldType} {cA : ClassId} {z : Int32} {M : Nat} (t : Nat) (a0 : vp_A) (d : decode k.1 pc = .ok (.newarray atype, 2)) (hty : newarray.typeOf atype = fty) (ht : v.2.2.1[t]? = some (cA, fty)) (hpr : ∀ C, fty ≠ .object C) (hl : Cond.arrayClass fty ∈ v.2.2.2.2)
    (ha : ∀ cA : ClassId, vp_cell cA a0 = arrV cA M (fun _ => defaultValue fty)) (hz : ¬ z < 0) (hM : z.toNatClampNeg = M) (hb : M * componentBytes fty ≤ 536870912) (hcs : cs + 1 ≤ R.cells) (hsl : sl + M ≤ R.slots)
    (n : ∀ q : Nat, G v l R Qf k (pc + 2) L (.ref q :: st) (ws ++ [(q, .inl (cA, a0))]) (cs + 1) (sl + M)) : G v l R Qf k pc L (.int z :: st) ws cs sl := fun p e s m args below meth c A H locs ls C hP hD hS h => by
  obtain ⟨h1, h2, h3, h4, h5, h6, h7, h8, h9, h10, h11, h12, h13⟩ := id C
  subst hty
  refine va_newaK h1 h2 (h8 _ hl) rfl d rfl hz hM hb hcs hsl rfl fun H1 cB e1 z1 o1 hAr hNm => ?_
  have hRA := (h10.2 t _ ht).2
  have hcA : s.vm.findClass ("[" ++ (newarray.typeOf atype).toString) = some cA := by cases atype <;> exact hRA
  have ec : cB = cA := Option.some.inj (hNm.symm.trans hcA)
  subst ec
  have hk : ∀ (j : Nat) (x : Nat × va_E), ws[j]? = some x → H1[x.1]? = H[x.1]? := fun j x hx => o1 x.1 ((hP j x hx).lt)
  refine n H.size p e s m args below meth c A H1 locs ls C ((hP.kept hk).app (fun j x hx => ?_)) (hD.push hP rfl (h11 _ hS.1)) ⟨Nat.le_trans hS.1 (by omega), fun x g1 g2 => (o1 x (Nat.lt_of_lt_of_le g1 hS.1)).trans (hS.2.1 x g1 g2), hS.2.2⟩ h
  have hj : j < 1 := (List.getElem?_eq_some_iff.mp hx).1
  rw [show j = 0 by omega] at hx
  cases hx
  show H1[H.size]? = some (vp_cell _ _)
  rw [ha]
  exact e1
theorem G_alen {cA : ClassId} {b : vp_A} {fty : FieldType} (y : Int32) (q t : Nat) (d : decode k.1 pc = .ok (.arraylength, 1)) (he : ws[q]? = some (a, .inl (cA, b))) (ht : v.2.2.1[t]? = some (cA, fty)) (hy : Int32.ofNat b.1 = y)
    (n : G v l R Qf k (pc + 1) L (.int y :: st) ws cs sl) : G v l R Qf k pc L (.ref a :: st) ws cs sl := fun p e s m args below meth c A H locs ls C hP hD hS h => by
  exact va_alen C.1 C.2.1 C.2.2.2.2.2.2.2.2.2.1 hP q t he ht hy d (n p e s m args below meth c A H locs ls C hP hD hS h)
section ARR
variable {cA : ClassId} {M : Nat} {y z : Int32} {f : Nat → Int32}
theorem G_iald (q t : Nat) (d : decode k.1 pc = .ok (.iaload, 1)) (he : ws[q]? = some (a, .inl (cA, M, .inl f))) (ht : v.2.2.1[t]? = some (cA, .int)) (hin : vp_in y M) (n : G v l R Qf k (pc + 1) L (.int (f y.toNatClampNeg) :: st) ws cs sl) : G v l R Qf k pc L (.int y :: .ref a :: st) ws cs sl := fun p e s m args below meth c A H locs ls C hP hD hS h =>
  va_iald C.1 C.2.1 C.2.2.2.2.2.2.2.2.2.1 hP q t he ht hin d (n p e s m args below meth c A H locs ls C hP hD hS h)
theorem G_bald (q t : Nat) (d : decode k.1 pc = .ok (.baload, 1)) (he : ws[q]? = some (a, .inl (cA, M, .inl f))) (ht : v.2.2.1[t]? = some (cA, .byte)) (hin : vp_in y M) (n : G v l R Qf k (pc + 1) L (.int (f y.toNatClampNeg) :: st) ws cs sl) : G v l R Qf k pc L (.int y :: .ref a :: st) ws cs sl := fun p e s m args below meth c A H locs ls C hP hD hS h =>
  va_bald C.1 C.2.1 C.2.2.2.2.2.2.2.2.2.1 hP q t he ht hin d (n p e s m args below meth c A H locs ls C hP hD hS h)
theorem G_zald (q t : Nat) (d : decode k.1 pc = .ok (.baload, 1)) (he : ws[q]? = some (a, .inl (cA, M, .inl f))) (ht : v.2.2.1[t]? = some (cA, .boolean)) (hin : vp_in y M) (n : G v l R Qf k (pc + 1) L (.int (f y.toNatClampNeg) :: st) ws cs sl) : G v l R Qf k pc L (.int y :: .ref a :: st) ws cs sl := fun p e s m args below meth c A H locs ls C hP hD hS h =>
  va_zald C.1 C.2.1 C.2.2.2.2.2.2.2.2.2.1 hP q t he ht hin d (n p e s m args below meth c A H locs ls C hP hD hS h)
theorem G_lald {g : Nat → Int64} (q t : Nat) (d : decode k.1 pc = .ok (.laload, 1)) (he : ws[q]? = some (a, .inl (cA, M, .inr (.inl g)))) (ht : v.2.2.1[t]? = some (cA, .long)) (hin : vp_in y M) (n : G v l R Qf k (pc + 1) L (.long (g y.toNatClampNeg) :: st) ws cs sl) : G v l R Qf k pc L (.int y :: .ref a :: st) ws cs sl := fun p e s m args below meth c A H locs ls C hP hD hS h =>
  va_lald C.1 C.2.1 C.2.2.2.2.2.2.2.2.2.1 hP q t he ht hin d (n p e s m args below meth c A H locs ls C hP hD hS h)
theorem G_iast (q t : Nat) (d : decode k.1 pc = .ok (.iastore, 1)) (he : ws[q]? = some (a, .inl (cA, M, .inl f))) (ht : v.2.2.1[t]? = some (cA, .int)) (hin : vp_in y M) (hw : ws.set q (a, .inl (cA, M, .inl (upd f y.toNatClampNeg z))) = ws') (n : G v l R Qf k (pc + 1) L st ws' cs sl) : G v l R Qf k pc L (.int z :: .int y :: .ref a :: st) ws cs sl := fun p e s m args below meth c A H locs ls C hP hD hS h => by
  subst hw
  exact va_iast C.1 C.2.1 C.2.2.2.2.2.2.2.2.2.1 hP hD hS q t he ht hin d (fun H1 locs1 hP hD hS => n p e s m args below meth c A H1 locs1 ls C hP hD hS h)
theorem G_bast (q t : Nat) (d : decode k.1 pc = .ok (.bastore, 1)) (he : ws[q]? = some (a, .inl (cA, M, .inl f))) (ht : v.2.2.1[t]? = some (cA, .byte)) (hin : vp_in y M) (hw : ws.set q (a, .inl (cA, M, .inl (upd f y.toNatClampNeg (vp_nar .byte z)))) = ws') (n : G v l R Qf k (pc + 1) L st ws' cs sl) : G v l R Qf k pc L (.int z :: .int y :: .ref a :: st) ws cs sl := fun p e s m args below meth c A H locs ls C hP hD hS h => by
  subst hw
  exact va_bast C.1 C.2.1 C.2.2.2.2.2.2.2.2.2.1 hP hD hS q t he ht hin d (fun H1 locs1 hP hD hS => n p e s m args below meth c A H1 locs1 ls C hP hD hS h)
theorem G_zast (q t : Nat) (d : decode k.1 pc = .ok (.bastore, 1)) (he : ws[q]? = some (a, .inl (cA, M, .inl f))) (ht : v.2.2.1[t]? = some (cA, .boolean)) (hin : vp_in y M) (hw : ws.set q (a, .inl (cA, M, .inl (upd f y.toNatClampNeg (vp_nar .boolean z)))) = ws') (n : G v l R Qf k (pc + 1) L st ws' cs sl) : G v l R Qf k pc L (.int z :: .int y :: .ref a :: st) ws cs sl := fun p e s m args below meth c A H locs ls C hP hD hS h => by
  subst hw
  exact va_zast C.1 C.2.1 C.2.2.2.2.2.2.2.2.2.1 hP hD hS q t he ht hin d (fun H1 locs1 hP hD hS => n p e s m args below meth c A H1 locs1 ls C hP hD hS h)
theorem G_last {g : Nat → Int64} {u : Int64} (q t : Nat) (d : decode k.1 pc = .ok (.lastore, 1)) (he : ws[q]? = some (a, .inl (cA, M, .inr (.inl g)))) (ht : v.2.2.1[t]? = some (cA, .long)) (hin : vp_in y M) (hw : ws.set q (a, .inl (cA, M, .inr (.inl (vp_updL g y.toNatClampNeg u)))) = ws') (n : G v l R Qf k (pc + 1) L st ws' cs sl) : G v l R Qf k pc L (.long u :: .int y :: .ref a :: st) ws cs sl := fun p e s m args below meth c A H locs ls C hP hD hS h => by
  subst hw
  exact va_last C.1 C.2.1 C.2.2.2.2.2.2.2.2.2.1 hP hD hS q t he ht hin d (fun H1 locs1 hP hD hS => n p e s m args below meth c A H1 locs1 ls C hP hD hS h)
end ARR
theorem G_lcmp {y z : Int64} (d : decode k.1 pc = .ok (.lcmp, 1)) (n : G v l R Qf k (pc + 1) L (.int (lg_cmp y z) :: st) ws cs sl) : G v l R Qf k pc L (.long z :: .long y :: st) ws cs sl := fun p e s m args below meth c A H locs ls C hP hD hS h =>
  W.lcmp C.1 C.2.1 d (n p e s m args below meth c A H locs ls C hP hD hS h)
/-- Object.<init> -/
theorem G_obj (d : decode k.1 pc = .ok (.invokespecial i, 3)) (h1 : Cond.methodLink k.2.2.1 i Lib.objectInit ∈ v.2.2.2.2) (h2 : Cond.instanceMethod Lib.objectInit ∈ v.2.2.2.2) (h3 : Cond.code Lib.objectInit ⟨#[0xb1]⟩ 1 none ∈ v.2.2.2.2) (hf : 1 ≤ R.frames) (hlo : (st.map fun u => u.category).sum + 12 ≤ R.locals)
    (n : G v l R Qf k (pc + 3) L st ws cs sl) : G v l R Qf k pc L (.ref a :: st) ws cs sl := fun p e s m args below meth c A H locs ls C hP hD hS h => by
  obtain ⟨g1, g2, g3, g4, g5, g6, g7, g8, g9, g10, g11, g12, g13⟩ := id C
  exact W.objInit g1 g2 g4 (g8 _ h1) (g8 _ h2) (g8 _ h3) rfl (by rw [g3]; exact h.1) rfl d hf (by show 2 * 0 + _ + 12 ≤ _; omega) (n p e s m args below meth c A H locs ls C hP hD hS h)
/-- fewer cells, in any order -/
theorem G_sub (is : List Nat) (hn : va_nd is = true) (hw : is.map (fun i => ws[i]?) = ws'.map some) (n : G v l R Qf k pc L st ws' cs sl) : G v l R Qf k pc L st ws cs sl := fun p e s m args below meth c A H locs ls C hP hD hS h =>
  n p e s m args below meth c A H locs ls C (hP.sub is (g_fm hw)) (hD.sub is hn hw) hS h
/-- fewer listed locals -/
theorem G_lv (js : List Nat) (hw : lv_pick L js = L') (n : G v l R Qf k pc L' st ws cs sl) : G v l R Qf k pc L st ws cs sl := fun p e s m args below meth c A H locs ls C hP hD hS h =>
  n p e s m args below meth c A H locs ls C hP hD hS (lv_sub h js hw)
theorem G_widen {cs' sl' : Nat} (h1 : cs ≤ cs') (h2 : sl ≤ sl') (n : G v l R Qf k pc L st ws cs' sl') : G v l R Qf k pc L st ws cs sl := fun p e s m args below meth c A H locs ls C hP hD hS h =>
  W.widen h1 h2 (n p e s m args below meth c A H locs ls C hP hD hS h)
end GH
end
section
/-! G: contracts, calls, returns, what is thrown -/
/-- what is kept of the start's facts: warmer tables, other cells written, fewer cells free -/
def gOk (v : gEnv) : Prop := (∀ (A : Nat → Prop) (u U : State) (H : Heap), u.WarmedH U.vm → v.2.2.2.1 A u H → v.2.2.2.1 A U H) ∧ (∀ (A : Nat → Prop) (u : State) (H H1 : Heap), (∀ q : Nat, q < H.size → ¬ A q → H1[q]? = H[q]?) → v.2.2.2.1 A u H → v.2.2.2.1 A u H1) ∧
  (∀ (A B : Nat → Prop) (u : State) (H : Heap), (∀ q, B q → A q) → v.2.2.2.1 A u H → v.2.2.2.1 B u H) ∧ ∀ w ∈ v.2.2.2.2, goodWord w = true
def gRm (fr lo mc ms : Nat) : Room := { frames := fr, cells := mc, slots := ms, locals := lo }
def gQ (v : gEnv) (Post : Option Value → va_W → Prop) (A : Nat → Prop) : Array Value → State → Outcome → State → Prop := fun _ st o t => (∃ (r : Option Value) (w : va_W), o = .returned r ∧ Post r w ∧ va_P v.1 v.2.1 w t.heap ∧ va_D A w) ∧ va_F A st t
def gX (v : gEnv) (XP : String → va_W → Prop) (A : Nat → Prop) : String → State → State → Prop := fun E st t => (∃ w : va_W, XP E w ∧ va_P v.1 v.2.1 w t.heap ∧ va_D A w) ∧ va_F A st t
def gM (v : gEnv) (Post : Option Value → va_W → Prop) (XP : String → va_W → Prop) (mc ms : Nat) : gFin := fun below args s A => vx_MQ below (gQ v Post A) (gX v XP A) args s mc ms A
def gPre (v : gEnv) (av : List Value) (ws : va_W) (sz : Nat) : Array Value → State → Prop := va_Pc av (fun U => U.heap.size = sz ∧ va_P v.1 v.2.1 ws U.heap ∧ va_K v.1 v.2.1 v.2.2.1 U ∧ va_D (fun _ => True) ws ∧ v.2.2.2.1 (va_A ws sz) U U.heap)
/-- the contract of y (code cc, nL locals, answer ret): called with av in the world ws it returns with Post, or throws with XP; fr frames, lo words of locals, mc cells, ms slots are enough -/
def Ct (v : gEnv) (l : Launch) (y : MethodName) (cc : ByteArray) (nL : Nat) (ret : Option FieldType) (fr lo mc ms : Nat) (av : List Value) (ws : va_W) (Post : Option Value → va_W → Prop) (XP : String → va_W → Prop) : Prop :=
  ∀ sz : Nat, vx_Met l y (.code y cc nL ret :: v.2.2.2.2) (gRm fr lo mc ms) (gPre v av ws sz) (gQ v Post (va_A ws sz)) (gX v XP (va_A ws sz)) mc ms (va_A ws sz)
/-- nothing is thrown -/
abbrev gN : String → va_W → Prop := fun _ _ => False
def GT (v : gEnv) (l : Launch) (R : Room) (Qf : gFin) (k : gKey) (pc : Nat) (L : List (Nat × Value)) (st : List Value) (E : String) (ws : va_W) (cs sl : Nat) : Prop :=
  ∀ (p : Program) (e : Env) (s : State) (m : MethodId) (args : Array Value) (below : List Frame) (meth : Method) (c : Code) (A : Nat → Prop) (H : Heap) (locs : List Loc) (ls : Array Slot) (q : Addr) (ce : Cell),
    gC v k A p l s m args meth c → va_P v.1 v.2.1 ws H → va_D A ws → va_S A s.heap H locs → lv_has ls k.2.1 L → H[q]? = some ce → ce.vm = .none → s.vm.findClass E = some ce.cls → vx_W p l e R s m args below meth c H locs cs sl (Qf below args s A) (F0 m pc ls st) q
theorem gPre_blind {v : gEnv} (hv : gOk v) (av : List Value) (ws : va_W) (sz : Nat) : FrameBlind (gPre v av ws sz) := by
  intro a U g mk q
  obtain ⟨q0, q1, qP, qK, qD, qE⟩ := q
  refine ⟨q0, q1, qP, va_K.moved (u := U) (U := U.calling g mk a) (Vm.Alike.refl U.vm) qK, qD, ?_⟩
  exact hv.1 _ U (U.calling g mk a) _ (State.WarmedH.refl U) qE
section GE
variable {v : gEnv} {l : Launch} {y : MethodName} {cc : ByteArray} {nL fr lo mc ms : Nat} {ret : Option FieldType} {av : List Value} {ws : va_W} {Post : Option Value → va_W → Prop} {XP : String → va_W → Prop}
set_option maxHeartbeats 1000000 in
theorem Ct_of (hl0 : l.stackTraces = false) (hy : plainName y.cls = true) (hlen : (lg_sl av).length ≤ nL) (h : G v l (gRm fr lo mc ms) (gM v Post XP mc ms) (cc, nL, y.cls, ret, [], y.name) 0 (lv_args 0 av) [] ws 0 0) :
    Ct v l y cc nL ret fr lo mc ms av ws Post XP := by
  intro sz
  refine vx_ofW (cc := cc) (maxL := nL) (ret := ret) hy rfl ?_
  intro p e s m args below meth c s₁ B hml ht hpre
  obtain ⟨rfl, hsz, hP, hK, hD, hE⟩ := hpre
  subst hsz
  have hts := atoms_spec (ws := .code y cc nL ret :: v.2.2.2.2) B.pre
  have hl := lv_entry av (n := nL) hlen
  rw [lg_entry_eq]
  generalize (lg_sl av ++ List.replicate (nL - (lg_sl av).length) Slot.unset).toArray = ls at hl ⊢
  have ht0 : c.exceptionTable.toList = [] := by
    cases hx : c.exceptionTable.toList with
    | nil => rfl
    | cons x r => exact absurd (by rw [hx]; exact List.mem_cons_self) (fun z => ht x z)
  exact h p e s m av.toArray below meth c (va_A ws s.heap.size) s.heap [] ls ⟨B.exec, B.bytes, hml, findClass_of_methodNamed B.named, B.returns, ht0, (name_of_methodNamed B.named B.method).1, fun w hw => hts w (List.mem_cons_of_mem _ hw), B.notSynchronized, hK, fun q hq => Or.inr hq, hE, hl0⟩ hP hD.self va_S.rf hl
end GE
section GRet
variable {v : gEnv} {l : Launch} {R : Room} {k : gKey} {pc cs sl mc ms : Nat} {L : List (Nat × Value)} {ws : va_W} {Post : Option Value → va_W → Prop} {XP : String → va_W → Prop}
theorem G_iret {x : Int32} (d : decode k.1 pc = .ok (.ireturn, 1)) (hr : k.2.2.2.1 = some .int) (h1 : cs ≤ mc) (h2 : sl ≤ ms) (hp : Post (some (.int x)) ws) : G v l R (gM v Post XP mc ms) k pc L [.int x] ws cs sl := fun p e s m args below meth c A H locs ls C hP hD hS h =>
  W.widen h1 h2 (vx_ret (W.iret C.1 C.2.1 (C.2.2.2.2.1.trans hr) (fun t ht hW => ⟨⟨_, ws, rfl, hp, by rw [ht]; exact hP, hD⟩, hS.F ht⟩) hS.2.2 d C.2.2.2.2.2.2.2.2.1))
theorem G_zret {x : Int32} (ty : FieldType) (d : decode k.1 pc = .ok (.ireturn, 1)) (hr : k.2.2.2.1 = some ty) (hx : narrow ty (.int x) = .int x) (h1 : cs ≤ mc) (h2 : sl ≤ ms) (hp : Post (some (.int x)) ws) : G v l R (gM v Post XP mc ms) k pc L [.int x] ws cs sl := fun p e s m args below meth c A H locs ls C hP hD hS h =>
  W.widen h1 h2 (vx_ret (W.zret C.1 C.2.1 (C.2.2.2.2.1.trans hr) hx (fun t ht hW => ⟨⟨_, ws, rfl, hp, by rw [ht]; exact hP, hD⟩, hS.F ht⟩) hS.2.2 d C.2.2.2.2.2.2.2.2.1))
theorem G_lret {x : Int64} (d : decode k.1 pc = .ok (.lreturn, 1)) (hr : k.2.2.2.1 = some .long) (h1 : cs ≤ mc) (h2 : sl ≤ ms) (hp : Post (some (.long x)) ws) : G v l R (gM v Post XP mc ms) k pc L [.long x] ws cs sl := fun p e s m args below meth c A H locs ls C hP hD hS h =>
  W.widen h1 h2 (vx_ret (W.lret C.1 C.2.1 (C.2.2.2.2.1.trans hr) (fun t ht hW => ⟨⟨_, ws, rfl, hp, by rw [ht]; exact hP, hD⟩, hS.F ht⟩) hS.2.2 d C.2.2.2.2.2.2.2.2.1))
theorem G_aret {x : Value} (rt : FieldType) (d : decode k.1 pc = .ok (.areturn, 1)) (hr : k.2.2.2.1 = some rt) (hrt : (∃ n, rt = .object n) ∨ ∃ t, rt = .array t) (hx : x = .null ∨ ∃ a, x = .ref a) (h1 : cs ≤ mc) (h2 : sl ≤ ms) (hp : Post (some x) ws) : G v l R (gM v Post XP mc ms) k pc L [x] ws cs sl := fun p e s m args below meth c A H locs ls C hP hD hS h =>
  W.widen h1 h2 (vx_ret (W.aret C.1 C.2.1 (C.2.2.2.2.1.trans hr) hrt hx (fun t ht hW => ⟨⟨_, ws, rfl, hp, by rw [ht]; exact hP, hD⟩, hS.F ht⟩) hS.2.2 d C.2.2.2.2.2.2.2.2.1))
theorem G_vret (d : decode k.1 pc = .ok (.return_, 1)) (hr : k.2.2.2.1 = none) (h1 : cs ≤ mc) (h2 : sl ≤ ms) (hp : Post none ws) : G v l R (gM v Post XP mc ms) k pc L [] ws cs sl := fun p e s m args below meth c A H locs ls C hP hD hS h =>
  W.widen h1 h2 (vx_ret (W.vret C.1 C.2.1 (C.2.2.2.2.1.trans hr) (fun t ht hW => ⟨⟨_, ws, rfl, hp, by rw [ht]; exact hP, hD⟩, hS.F ht⟩) hS.2.2 d C.2.2.2.2.2.2.2.2.1))
/-- what is thrown leaves a method without a table -/
theorem GT_out {st : List Value} {E : String} (ht : k.2.2.2.2.1 = []) (h1 : cs ≤ mc) (h2 : sl ≤ ms) (hp : XP E ws) : GT v l R (gM v Post XP mc ms) k pc L st E ws cs sl := fun p e s m args below meth c A H locs ls q ce C hP hD hS h hq hv hcl =>
  vx_out (fun x hx => by rw [C.2.2.2.2.2.1, ht] at hx; cases hx) C.2.2.2.2.2.2.2.2.1 hq hv hcl (fun t ht hW => ⟨⟨ws, hp, by rw [ht]; exact hP, hD⟩, hS.F ht⟩) hS.2.2 h1 h2
end GRet
section GCall
variable {v : gEnv} {l : Launch} {R : Room} {Qf : gFin} {k : gKey} {pc cs sl : Nat} {L : List (Nat × Value)} {st : List Value} {ws wc wr : va_W}
variable {y : MethodName} {cc' : ByteArray} {nL' fr' lo' mc' ms' i b : Nat} {ret' : Option FieldType} {As : List Value} {Post' : Option Value → va_W → Prop} {XP' : String → va_W → Prop}
/-- behind a call that was made: back among the rest -/
theorem g_back {p : Program} {e : Env} {s : State} {m : MethodId} {args : Array Value} {below : List Frame} {meth : Method} {c : Code} {A : Nat → Prop} {H : Heap} {locs : List Loc} {ls : Array Slot} {a9 : Array Value} {st0 : List Value} (isC isR : List Nat) (hC : isC.map (fun i => ws[i]?) = wc.map some) (hR : isR.map (fun i => ws[i]?) = wr.map some) (hn : va_nd isR = true) (hdis : ∀ i ∈ isR, i ∉ isC)
    (C : gC v k A p l s m args meth c) (hP : va_P v.1 v.2.1 ws H) (hD : va_D A ws) (hS : va_S A s.heap H locs) (h : lv_has ls k.2.1 L)
    (hr : vx_Run p l e R s m args below meth c H locs cs sl mc' ms' (F0 m pc ls st0) st (gQ v Post' (va_A wc H.size) a9) (gX v XP' (va_A wc H.size)) (va_A wc H.size))
    (kk : ∀ r w, Post' r w → G v l R Qf k (pc + 3) L (r.toList ++ st) (wr ++ w) (cs + mc') (sl + ms')) (kx : ∀ E w, XP' E w → GT v l R Qf k pc L st E (wr ++ w) (cs + mc') (sl + ms')) :
    W p l e R s m args below meth c H locs cs sl (Qf below args s A) (F0 m pc ls st0) := by
  have hF := va_free hD hS C.2.2.2.2.2.2.2.2.2.2.1 isC hC
  intro T hT X
  rcases hr T hT X with ⟨r, st₀, t, T', L9, h0, X', hL, e1, e2, ⟨⟨r', w, hv, hp, hPw, hDw⟩, hz⟩, stp⟩ | ⟨q, st₀, t, T', L9, E, ce, h0, X', hL, e1, e2, ⟨⟨w, hp, hPw, hDw⟩, hz⟩, hce, hcv, hcl, stp⟩
  · cases hv
    obtain ⟨k1, k2, k3⟩ := vx_keep (A0 := A) h0 e1 hS (fun q _ z => hF q z) hF hL hz
    rw [← e1] at hPw
    obtain ⟨j1, j2⟩ := va_join hP hD isC isR hC hR hn hdis k2 hF hPw hDw
    obtain ⟨t2, a1, b1⟩ := kk r w hp p e s m args below meth c A T'.heap (locs ++ L9) ls C j1 j2 k3 h T' rfl X'
    exact ⟨t2, stp t2 a1, b1⟩
  · obtain ⟨k1, k2, k3⟩ := vx_keep (A0 := A) h0 e1 hS (fun q _ z => hF q z) hF hL hz
    rw [← e1] at hPw hce
    obtain ⟨j1, j2⟩ := va_join hP hD isC isR hC hR hn hdis k2 hF hPw hDw
    obtain ⟨t2, a1, b1⟩ := kx E w hp p e s m args below meth c A T'.heap (locs ++ L9) ls q ce C j1 j2 k3 h hce hcv hcl T' rfl X'
    exact ⟨t2, stp.trans a1, b1⟩
/-- the callee's start at a call -/
theorem g_pre {p : Program} {s : State} {m : MethodId} {args : Array Value} {meth : Method} {c : Code} {A : Nat → Prop} {H : Heap} {locs : List Loc} {av : List Value} (hv : gOk v) (isC : List Nat) (hC : isC.map (fun i => ws[i]?) = wc.map some) (hnC : va_nd isC = true)
    (C : gC v k A p l s m args meth c) (hP : va_P v.1 v.2.1 ws H) (hD : va_D A ws) (hS : va_S A s.heap H locs) : ∀ U : State, U.heap = H → s.WarmedH U.vm → gPre v av wc H.size av.toArray U := fun U hU hW => by
  have hF := va_free hD hS C.2.2.2.2.2.2.2.2.2.2.1 isC hC
  refine ⟨rfl, by rw [hU], by rw [hU]; exact hP.sub isC (g_fm hC), va_K.moved hW.alike C.2.2.2.2.2.2.2.2.2.1, (hD.sub isC hnC hC).weaken (fun _ _ _ _ => trivial), ?_⟩
  rw [hU]
  exact hv.2.2.1 A _ _ _ hF (hv.1 A s U H hW (hv.2.1 A s s.heap H hS.2.1 C.2.2.2.2.2.2.2.2.2.2.2.1))
/-- what a call asks of the tables and of the room -/
def gCw (v : gEnv) (R : Room) (own : String) (i : Nat) (y : MethodName) (cc' : ByteArray) (nL' : Nat) (ret' : Option FieldType) (fr' lo' np : Nat) : Prop :=
  Cond.methodLink own i y ∈ v.2.2.2.2 ∧ Cond.initialized y.cls ∈ v.2.2.2.2 ∧ Cond.code y cc' nL' ret' ∈ v.2.2.2.2 ∧ (y.cls ≠ "java/lang/invoke/MethodHandle" ∧ y.cls ≠ "java/lang/invoke/VarHandle") ∧ (parseMethodDescriptor y.desc).map (fun d => d.parameters.length) = some np ∧ fr' + 1 ≤ R.frames ∧ 8 + (nL' + 11) + lo' ≤ R.locals
theorem g_cb {np : Nat} {own : String} {s : State} {args : Array Value} (hv : gOk v) (ht : ∀ w ∈ v.2.2.2.2, w.before args s = true) (hw : gCw v R own i y cc' nL' ret' fr' lo' np) :
    CallB R s args own i y cc' nL' ret' (.code y cc' nL' ret' :: v.2.2.2.2) (gRm fr' lo' mc' ms') mc' ms' np := by
  obtain ⟨w1, w2, w3, w4, w5, w6, w7⟩ := hw
  exact callB_of np ht (fun w hw => by
    rcases List.mem_cons.mp hw with rfl | hw
    · exact ⟨w3, good_of_word (hv.2.2.2 _ w3)⟩
    · exact ⟨hw, good_of_word (hv.2.2.2 _ hw)⟩) rfl rfl rfl (ht _ w2) (ht _ w1) ⟨w4.1, w4.2, w5⟩ ⟨w6, w7⟩
theorem G_callV {ci N : Nat} {fs : List Value} {T : u_T} (hv : gOk v) (cp : Ct v l y cc' nL' ret' fr' lo' mc' ms' (.ref b :: As) wc Post' XP') (d : decode k.1 pc = .ok (.invokevirtual i, 3)) (hw : gCw v R k.2.2.1 i y cc' nL' ret' fr' lo' As.length) (w2 : Cond.instanceMethod y ∈ v.2.2.2.2) (w3 : Cond.selects y.cls y y ∈ v.2.2.2.2)
    (q : Nat) (hq : ws[q]? = some (b, .inr (ci, fs))) (hcl : v.2.1[ci]? = some (y.cls, T, N)) (isC isR : List Nat) (hC : isC.map (fun i => ws[i]?) = wc.map some) (hR : isR.map (fun i => ws[i]?) = wr.map some) (hnC : va_nd isC = true) (hn : va_nd isR = true) (hdis : ∀ i ∈ isR, i ∉ isC)
    (hcs : cs + mc' ≤ R.cells) (hsl : sl + ms' ≤ R.slots) (hcat : (st.map fun u => u.category).sum ≤ 8)
    (kk : ∀ r w, Post' r w → G v l R Qf k (pc + 3) L (r.toList ++ st) (wr ++ w) (cs + mc') (sl + ms')) (kx : ∀ E w, XP' E w → GT v l R Qf k pc L st E (wr ++ w) (cs + mc') (sl + ms')) :
    G v l R Qf k pc L (As.reverse ++ .ref b :: st) ws cs sl := fun p e s m args below meth c A H locs ls C hP hD hS h => by
  obtain ⟨h1, h2, h3, h4, h5, h6, h7, h8, h9, h10, h11, h12, h13⟩ := id C
  refine g_back isC isR hC hR hn hdis C hP hD hS h (vx_runV (As := As) ⟨h1, h2, h3, h4, h8⟩ (cp H.size) ⟨g_cb hv h8 hw, h8 _ w2, h8 _ w3⟩ ⟨gPre_blind hv _ _ _, ?_, g_pre hv isC hC hnC C hP hD hS⟩ rfl rfl h.1 rfl (by show 2 * 0 + _ ≤ 8; omega) d ⟨hcs, hsl⟩) kk kx
  exact va_recv h10 hP hcl hq
theorem G_callS (hv : gOk v) (cp : Ct v l y cc' nL' ret' fr' lo' mc' ms' As wc Post' XP') (d : decode k.1 pc = .ok (.invokestatic i, 3)) (hw : gCw v R k.2.2.1 i y cc' nL' ret' fr' lo' As.length) (w2 : Cond.static y ∈ v.2.2.2.2)
    (isC isR : List Nat) (hC : isC.map (fun i => ws[i]?) = wc.map some) (hR : isR.map (fun i => ws[i]?) = wr.map some) (hnC : va_nd isC = true) (hn : va_nd isR = true) (hdis : ∀ i ∈ isR, i ∉ isC)
    (hcs : cs + mc' ≤ R.cells) (hsl : sl + ms' ≤ R.slots) (hcat : (st.map fun u => u.category).sum ≤ 8)
    (kk : ∀ r w, Post' r w → G v l R Qf k (pc + 3) L (r.toList ++ st) (wr ++ w) (cs + mc') (sl + ms')) (kx : ∀ E w, XP' E w → GT v l R Qf k pc L st E (wr ++ w) (cs + mc') (sl + ms')) :
    G v l R Qf k pc L (As.reverse ++ st) ws cs sl := fun p e s m args below meth c A H locs ls C hP hD hS h => by
  obtain ⟨h1, h2, h3, h4, h5, h6, h7, h8, h9, h10, h11, h12, h13⟩ := id C
  exact g_back isC isR hC hR hn hdis C hP hD hS h (vx_runS (As := As) ⟨h1, h2, h3, h4, h8⟩ (cp H.size) ⟨g_cb hv h8 hw, h8 _ w2⟩ ⟨gPre_blind hv _ _ _, g_pre hv isC hC hnC C hP hD hS⟩ rfl rfl h.1 rfl (by show 2 * 0 + _ ≤ 8; omega) d ⟨hcs, hsl⟩) kk kx
end GCall
end
section
/-! G: constructors, nest mates, Math, throw and catch -/
theorem Ct_met {v : gEnv} {l : Launch} {y : MethodName} {cc : ByteArray} {nL fr lo mc ms : Nat} {ret : Option FieldType} {av : List Value} {ws : va_W} {Post : Option Value → va_W → Prop} (h : Ct v l y cc nL ret fr lo mc ms av ws Post gN) (sz : Nat) :
    Met l y (.code y cc nL ret :: v.2.2.2.2) (gRm fr lo mc ms) (gPre v av ws sz) (gQ v Post (va_A ws sz)) mc ms (va_A ws sz) := by
  intro p e h1 h2 h3 s m args below h4 h5 h6 h7
  obtain ⟨n, o, g1, g2, g3, g4⟩ := h sz p e h1 h2 h3 s m args below h4 h5 h6 h7
  refine ⟨n, o, g1, g2, g3, ?_⟩
  rcases g4 with g4 | ⟨q, -, E, ce, L, ⟨⟨w, hw, -⟩, -⟩, -⟩
  · exact g4
  · exact hw.elim
section GC2
variable {v : gEnv} {l : Launch} {R : Room} {Qf : gFin} {k : gKey} {pc cs sl : Nat} {L L' : List (Nat × Value)} {st : List Value} {ws wc wr : va_W}
variable {y : MethodName} {cc' : ByteArray} {nL' fr' lo' mc' ms' i b : Nat} {ret' : Option FieldType} {As : List Value} {Post' : Option Value → va_W → Prop}
theorem g_backM {p : Program} {e : Env} {s : State} {m : MethodId} {args : Array Value} {below : List Frame} {meth : Method} {c : Code} {A : Nat → Prop} {H : Heap} {locs : List Loc} {ls : Array Slot} {a9 : Array Value} {st0 : List Value} (isC isR : List Nat) (hC : isC.map (fun i => ws[i]?) = wc.map some) (hR : isR.map (fun i => ws[i]?) = wr.map some) (hn : va_nd isR = true) (hdis : ∀ i ∈ isR, i ∉ isC)
    (C : gC v k A p l s m args meth c) (hP : va_P v.1 v.2.1 ws H) (hD : va_D A ws) (hS : va_S A s.heap H locs) (h : lv_has ls k.2.1 L)
    (hr : va_Run p l e R s m args below meth c H locs cs sl mc' ms' (F0 m pc ls st0) st (gQ v Post' (va_A wc H.size) a9) (va_A wc H.size))
    (kk : ∀ r w, Post' r w → G v l R Qf k (pc + 3) L (r.toList ++ st) (wr ++ w) (cs + mc') (sl + ms')) :
    W p l e R s m args below meth c H locs cs sl (Qf below args s A) (F0 m pc ls st0) :=
  g_back (XP' := gN) isC isR hC hR hn hdis C hP hD hS h (fun T hT X => Or.inl (hr T hT X)) kk (fun _ _ z => z.elim)
/-- a constructor -/
theorem G_callI (hv : gOk v) (cp : Ct v l y cc' nL' none fr' lo' mc' ms' (.ref b :: As) wc Post' gN) (d : decode k.1 pc = .ok (.invokespecial i, 3)) (hw : gCw v R k.2.2.1 i y cc' nL' none fr' lo' As.length) (w2 : Cond.instanceMethod y ∈ v.2.2.2.2) (hin : y.name = "<init>")
    (isC isR : List Nat) (hC : isC.map (fun i => ws[i]?) = wc.map some) (hR : isR.map (fun i => ws[i]?) = wr.map some) (hnC : va_nd isC = true) (hn : va_nd isR = true) (hdis : ∀ i ∈ isR, i ∉ isC)
    (hcs : cs + mc' ≤ R.cells) (hsl : sl + ms' ≤ R.slots) (hcat : (st.map fun u => u.category).sum ≤ 8)
    (kk : ∀ r w, Post' r w → G v l R Qf k (pc + 3) L (r.toList ++ st) (wr ++ w) (cs + mc') (sl + ms')) : G v l R Qf k pc L (As.reverse ++ .ref b :: st) ws cs sl := fun p e s m args below meth c A H locs ls C hP hD hS h => by
  obtain ⟨h1, h2, h3, h4, h5, h6, h7, h8, h9, h10, h11, h12, h13⟩ := id C
  exact g_backM isC isR hC hR hn hdis C hP hD hS h (va_runI (As := As) ⟨h1, h2, h3, h4, h8⟩ (Ct_met cp H.size) ⟨g_cb hv h8 hw, hin, h8 _ w2⟩ ⟨gPre_blind hv _ _ _, g_pre hv isC hC hnC C hP hD hS⟩ rfl rfl h.1 rfl (by show 2 * 0 + _ ≤ 8; omega) d ⟨hcs, hsl⟩) kk
/-- what a call by a nest mate asks -/
def gCn (v : gEnv) (R : Room) (own : String) (i : Nat) (y : MethodName) (host : String) (cc' : ByteArray) (nL' : Nat) (ret' : Option FieldType) (fr' lo' np : Nat) : Prop :=
  (∀ A s H, v.2.2.2.1 A s H → va_Nw (.methodLinkNest own i y host) s) ∧ Cond.initialized y.cls ∈ v.2.2.2.2 ∧ Cond.code y cc' nL' ret' ∈ v.2.2.2.2 ∧ (y.cls ≠ "java/lang/invoke/MethodHandle" ∧ y.cls ≠ "java/lang/invoke/VarHandle") ∧ (parseMethodDescriptor y.desc).map (fun d => d.parameters.length) = some np ∧ fr' + 1 ≤ R.frames ∧ 8 + (nL' + 11) + lo' ≤ R.locals
theorem g_cn {np : Nat} {own host : String} {s : State} {args : Array Value} {A : Nat → Prop} {H : Heap} (hv : gOk v) (ht : ∀ w ∈ v.2.2.2.2, w.before args s = true) (hE : v.2.2.2.1 A s H) (hw : gCn v R own i y host cc' nL' ret' fr' lo' np) :
    va_CN R s args own i y host cc' nL' ret' (.code y cc' nL' ret' :: v.2.2.2.2) (gRm fr' lo' mc' ms') mc' ms' np := by
  obtain ⟨w1, w2, w3, w4, w5, w6, w7⟩ := hw
  exact va_cnB np ht (fun w hw => by
    rcases List.mem_cons.mp hw with rfl | hw
    · exact ⟨w3, good_of_word (hv.2.2.2 _ w3)⟩
    · exact ⟨hw, good_of_word (hv.2.2.2 _ hw)⟩) rfl rfl rfl (w1 _ _ _ hE) (ht _ w2) ⟨w4.1, w4.2, w5⟩ ⟨w6, w7⟩
theorem G_callIN {host : String} (hv : gOk v) (cp : Ct v l y cc' nL' none fr' lo' mc' ms' (.ref b :: As) wc Post' gN) (d : decode k.1 pc = .ok (.invokespecial i, 3)) (hw : gCn v R k.2.2.1 i y host cc' nL' none fr' lo' As.length) (w2 : Cond.instanceMethod y ∈ v.2.2.2.2) (hin : y.name = "<init>")
    (isC isR : List Nat) (hC : isC.map (fun i => ws[i]?) = wc.map some) (hR : isR.map (fun i => ws[i]?) = wr.map some) (hnC : va_nd isC = true) (hn : va_nd isR = true) (hdis : ∀ i ∈ isR, i ∉ isC)
    (hcs : cs + mc' ≤ R.cells) (hsl : sl + ms' ≤ R.slots) (hcat : (st.map fun u => u.category).sum ≤ 8)
    (kk : ∀ r w, Post' r w → G v l R Qf k (pc + 3) L (r.toList ++ st) (wr ++ w) (cs + mc') (sl + ms')) : G v l R Qf k pc L (As.reverse ++ .ref b :: st) ws cs sl := fun p e s m args below meth c A H locs ls C hP hD hS h => by
  obtain ⟨h1, h2, h3, h4, h5, h6, h7, h8, h9, h10, h11, h12, h13⟩ := id C
  exact g_backM isC isR hC hR hn hdis C hP hD hS h (va_runIN (As := As) ⟨h1, h2, h3, h4, h8⟩ (Ct_met cp H.size) ⟨g_cn hv h8 h12 hw, hin, h8 _ w2⟩ ⟨gPre_blind hv _ _ _, g_pre hv isC hC hnC C hP hD hS⟩ rfl rfl h.1 rfl (by show 2 * 0 + _ ≤ 8; omega) d ⟨hcs, hsl⟩) kk
theorem G_callSN {host : String} (hv : gOk v) (cp : Ct v l y cc' nL' ret' fr' lo' mc' ms' As wc Post' gN) (d : decode k.1 pc = .ok (.invokestatic i, 3)) (hw : gCn v R k.2.2.1 i y host cc' nL' ret' fr' lo' As.length) (w2 : Cond.static y ∈ v.2.2.2.2)
    (isC isR : List Nat) (hC : isC.map (fun i => ws[i]?) = wc.map some) (hR : isR.map (fun i => ws[i]?) = wr.map some) (hnC : va_nd isC = true) (hn : va_nd isR = true) (hdis : ∀ i ∈ isR, i ∉ isC)
    (hcs : cs + mc' ≤ R.cells) (hsl : sl + ms' ≤ R.slots) (hcat : (st.map fun u => u.category).sum ≤ 8)
    (kk : ∀ r w, Post' r w → G v l R Qf k (pc + 3) L (r.toList ++ st) (wr ++ w) (cs + mc') (sl + ms')) : G v l R Qf k pc L (As.reverse ++ st) ws cs sl := fun p e s m args below meth c A H locs ls C hP hD hS h => by
  obtain ⟨h1, h2, h3, h4, h5, h6, h7, h8, h9, h10, h11, h12, h13⟩ := id C
  exact g_backM isC isR hC hR hn hdis C hP hD hS h (va_runSN (As := As) ⟨h1, h2, h3, h4, h8⟩ (Ct_met cp H.size) ⟨g_cn hv h8 h12 hw, h8 _ w2, trivial⟩ ⟨gPre_blind hv _ _ _, g_pre hv isC hC hnC C hP hD hS⟩ rfl rfl h.1 rfl (by show 2 * 0 + _ ≤ 8; omega) d ⟨hcs, hsl⟩) kk
/-- Math.max, Math.min over int -/
theorem G_mmax {x z : Int32} (d : decode k.1 pc = .ok (.invokestatic i, 3)) (w1 : Cond.methodLink k.2.2.1 i Lib.Math.max.name ∈ v.2.2.2.2) (w2 : Cond.static Lib.Math.max.name ∈ v.2.2.2.2) (w3 : Cond.initialized "java/lang/Math" ∈ v.2.2.2.2) (w4 : Cond.code Lib.Math.max.name Lib.Math.max.code 2 (some .int) ∈ v.2.2.2.2)
    (hf : 1 ≤ R.frames) (hlo : (st.map fun u => u.category).sum + 13 ≤ R.locals) (hcs : cs ≤ R.cells) (hsl : sl ≤ R.slots) (n : G v l R Qf k (pc + 3) L (.int (if x < z then z else x) :: st) ws cs sl) : G v l R Qf k pc L (.int z :: .int x :: st) ws cs sl := fun p e s m args below meth c A H locs ls C hP hD hS h => by
  obtain ⟨h1, h2, h3, h4, h5, h6, h7, h8, h9, h10, h11, h12, h13⟩ := id C
  exact va_mmax h1 h2 (by rw [h3]; exact h.1.symm) h4 (h8 _ w1) (h8 _ w2) (h8 _ w3) (h8 _ w4) hf hlo hcs hsl d (n p e s m args below meth c A H locs ls C hP hD hS h)
theorem G_mmin {x z : Int32} (d : decode k.1 pc = .ok (.invokestatic i, 3)) (w1 : Cond.methodLink k.2.2.1 i Lib.Math.min.name ∈ v.2.2.2.2) (w2 : Cond.static Lib.Math.min.name ∈ v.2.2.2.2) (w3 : Cond.initialized "java/lang/Math" ∈ v.2.2.2.2) (w4 : Cond.code Lib.Math.min.name Lib.Math.min.code 2 (some .int) ∈ v.2.2.2.2)
    (hf : 1 ≤ R.frames) (hlo : (st.map fun u => u.category).sum + 13 ≤ R.locals) (hcs : cs ≤ R.cells) (hsl : sl ≤ R.slots) (n : G v l R Qf k (pc + 3) L (.int (if z < x then z else x) :: st) ws cs sl) : G v l R Qf k pc L (.int z :: .int x :: st) ws cs sl := fun p e s m args below meth c A H locs ls C hP hD hS h => by
  obtain ⟨h1, h2, h3, h4, h5, h6, h7, h8, h9, h10, h11, h12, h13⟩ := id C
  exact va_mmin h1 h2 (by rw [h3]; exact h.1.symm) h4 (h8 _ w1) (h8 _ w2) (h8 _ w3) (h8 _ w4) hf hlo hcs hsl d (n p e s m args below meth c A H locs ls C hP hD hS h)
/-- 'throw new E("text")' out of a method without a table -/
theorem G_throwS {Post : Option Value → va_W → Prop} {XP : String → va_W → Prop} {mc ms ik is ic : Nat} {cls text : String} {names : List String} {B : List Cond}
    (d0 : decode k.1 pc = .ok (.new ik, 3)) (d3 : decode k.1 (pc + 3) = .ok (.dup, 1)) (d4 : decode k.1 (pc + 4) = .ok (.ldc is, 2)) (d6 : decode k.1 (pc + 6) = .ok (.invokespecial ic, 3)) (d9 : decode k.1 (pc + 9) = .ok (.athrow, 1))
    (ht : k.2.2.2.2.1 = []) (hcls : Bundle.fit cls = true) (hnames : ∀ n ∈ names, Bundle.fit n = true) (w1 : Cond.classLink k.2.2.1 ik cls ∈ v.2.2.2.2) (w2 : Cond.initialized cls ∈ v.2.2.2.2)
    (hE : ∀ A s H, v.2.2.2.1 A s H → (∃ sa, vk_R k.2.2.1 is text sa s) ∧ vx_Zq Bundle.tN "UNASSIGNED_STACK" Bundle.steD A s H ∧ vx_Zq Bundle.tN "SUPPRESSED_SENTINEL" Bundle.listD A s H ∧ ∀ w ∈ B, ∀ args, w.before args s = true)
    (hg1 : ∀ w ∈ (vx_atS k.2.2.1 ic cls names).filter goodWord, w ∈ v.2.2.2.2) (hg2 : ∀ w ∈ (vx_atS k.2.2.1 ic cls names).filter (fun w => !goodWord w), w ∈ B)
    (hgood : ∀ w ∈ Cond.classLink k.2.2.1 ik cls :: Cond.initialized cls :: vx_atS k.2.2.1 ic cls names, vx_ot w = true)
    (hf : names.length + 3 < R.frames) (hlo : (st.map fun u => u.category).sum + (13 * (names.length + 1) + 43) ≤ R.locals) (hcs : cs + 1 ≤ R.cells) (hsl : sl + 6 ≤ R.slots) (hc : cs + 1 ≤ mc) (hs : sl + 6 ≤ ms) (hp : XP cls ws) :
    G v l R (gM v Post XP mc ms) k pc L st ws cs sl := fun p e s m args below meth c A H locs ls C hP hD hS h => by
  obtain ⟨h1, h2, h3, h4, h5, h6, h7, h8, h9, h10, h11, h12, h13⟩ := id C
  obtain ⟨⟨sa, e1⟩, e2, e3, e4⟩ := hE _ _ _ h12
  refine vx_throwS h1 h2 h13 h4 hcls hnames (h8 _ w1) (h8 _ w2) e1 (vx_hat (fun w hw => h8 _ (hg1 w hw)) hg2 (fun w hw => e4 w hw args)) hgood e2 e3 hS (h.1.trans h3.symm) d0 d3 d4 d6 d9 (fun x hx => by rw [h6, ht] at hx; cases hx) hf hlo hcs hsl h9 (fun t hW hz hk => ⟨⟨ws, hp, hP.kept (fun j x hx => hk _ (hP j x hx).lt), hD⟩, Nat.le_trans hS.1 hz, fun q g1 g2 => (hk q (Nat.lt_of_lt_of_le g1 hS.1)).trans (hS.2.1 q g1 g2)⟩) hS.2.2 hc hs
/-- caught in this method, behind rows that don't take it -/
theorem GT_catch {E : String} {pre suf : List ExceptionTableEntry} {x : ExceptionTableEntry} {name : String} (ht : k.2.2.2.2.1 = pre ++ x :: suf) (hx : covers x pc = true) (h0 : x.catchType ≠ 0) (w1 : Cond.classLink k.2.2.1 x.catchType name ∈ v.2.2.2.2)
    (hE : ∀ A s H, v.2.2.2.1 A s H → va_Nw (.castable E name) s ∧ ∀ z ∈ pre, covers z pc = false ∨ (z.catchType ≠ 0 ∧ ∃ nm : String, Cond.classLink k.2.2.1 z.catchType nm ∈ v.2.2.2.2 ∧ va_Nc E nm s))
    (kk : ∀ q : Nat, G v l R Qf k x.handlerPc L [.ref q] ws cs sl) : GT v l R Qf k pc L st E ws cs sl := fun p e s m args below meth c A H locs ls q ce C hP hD hS h hq hv hcl => by
  obtain ⟨h1, h2, h3, h4, h5, h6, h7, h8, h9, h10, h11, h12, h13⟩ := id C
  obtain ⟨e1, e2⟩ := hE _ _ _ h12
  exact vx_catch h4 pre x suf (h6.trans ht) (fun z hz => by
    rcases e2 z hz with g | ⟨g0, nm, g1, g2⟩
    · exact Or.inl g
    · exact Or.inr ⟨g0, nm, h8 _ g1, g2⟩) hx h0 (h8 _ w1) (va_Nw.use rfl e1) hq hv hcl (kk q p e s m args below meth c A H locs ls C hP hD hS h)
end GC2
end
section
theorem zz_end : True := trivial
end
