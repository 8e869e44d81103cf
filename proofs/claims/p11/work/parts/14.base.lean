/-! the words that stay (gw), where they stand in the tables; the environment gV of G -/
def gSubs : List MethodName := [⟨"java/lang/AbstractStringBuilder", "ensureCapacityInternal", "(I)V"⟩, ⟨"java/lang/AbstractStringBuilder", "newCapacity", "(I)I"⟩, ⟨"java/lang/AbstractStringBuilder", "inflate", "()V"⟩, ⟨"java/lang/AbstractStringBuilder", "appendNull", "()Ljava/lang/AbstractStringBuilder;"⟩, ⟨"java/lang/AbstractStringBuilder", "putStringAt", "(ILjava/lang/String;)V"⟩, ⟨"java/lang/AbstractStringBuilder", "inflateIfNeededFor", "(Ljava/lang/String;)V"⟩]
def gw : List Cond := (lw_tbl ++ gSubs.map (fun y => Cond.selects "java/lang/StringBuilder" y y)).filter goodWord
theorem gw_s {w : Cond} (y : MethodName) (i : Nat) (h0 : gSubs[i]? = some y) (hw : Cond.selects "java/lang/StringBuilder" y y = w) (g : goodWord w = true) : w ∈ gw := List.mem_filter.mpr ⟨List.mem_append_right _ (List.mem_map.mpr ⟨y, List.mem_of_getElem? h0, hw⟩), g⟩
theorem gt_0 : ∀ w ∈ tables_1, w ∈ lw_tbl := fun w h => List.mem_append_right _ h
theorem gt_1 {w : Cond} (i : Nat) (h0 : tables_1_1[i]? = some w) : w ∈ lw_tbl := gt_0 w (have h := List.mem_of_getElem? h0; List.mem_append_left _ h)
theorem gw_1 {w : Cond} (i : Nat) (h0 : tables_1_1[i]? = some w) (g : goodWord w = true) : w ∈ gw := List.mem_filter.mpr ⟨List.mem_append_left _ (gt_1 i h0), g⟩
theorem gt_2 {w : Cond} (i : Nat) (h0 : tables_1_2[i]? = some w) : w ∈ lw_tbl := gt_0 w (have h := List.mem_of_getElem? h0; List.mem_append_right _ (List.mem_append_left _ h))
theorem gw_2 {w : Cond} (i : Nat) (h0 : tables_1_2[i]? = some w) (g : goodWord w = true) : w ∈ gw := List.mem_filter.mpr ⟨List.mem_append_left _ (gt_2 i h0), g⟩
theorem gt_3 {w : Cond} (i : Nat) (h0 : tables_1_3[i]? = some w) : w ∈ lw_tbl := gt_0 w (have h := List.mem_of_getElem? h0; List.mem_append_right _ (List.mem_append_right _ (List.mem_append_left _ h)))
theorem gw_3 {w : Cond} (i : Nat) (h0 : tables_1_3[i]? = some w) (g : goodWord w = true) : w ∈ gw := List.mem_filter.mpr ⟨List.mem_append_left _ (gt_3 i h0), g⟩
theorem gt_4 {w : Cond} (i : Nat) (h0 : tables_1_4[i]? = some w) : w ∈ lw_tbl := gt_0 w (have h := List.mem_of_getElem? h0; List.mem_append_right _ (List.mem_append_right _ (List.mem_append_right _ (List.mem_append_left _ h))))
theorem gw_4 {w : Cond} (i : Nat) (h0 : tables_1_4[i]? = some w) (g : goodWord w = true) : w ∈ gw := List.mem_filter.mpr ⟨List.mem_append_left _ (gt_4 i h0), g⟩
theorem gt_5 {w : Cond} (i : Nat) (h0 : tables_1_5[i]? = some w) : w ∈ lw_tbl := gt_0 w (have h := List.mem_of_getElem? h0; List.mem_append_right _ (List.mem_append_right _ (List.mem_append_right _ (List.mem_append_right _ (List.mem_append_left _ h)))))
theorem gw_5 {w : Cond} (i : Nat) (h0 : tables_1_5[i]? = some w) (g : goodWord w = true) : w ∈ gw := List.mem_filter.mpr ⟨List.mem_append_left _ (gt_5 i h0), g⟩
theorem gt_6 {w : Cond} (i : Nat) (h0 : tables_1_6[i]? = some w) : w ∈ lw_tbl := gt_0 w (have h := List.mem_of_getElem? h0; List.mem_append_right _ (List.mem_append_right _ (List.mem_append_right _ (List.mem_append_right _ (List.mem_append_right _ (List.mem_append_left _ h))))))
theorem gw_6 {w : Cond} (i : Nat) (h0 : tables_1_6[i]? = some w) (g : goodWord w = true) : w ∈ gw := List.mem_filter.mpr ⟨List.mem_append_left _ (gt_6 i h0), g⟩
theorem gt_7 {w : Cond} (i : Nat) (h0 : tables_1_7[i]? = some w) : w ∈ lw_tbl := gt_0 w (have h := List.mem_of_getElem? h0; List.mem_append_right _ (List.mem_append_right _ (List.mem_append_right _ (List.mem_append_right _ (List.mem_append_right _ (List.mem_append_right _ (List.mem_append_left _ h)))))))
theorem gw_7 {w : Cond} (i : Nat) (h0 : tables_1_7[i]? = some w) (g : goodWord w = true) : w ∈ gw := List.mem_filter.mpr ⟨List.mem_append_left _ (gt_7 i h0), g⟩
theorem gt_8 {w : Cond} (i : Nat) (h0 : tables_1_8[i]? = some w) : w ∈ lw_tbl := gt_0 w (have h := List.mem_of_getElem? h0; List.mem_append_right _ (List.mem_append_right _ (List.mem_append_right _ (List.mem_append_right _ (List.mem_append_right _ (List.mem_append_right _ (List.mem_append_right _ (List.mem_append_left _ h))))))))
theorem gw_8 {w : Cond} (i : Nat) (h0 : tables_1_8[i]? = some w) (g : goodWord w = true) : w ∈ gw := List.mem_filter.mpr ⟨List.mem_append_left _ (gt_8 i h0), g⟩
theorem gt_9 {w : Cond} (i : Nat) (h0 : tables_1_9[i]? = some w) : w ∈ lw_tbl := gt_0 w (have h := List.mem_of_getElem? h0; List.mem_append_right _ (List.mem_append_right _ (List.mem_append_right _ (List.mem_append_right _ (List.mem_append_right _ (List.mem_append_right _ (List.mem_append_right _ (List.mem_append_right _ (List.mem_append_left _ h)))))))))
theorem gw_9 {w : Cond} (i : Nat) (h0 : tables_1_9[i]? = some w) (g : goodWord w = true) : w ∈ gw := List.mem_filter.mpr ⟨List.mem_append_left _ (gt_9 i h0), g⟩
theorem gt_10 {w : Cond} (i : Nat) (h0 : tables_1_10[i]? = some w) : w ∈ lw_tbl := gt_0 w (have h := List.mem_of_getElem? h0; List.mem_append_right _ (List.mem_append_right _ (List.mem_append_right _ (List.mem_append_right _ (List.mem_append_right _ (List.mem_append_right _ (List.mem_append_right _ (List.mem_append_right _ (List.mem_append_right _ (List.mem_append_left _ h))))))))))
theorem gw_10 {w : Cond} (i : Nat) (h0 : tables_1_10[i]? = some w) (g : goodWord w = true) : w ∈ gw := List.mem_filter.mpr ⟨List.mem_append_left _ (gt_10 i h0), g⟩
theorem gt_11 {w : Cond} (i : Nat) (h0 : tables_1_11[i]? = some w) : w ∈ lw_tbl := gt_0 w (have h := List.mem_of_getElem? h0; List.mem_append_right _ (List.mem_append_right _ (List.mem_append_right _ (List.mem_append_right _ (List.mem_append_right _ (List.mem_append_right _ (List.mem_append_right _ (List.mem_append_right _ (List.mem_append_right _ (List.mem_append_right _ (List.mem_append_left _ h)))))))))))
theorem gw_11 {w : Cond} (i : Nat) (h0 : tables_1_11[i]? = some w) (g : goodWord w = true) : w ∈ gw := List.mem_filter.mpr ⟨List.mem_append_left _ (gt_11 i h0), g⟩
theorem gt_12 {w : Cond} (i : Nat) (h0 : tables_1_12[i]? = some w) : w ∈ lw_tbl := gt_0 w (have h := List.mem_of_getElem? h0; List.mem_append_right _ (List.mem_append_right _ (List.mem_append_right _ (List.mem_append_right _ (List.mem_append_right _ (List.mem_append_right _ (List.mem_append_right _ (List.mem_append_right _ (List.mem_append_right _ (List.mem_append_right _ (List.mem_append_right _ (h))))))))))))
theorem gw_12 {w : Cond} (i : Nat) (h0 : tables_1_12[i]? = some w) (g : goodWord w = true) : w ∈ gw := List.mem_filter.mpr ⟨List.mem_append_left _ (gt_12 i h0), g⟩
theorem gw_p {w : Cond} (q : MethodName × Nat) (i : Nat) (h0 : lw_privs[i]? = some q) (hw : Cond.selects q.1.cls q.1 q.1 = w) (g : goodWord w = true) : w ∈ gw := List.mem_filter.mpr ⟨List.mem_append_left _ (List.mem_append_left _ (List.mem_map.mpr ⟨q, List.mem_of_getElem? h0, hw⟩)), g⟩
theorem gw_good : ∀ w ∈ gw, goodWord w = true := fun w h => (List.mem_filter.mp h).2
abbrev gTy (I : FieldType → ClassId) : List (ClassId × FieldType) := [(I .int, .int), (I .byte, .byte), (I .long, .long), (I .boolean, .boolean), (I (.object "java/lang/Object"), .object "java/lang/Object"), (I (.array .long), .array .long)]
/-- words on nest mates and casts -/
def gNest : List Cond := [(Jvm.Cond.methodLinkNest "SpillForge" (11 : Nat) ({ cls := "SpillForge$Tape", name := "<init>", desc := "()V" } : Jvm.MethodName) "SpillForge"),
  (Jvm.Cond.fieldLinkNest "SpillForge$Graph" (64 : Nat) "SpillForge$Code" "first" "[I" "SpillForge"),
  (Jvm.Cond.fieldLinkNest "SpillForge$Live" (57 : Nat) "SpillForge$Code" "first" "[I" "SpillForge"),
  (Jvm.Cond.fieldLinkNest "SpillForge$Listing" (36 : Nat) "SpillForge$Code" "first" "[I" "SpillForge"),
  (Jvm.Cond.fieldLinkNest "SpillForge$Colouring" (55 : Nat) "SpillForge$Code" "first" "[I" "SpillForge"),
  (Jvm.Cond.fieldLinkNest "SpillForge$Machine" (131 : Nat) "SpillForge$Code" "first" "[I" "SpillForge"),
  (Jvm.Cond.fieldLinkNest "SpillForge$Giver" (183 : Nat) "SpillForge$Code" "first" "[I" "SpillForge"),
  (Jvm.Cond.fieldLinkNest "SpillForge$Loops" (40 : Nat) "SpillForge$Code" "firstGoal" "[I" "SpillForge"),
  (Jvm.Cond.fieldLinkNest "SpillForge$Listing" (73 : Nat) "SpillForge$Code" "firstGoal" "[I" "SpillForge"),
  (Jvm.Cond.fieldLinkNest "SpillForge$Live" (88 : Nat) "SpillForge$Code" "firstGoal" "[I" "SpillForge"),
  (Jvm.Cond.fieldLinkNest "SpillForge$Machine" (92 : Nat) "SpillForge$Code" "firstGoal" "[I" "SpillForge"),
  (Jvm.Cond.fieldLinkNest "SpillForge$Loops" (47 : Nat) "SpillForge$Code" "secondGoal" "[I" "SpillForge"),
  (Jvm.Cond.fieldLinkNest "SpillForge$Listing" (80 : Nat) "SpillForge$Code" "secondGoal" "[I" "SpillForge"),
  (Jvm.Cond.fieldLinkNest "SpillForge$Live" (91 : Nat) "SpillForge$Code" "secondGoal" "[I" "SpillForge"),
  (Jvm.Cond.fieldLinkNest "SpillForge$Machine" (98 : Nat) "SpillForge$Code" "secondGoal" "[I" "SpillForge"),
  (Jvm.Cond.fieldLinkNest "SpillForge$Listing" (44 : Nat) "SpillForge$Code" "op" "[I" "SpillForge"),
  (Jvm.Cond.fieldLinkNest "SpillForge$Machine" (80 : Nat) "SpillForge$Code" "op" "[I" "SpillForge"),
  (Jvm.Cond.fieldLinkNest "SpillForge$Giver" (249 : Nat) "SpillForge$Code" "op" "[I" "SpillForge"),
  (Jvm.Cond.fieldLinkNest "SpillForge$Colouring" (61 : Nat) "SpillForge$Code" "set" "[I" "SpillForge"),
  (Jvm.Cond.fieldLinkNest "SpillForge$Listing" (94 : Nat) "SpillForge$Code" "set" "[I" "SpillForge"),
  (Jvm.Cond.fieldLinkNest "SpillForge$Machine" (112 : Nat) "SpillForge$Code" "set" "[I" "SpillForge"),
  (Jvm.Cond.fieldLinkNest "SpillForge$Giver" (76 : Nat) "SpillForge$Code" "set" "[I" "SpillForge"),
  (Jvm.Cond.fieldLinkNest "SpillForge$Graph" (78 : Nat) "SpillForge$Code" "left" "[I" "SpillForge"),
  (Jvm.Cond.fieldLinkNest "SpillForge$Listing" (61 : Nat) "SpillForge$Code" "left" "[I" "SpillForge"),
  (Jvm.Cond.fieldLinkNest "SpillForge$Colouring" (68 : Nat) "SpillForge$Code" "left" "[I" "SpillForge"),
  (Jvm.Cond.fieldLinkNest "SpillForge$Machine" (83 : Nat) "SpillForge$Code" "left" "[I" "SpillForge"),
  (Jvm.Cond.fieldLinkNest "SpillForge$Giver" (83 : Nat) "SpillForge$Code" "left" "[I" "SpillForge"),
  (Jvm.Cond.fieldLinkNest "SpillForge$Listing" (64 : Nat) "SpillForge$Code" "leftNumber" "[I" "SpillForge"),
  (Jvm.Cond.fieldLinkNest "SpillForge$Machine" (86 : Nat) "SpillForge$Code" "leftNumber" "[I" "SpillForge"),
  (Jvm.Cond.fieldLinkNest "SpillForge$Giver" (252 : Nat) "SpillForge$Code" "leftNumber" "[I" "SpillForge"),
  (Jvm.Cond.fieldLinkNest "SpillForge$Colouring" (71 : Nat) "SpillForge$Code" "right" "[I" "SpillForge"),
  (Jvm.Cond.fieldLinkNest "SpillForge$Listing" (108 : Nat) "SpillForge$Code" "right" "[I" "SpillForge"),
  (Jvm.Cond.fieldLinkNest "SpillForge$Machine" (121 : Nat) "SpillForge$Code" "right" "[I" "SpillForge"),
  (Jvm.Cond.fieldLinkNest "SpillForge$Giver" (86 : Nat) "SpillForge$Code" "right" "[I" "SpillForge"),
  (Jvm.Cond.fieldLinkNest "SpillForge$Listing" (87 : Nat) "SpillForge$Code" "rightNumber" "[I" "SpillForge"),
  (Jvm.Cond.fieldLinkNest "SpillForge$Machine" (105 : Nat) "SpillForge$Code" "rightNumber" "[I" "SpillForge"),
  (Jvm.Cond.fieldLinkNest "SpillForge$Giver" (255 : Nat) "SpillForge$Code" "rightNumber" "[I" "SpillForge"),
  (Jvm.Cond.fieldLinkNest "SpillForge$Live" (44 : Nat) "SpillForge$Code" "blocks" "I" "SpillForge"),
  (Jvm.Cond.fieldLinkNest "SpillForge$Graph" (42 : Nat) "SpillForge$Code" "blocks" "I" "SpillForge"),
  (Jvm.Cond.fieldLinkNest "SpillForge$Listing" (19 : Nat) "SpillForge$Code" "blocks" "I" "SpillForge"),
  (Jvm.Cond.fieldLinkNest "SpillForge$Loops" (34 : Nat) "SpillForge$Code" "blocks" "I" "SpillForge"),
  (Jvm.Cond.fieldLinkNest "SpillForge$Colouring" (43 : Nat) "SpillForge$Code" "blocks" "I" "SpillForge"),
  (Jvm.Cond.fieldLinkNest "SpillForge$Reader" (104 : Nat) "SpillForge$Code" "blocks" "I" "SpillForge"),
  (Jvm.Cond.fieldLinkNest "SpillForge" (120 : Nat) "SpillForge$Code" "blocks" "I" "SpillForge"),
  (Jvm.Cond.fieldLinkNest "SpillForge$Machine" (128 : Nat) "SpillForge$Code" "blocks" "I" "SpillForge"),
  (Jvm.Cond.fieldLinkNest "SpillForge$Giver" (99 : Nat) "SpillForge$Code" "blocks" "I" "SpillForge"),
  (Jvm.Cond.fieldLinkNest "SpillForge$Machine" (68 : Nat) "SpillForge$Code" "lines" "I" "SpillForge"),
  (Jvm.Cond.fieldLinkNest "SpillForge$Giver" (73 : Nat) "SpillForge$Code" "lines" "I" "SpillForge"),
  (Jvm.Cond.fieldLinkNest "SpillForge$Giver" (159 : Nat) "SpillForge$Code" "isFull" "Z" "SpillForge"),
  (Jvm.Cond.methodLinkNest "SpillForge" (36 : Nat) ({ cls := "SpillForge$Loops", name := "<init>", desc := "()V" } : Jvm.MethodName) "SpillForge"),
  (Jvm.Cond.methodLinkNest "SpillForge$Giver" (11 : Nat) ({ cls := "SpillForge$Graph", name := "<init>", desc := "()V" } : Jvm.MethodName) "SpillForge"),
  (Jvm.Cond.methodLinkNest "SpillForge$Graph" (11 : Nat) ({ cls := "SpillForge$Live", name := "<init>", desc := "()V" } : Jvm.MethodName) "SpillForge"),
  (Jvm.Cond.fieldLinkNest "SpillForge$Graph" (88 : Nat) "SpillForge$Live" "now" "[J" "SpillForge"),
  (Jvm.Cond.fieldLinkNest "SpillForge$Graph" (33 : Nat) "SpillForge$Live" "names" "I" "SpillForge"),
  (Jvm.Cond.fieldLinkNest "SpillForge$Graph" (38 : Nat) "SpillForge$Live" "words" "I" "SpillForge"),
  (Jvm.Cond.fieldLinkNest "SpillForge$Giver" (102 : Nat) "SpillForge$Graph" "live" "LSpillForge$Live;" "SpillForge"),
  (Jvm.Cond.fieldLinkNest "SpillForge$Colouring" (104 : Nat) "SpillForge$Graph" "joined" "[J" "SpillForge"),
  (Jvm.Cond.fieldLinkNest "SpillForge$Colouring" (83 : Nat) "SpillForge$Graph" "degree" "[I" "SpillForge"),
  (Jvm.Cond.fieldLinkNest "SpillForge$Giver" (129 : Nat) "SpillForge$Graph" "degree" "[I" "SpillForge"),
  (Jvm.Cond.fieldLinkNest "SpillForge$Colouring" (80 : Nat) "SpillForge$Graph" "names" "I" "SpillForge"),
  (Jvm.Cond.fieldLinkNest "SpillForge$Colouring" (101 : Nat) "SpillForge$Graph" "words" "I" "SpillForge"),
  (Jvm.Cond.methodLinkNest "SpillForge" (52 : Nat) ({ cls := "SpillForge$Machine", name := "<init>", desc := "()V" } : Jvm.MethodName) "SpillForge"),
  (Jvm.Cond.methodLinkNest "SpillForge" (59 : Nat) ({ cls := "SpillForge$Listing", name := "<init>", desc := "()V" } : Jvm.MethodName) "SpillForge"),
  (Jvm.Cond.methodLinkNest "SpillForge$Graph" (93 : Nat) ({ cls := "SpillForge", name := "lowestBit", desc := "(J)I" } : Jvm.MethodName) "SpillForge"),
  (Jvm.Cond.castable "java/lang/IndexOutOfBoundsException" "java/lang/IndexOutOfBoundsException"),
  (Jvm.Cond.declares ({ cls := "java/lang/RuntimeException", name := "<init>", desc := "()V" } : Jvm.MethodName)),
  (Jvm.Cond.declares ({ cls := "java/lang/RuntimeException", name := "<init>", desc := "(Ljava/lang/String;)V" } : Jvm.MethodName)),
  (Jvm.Cond.declares ({ cls := "java/lang/Exception", name := "<init>", desc := "()V" } : Jvm.MethodName)),
  (Jvm.Cond.declares ({ cls := "java/lang/Exception", name := "<init>", desc := "(Ljava/lang/String;)V" } : Jvm.MethodName)),
  (Jvm.Cond.declares ({ cls := "java/lang/Throwable", name := "<init>", desc := "()V" } : Jvm.MethodName)),
  (Jvm.Cond.declares ({ cls := "java/lang/Throwable", name := "<init>", desc := "(Ljava/lang/String;)V" } : Jvm.MethodName)),
  (Jvm.Cond.castable "java/lang/IllegalArgumentException" "java/lang/IllegalArgumentException"),
  (Jvm.Cond.castable "java/lang/IllegalStateException" "java/lang/IllegalStateException"),
  (Jvm.Cond.methodLinkNest "SpillForge$Colouring" (108 : Nat) ({ cls := "SpillForge", name := "lowestBit", desc := "(J)I" } : Jvm.MethodName) "SpillForge"),
  (Jvm.Cond.castable "java/util/NoSuchElementException" "java/util/NoSuchElementException"),
  (Jvm.Cond.methodLinkNest "SpillForgeModel" (360 : Nat) ({ cls := "SpillForgeModel$Code", name := "<init>", desc := "()V" } : Jvm.MethodName) "SpillForgeModel"),
  (Jvm.Cond.castable "[B" "java/lang/Cloneable"),
  (Jvm.Cond.castable "SpillForgeModel$Wrong" "SpillForgeModel$Wrong"),
  (Jvm.Cond.methodLinkNest "SpillForgeModel$Code" (32 : Nat) ({ cls := "SpillForgeModel$Block", name := "<init>", desc := "()V" } : Jvm.MethodName) "SpillForgeModel"),
  (Jvm.Cond.methodLinkNest "SpillForgeModel$Block" (20 : Nat) ({ cls := "SpillForgeModel$Row", name := "<init>", desc := "()V" } : Jvm.MethodName) "SpillForgeModel"),
  (Jvm.Cond.methodLinkNest "SpillForgeModel$Code" (47 : Nat) ({ cls := "SpillForgeModel$Row", name := "<init>", desc := "()V" } : Jvm.MethodName) "SpillForgeModel"),
  (Jvm.Cond.methodLinkNest "SpillForgeModel$Reader" (233 : Nat) ({ cls := "SpillForgeModel", name := "operation", desc := "(Ljava/lang/String;)I" } : Jvm.MethodName) "SpillForgeModel"),
  (Jvm.Cond.castable "[I" "java/lang/Cloneable"),
  (Jvm.Cond.castable "java/lang/ArrayIndexOutOfBoundsException" "java/lang/IndexOutOfBoundsException"),
  (Jvm.Cond.castable "java/lang/StringIndexOutOfBoundsException" "java/lang/IndexOutOfBoundsException"),
  (Jvm.Cond.castable "SpillForgeModel$Block" "SpillForgeModel$Block"),
  (Jvm.Cond.castable "SpillForgeModel$Row" "SpillForgeModel$Row"),
  (Jvm.Cond.declares ({ cls := "java/lang/Object", name := "getClass", desc := "()Ljava/lang/Class;" } : Jvm.MethodName)),
  (Jvm.Cond.castable "SpillForge" "java/lang/Object"),
  (Jvm.Cond.castable "SpillForge$Tape" "java/lang/Object"),
  (Jvm.Cond.castable "SpillForge$Reader" "java/lang/Object"),
  (Jvm.Cond.castable "SpillForge$Signs" "java/lang/Object"),
  (Jvm.Cond.castable "SpillForge$Code" "java/lang/Object"),
  (Jvm.Cond.castable "SpillForge$Loops" "java/lang/Object"),
  (Jvm.Cond.castable "SpillForge$Giver" "java/lang/Object"),
  (Jvm.Cond.castable "SpillForge$Graph" "java/lang/Object"),
  (Jvm.Cond.castable "SpillForge$Live" "java/lang/Object"),
  (Jvm.Cond.castable "SpillForge$Colouring" "java/lang/Object"),
  (Jvm.Cond.castable "SpillForge$Machine" "java/lang/Object"),
  (Jvm.Cond.castable "SpillForge$Listing" "java/lang/Object"),
  (Jvm.Cond.castable "SpillForgeModel" "java/lang/Object"),
  (Jvm.Cond.castable "SpillForgeModel$Code" "java/lang/Object"),
  (Jvm.Cond.castable "SpillForgeModel$Reader" "java/lang/Object"),
  (Jvm.Cond.castable "java/lang/String" "java/lang/Object"),
  (Jvm.Cond.castable "SpillForgeModel$Wrong" "java/lang/Object"),
  (Jvm.Cond.castable "SpillForgeModel$Block" "java/lang/Object"),
  (Jvm.Cond.castable "SpillForgeModel$Row" "java/lang/Object")]
def gnK : Cond → Bool
  | .fieldLinkNest .. => true
  | .methodLinkNest .. => true
  | .castable .. => true
  | .declares .. => true
  | _ => false
theorem gnK_all : gNest.all gnK = true := by rfl
theorem gn_warm {w : Cond} (h : gnK w = true) {s U : State} (hW : s.WarmedH U.vm) (hZ : va_Nw w s) : va_Nw w U := by
  cases w <;> first | exact va_Nw.warmF hW hZ | exact va_Nw.warmM hW hZ | exact va_Nw.warmC hW hZ | exact va_Nw.warmD hW hZ | (cases h; done)
def gNC : List (String × String) := [("SpillForge", "java/lang/IndexOutOfBoundsException"), ("SpillForge$Tape", "java/lang/IndexOutOfBoundsException"), ("SpillForge$Reader", "java/lang/IndexOutOfBoundsException"), ("SpillForge$Signs", "java/lang/IndexOutOfBoundsException"), ("SpillForge$Code", "java/lang/IndexOutOfBoundsException"), ("SpillForge$Loops", "java/lang/IndexOutOfBoundsException"), ("SpillForge$Giver", "java/lang/IndexOutOfBoundsException"), ("SpillForge$Graph", "java/lang/IndexOutOfBoundsException"), ("SpillForge$Live", "java/lang/IndexOutOfBoundsException"), ("SpillForge$Colouring", "java/lang/IndexOutOfBoundsException"), ("SpillForge$Machine", "java/lang/IndexOutOfBoundsException"), ("SpillForge$Listing", "java/lang/IndexOutOfBoundsException"), ("SpillForgeModel", "java/lang/IndexOutOfBoundsException"), ("SpillForgeModel$Code", "java/lang/IndexOutOfBoundsException"), ("java/util/ArrayList", "java/lang/IndexOutOfBoundsException"), ("java/lang/StringBuilder", "java/lang/IndexOutOfBoundsException"), ("java/lang/IllegalArgumentException", "java/lang/IndexOutOfBoundsException"), ("SpillForgeModel$Reader", "java/lang/IndexOutOfBoundsException"), ("java/lang/String", "java/lang/IndexOutOfBoundsException"), ("SpillForgeModel$Wrong", "java/lang/IndexOutOfBoundsException"), ("SpillForgeModel$Block", "java/lang/IndexOutOfBoundsException"), ("SpillForgeModel$Row", "java/lang/IndexOutOfBoundsException"), ("java/lang/IllegalStateException", "java/lang/IndexOutOfBoundsException"), ("java/util/NoSuchElementException", "java/lang/IndexOutOfBoundsException"), ("SpillForge", "java/lang/IllegalArgumentException"), ("SpillForge$Tape", "java/lang/IllegalArgumentException"), ("SpillForge$Reader", "java/lang/IllegalArgumentException"), ("SpillForge$Signs", "java/lang/IllegalArgumentException"), ("SpillForge$Code", "java/lang/IllegalArgumentException"), ("SpillForge$Loops", "java/lang/IllegalArgumentException"), ("SpillForge$Giver", "java/lang/IllegalArgumentException"), ("SpillForge$Graph", "java/lang/IllegalArgumentException"), ("SpillForge$Live", "java/lang/IllegalArgumentException"), ("SpillForge$Colouring", "java/lang/IllegalArgumentException"), ("SpillForge$Machine", "java/lang/IllegalArgumentException"), ("SpillForge$Listing", "java/lang/IllegalArgumentException"), ("SpillForgeModel", "java/lang/IllegalArgumentException"), ("SpillForgeModel$Code", "java/lang/IllegalArgumentException"), ("java/util/ArrayList", "java/lang/IllegalArgumentException"), ("java/lang/StringBuilder", "java/lang/IllegalArgumentException"), ("java/lang/IndexOutOfBoundsException", "java/lang/IllegalArgumentException"), ("SpillForgeModel$Reader", "java/lang/IllegalArgumentException"), ("java/lang/String", "java/lang/IllegalArgumentException"), ("SpillForgeModel$Wrong", "java/lang/IllegalArgumentException"), ("SpillForgeModel$Block", "java/lang/IllegalArgumentException"), ("SpillForgeModel$Row", "java/lang/IllegalArgumentException"), ("java/lang/IllegalStateException", "java/lang/IllegalArgumentException"), ("java/util/NoSuchElementException", "java/lang/IllegalArgumentException"), ("java/lang/StringIndexOutOfBoundsException", "java/lang/IllegalArgumentException"), ("java/lang/ArrayIndexOutOfBoundsException", "java/lang/IllegalArgumentException"), ("SpillForge", "java/lang/IllegalStateException"), ("SpillForge$Tape", "java/lang/IllegalStateException"), ("SpillForge$Reader", "java/lang/IllegalStateException"), ("SpillForge$Signs", "java/lang/IllegalStateException"), ("SpillForge$Code", "java/lang/IllegalStateException"), ("SpillForge$Loops", "java/lang/IllegalStateException"), ("SpillForge$Giver", "java/lang/IllegalStateException"), ("SpillForge$Graph", "java/lang/IllegalStateException"), ("SpillForge$Live", "java/lang/IllegalStateException"), ("SpillForge$Colouring", "java/lang/IllegalStateException"), ("SpillForge$Machine", "java/lang/IllegalStateException"), ("SpillForge$Listing", "java/lang/IllegalStateException"), ("SpillForgeModel", "java/lang/IllegalStateException"), ("SpillForgeModel$Code", "java/lang/IllegalStateException"), ("java/util/ArrayList", "java/lang/IllegalStateException"), ("java/lang/StringBuilder", "java/lang/IllegalStateException"), ("java/lang/IndexOutOfBoundsException", "java/lang/IllegalStateException"), ("java/lang/IllegalArgumentException", "java/lang/IllegalStateException"), ("SpillForgeModel$Reader", "java/lang/IllegalStateException"), ("java/lang/String", "java/lang/IllegalStateException"), ("SpillForgeModel$Wrong", "java/lang/IllegalStateException"), ("SpillForgeModel$Block", "java/lang/IllegalStateException"), ("SpillForgeModel$Row", "java/lang/IllegalStateException"), ("java/util/NoSuchElementException", "java/lang/IllegalStateException"), ("java/lang/StringIndexOutOfBoundsException", "java/lang/IllegalStateException"), ("java/lang/ArrayIndexOutOfBoundsException", "java/lang/IllegalStateException"), ("SpillForge", "java/util/NoSuchElementException"), ("SpillForge$Tape", "java/util/NoSuchElementException"), ("SpillForge$Reader", "java/util/NoSuchElementException"), ("SpillForge$Signs", "java/util/NoSuchElementException"), ("SpillForge$Code", "java/util/NoSuchElementException"), ("SpillForge$Loops", "java/util/NoSuchElementException"), ("SpillForge$Giver", "java/util/NoSuchElementException"), ("SpillForge$Graph", "java/util/NoSuchElementException"), ("SpillForge$Live", "java/util/NoSuchElementException"), ("SpillForge$Colouring", "java/util/NoSuchElementException"), ("SpillForge$Machine", "java/util/NoSuchElementException"), ("SpillForge$Listing", "java/util/NoSuchElementException"), ("SpillForgeModel", "java/util/NoSuchElementException"), ("SpillForgeModel$Code", "java/util/NoSuchElementException"), ("java/util/ArrayList", "java/util/NoSuchElementException"), ("java/lang/StringBuilder", "java/util/NoSuchElementException"), ("java/lang/IndexOutOfBoundsException", "java/util/NoSuchElementException"), ("java/lang/IllegalArgumentException", "java/util/NoSuchElementException"), ("SpillForgeModel$Reader", "java/util/NoSuchElementException"), ("java/lang/String", "java/util/NoSuchElementException"), ("SpillForgeModel$Wrong", "java/util/NoSuchElementException"), ("SpillForgeModel$Block", "java/util/NoSuchElementException"), ("SpillForgeModel$Row", "java/util/NoSuchElementException"), ("java/lang/IllegalStateException", "java/util/NoSuchElementException"), ("java/lang/StringIndexOutOfBoundsException", "java/util/NoSuchElementException"), ("java/lang/ArrayIndexOutOfBoundsException", "java/util/NoSuchElementException"), ("SpillForge", "SpillForgeModel$Wrong"), ("SpillForge$Tape", "SpillForgeModel$Wrong"), ("SpillForge$Reader", "SpillForgeModel$Wrong"), ("SpillForge$Signs", "SpillForgeModel$Wrong"), ("SpillForge$Code", "SpillForgeModel$Wrong"), ("SpillForge$Loops", "SpillForgeModel$Wrong"), ("SpillForge$Giver", "SpillForgeModel$Wrong"), ("SpillForge$Graph", "SpillForgeModel$Wrong"), ("SpillForge$Live", "SpillForgeModel$Wrong"), ("SpillForge$Colouring", "SpillForgeModel$Wrong"), ("SpillForge$Machine", "SpillForgeModel$Wrong"), ("SpillForge$Listing", "SpillForgeModel$Wrong"), ("SpillForgeModel", "SpillForgeModel$Wrong"), ("SpillForgeModel$Code", "SpillForgeModel$Wrong"), ("java/util/ArrayList", "SpillForgeModel$Wrong"), ("java/lang/StringBuilder", "SpillForgeModel$Wrong"), ("java/lang/IndexOutOfBoundsException", "SpillForgeModel$Wrong"), ("java/lang/IllegalArgumentException", "SpillForgeModel$Wrong"), ("SpillForgeModel$Reader", "SpillForgeModel$Wrong"), ("java/lang/String", "SpillForgeModel$Wrong"), ("SpillForgeModel$Block", "SpillForgeModel$Wrong"), ("SpillForgeModel$Row", "SpillForgeModel$Wrong"), ("java/lang/IllegalStateException", "SpillForgeModel$Wrong"), ("java/util/NoSuchElementException", "SpillForgeModel$Wrong"), ("java/lang/StringIndexOutOfBoundsException", "SpillForgeModel$Wrong"), ("java/lang/ArrayIndexOutOfBoundsException", "SpillForgeModel$Wrong"), ("SpillForge", "java/lang/String"), ("SpillForge$Tape", "java/lang/String"), ("SpillForge$Reader", "java/lang/String"), ("SpillForge$Signs", "java/lang/String"), ("SpillForge$Code", "java/lang/String"), ("SpillForge$Loops", "java/lang/String"), ("SpillForge$Giver", "java/lang/String"), ("SpillForge$Graph", "java/lang/String"), ("SpillForge$Live", "java/lang/String"), ("SpillForge$Colouring", "java/lang/String"), ("SpillForge$Machine", "java/lang/String"), ("SpillForge$Listing", "java/lang/String"), ("SpillForgeModel", "java/lang/String"), ("SpillForgeModel$Code", "java/lang/String"), ("java/util/ArrayList", "java/lang/String"), ("java/lang/StringBuilder", "java/lang/String"), ("java/lang/IndexOutOfBoundsException", "java/lang/String"), ("java/lang/IllegalArgumentException", "java/lang/String"), ("SpillForgeModel$Reader", "java/lang/String"), ("SpillForgeModel$Wrong", "java/lang/String"), ("SpillForgeModel$Block", "java/lang/String"), ("SpillForgeModel$Row", "java/lang/String"), ("java/lang/IllegalStateException", "java/lang/String"), ("java/util/NoSuchElementException", "java/lang/String"), ("java/lang/StringIndexOutOfBoundsException", "java/lang/String"), ("java/lang/ArrayIndexOutOfBoundsException", "java/lang/String"), ("java/lang/Integer", "java/lang/String")]
def gStr : List (String × Nat × String) := [("SpillForge$Signs", 81, "in"), ("SpillForge$Signs", 87, "show"), ("SpillForge$Signs", 89, "if"), ("SpillForge$Signs", 91, "jump"), ("SpillForge$Signs", 93, "ret"), ("SpillForge$Signs", 108, "+ - * / % & | ^ <<>>< <===!="), ("SpillForge", 70, "the tape would be too long"), ("SpillForge", 84, "the tape has not so many bytes"), ("SpillForge", 109, "so many registers cannot be given out"), ("SpillForge", 113, "there is no program"), ("SpillForge", 131, "nothing of that number is counted"), ("SpillForge", 160, "nothing of that number can be looked at"), ("SpillForge", 167, "the program has no such register or block"), ("SpillForge", 183, "so much fuel is not allowed"), ("SpillForge", 189, "there is nothing to run"), ("SpillForge", 210, "nothing of that number is told"), ("SpillForge", 212, "the run showed not so many"), ("SpillForge", 217, "there is nothing to list"), ("SpillForge$Listing", 24, "b"), ("SpillForge$Listing", 30, ":\n"), ("SpillForge$Listing", 59, "ret "), ("SpillForge$Listing", 92, "v"), ("SpillForge$Listing", 71, "jump b"), ("SpillForge$Listing", 76, "if "), ("SpillForge$Listing", 78, " b"), ("SpillForge$Listing", 83, "show "), ("SpillForge$Listing", 85, "slot "), ("SpillForge$Listing", 90, " = v"), ("SpillForge$Listing", 97, " = "), ("SpillForge$Listing", 102, "in"), ("SpillForge$Listing", 111, "+ - * / % & | ^ <<>>< <===!="), ("SpillForge", 222, "the result has no such byte"), ("SpillForgeModel$Reader", 9, ""), ("java/util/Arrays", 337, " > "), ("SpillForgeModel$Reader", 98, " in show if jump ret phi "), ("SpillForgeModel$Reader", 100, " "), ("SpillForgeModel$Reader", 117, " << >> <= == != "), ("SpillForgeModel$Reader", 119, "+-*/%&|^<(),:="), ("SpillForgeModel$Reader", 171, ":"), ("SpillForgeModel$Reader", 179, "show"), ("SpillForgeModel$Reader", 229, "="), ("SpillForgeModel$Reader", 231, "in"), ("SpillForgeModel", 3, " + - * / % & | ^ << >> < <= == != "), ("SpillForgeModel", 11, " "), ("SpillForgeModel$Reader", 245, "jump"), ("SpillForgeModel$Reader", 250, "if"), ("SpillForgeModel$Reader", 252, "ret"), ("java/util/ArrayList", 201, "Index: "), ("java/util/ArrayList", 203, ", Size: "), ("java/lang/StringIndexOutOfBoundsException", 13, "String index out of range: "), ("java/util/Arrays", 48, "fromIndex("), ("java/util/Arrays", 57, ") > toIndex("), ("java/util/Arrays", 59, ")"), ("java/lang/ArrayIndexOutOfBoundsException", 13, "Array index out of range: "), ("SpillForgeModel", 345, "show "), ("SpillForgeModel", 347, "slot "), ("SpillForgeModel", 349, " = "), ("SpillForgeModel", 351, "in"), ("SpillForgeModel", 333, "jump"), ("SpillForgeModel", 335, "if "), ("SpillForgeModel", 337, "ret "), ("SpillForgeModel", 343, " b")]
/-- what the start gives beside the words that stay -/
def gEx (A : Nat → Prop) (s : State) (H : Heap) : Prop := (∀ w ∈ gNest, va_Nw w s) ∧ (∀ q ∈ gStr, ∃ a, vk_R q.1 q.2.1 q.2.2 a s) ∧ (∀ q ∈ gNC, va_Nc q.1 q.2 s) ∧ vx_Zq Bundle.tN "UNASSIGNED_STACK" Bundle.steD A s H ∧ vx_Zq Bundle.tN "SUPPRESSED_SENTINEL" Bundle.listD A s H ∧ va_Z "java/lang/String" "COMPACT_STRINGS" "Z" (.int 1) A s H ∧ (∃ t, va_Z "java/util/ArrayList" "DEFAULTCAPACITY_EMPTY_ELEMENTDATA" "[Ljava/lang/Object;" (.ref t) A s H) ∧ gAr .long s
def sb_0 : List Int32 := [105, 110]
def sb_1 : List Int32 := [115, 104, 111, 119]
def sb_2 : List Int32 := [105, 102]
def sb_3 : List Int32 := [106, 117, 109, 112]
def sb_4 : List Int32 := [114, 101, 116]
def sb_5 : List Int32 := [43, 32, 45, 32, 42, 32, 47, 32, 37, 32, 38, 32, 124, 32, 94, 32, 60, 60, 62, 62, 60, 32, 60, 61, 61, 61, 33, 61]
def sb_6 : List Int32 := [116, 104, 101, 32, 116, 97, 112, 101, 32, 119, 111, 117, 108, 100, 32, 98, 101, 32, 116, 111, 111, 32, 108, 111, 110, 103]
def sb_7 : List Int32 := [116, 104, 101, 32, 116, 97, 112, 101, 32, 104, 97, 115, 32, 110, 111, 116, 32, 115, 111, 32, 109, 97, 110, 121, 32, 98, 121, 116, 101, 115]
def sb_8 : List Int32 := [115, 111, 32, 109, 97, 110, 121, 32, 114, 101, 103, 105, 115, 116, 101, 114, 115, 32, 99, 97, 110, 110, 111, 116, 32, 98, 101, 32, 103, 105, 118, 101, 110, 32, 111, 117, 116]
def sb_9 : List Int32 := [116, 104, 101, 114, 101, 32, 105, 115, 32, 110, 111, 32, 112, 114, 111, 103, 114, 97, 109]
def sb_10 : List Int32 := [110, 111, 116, 104, 105, 110, 103, 32, 111, 102, 32, 116, 104, 97, 116, 32, 110, 117, 109, 98, 101, 114, 32, 105, 115, 32, 99, 111, 117, 110, 116, 101, 100]
def sb_11 : List Int32 := [110, 111, 116, 104, 105, 110, 103, 32, 111, 102, 32, 116, 104, 97, 116, 32, 110, 117, 109, 98, 101, 114, 32, 99, 97, 110, 32, 98, 101, 32, 108, 111, 111, 107, 101, 100, 32, 97, 116]
def sb_12 : List Int32 := [116, 104, 101, 32, 112, 114, 111, 103, 114, 97, 109, 32, 104, 97, 115, 32, 110, 111, 32, 115, 117, 99, 104, 32, 114, 101, 103, 105, 115, 116, 101, 114, 32, 111, 114, 32, 98, 108, 111, 99, 107]
def sb_13 : List Int32 := [115, 111, 32, 109, 117, 99, 104, 32, 102, 117, 101, 108, 32, 105, 115, 32, 110, 111, 116, 32, 97, 108, 108, 111, 119, 101, 100]
def sb_14 : List Int32 := [116, 104, 101, 114, 101, 32, 105, 115, 32, 110, 111, 116, 104, 105, 110, 103, 32, 116, 111, 32, 114, 117, 110]
def sb_15 : List Int32 := [110, 111, 116, 104, 105, 110, 103, 32, 111, 102, 32, 116, 104, 97, 116, 32, 110, 117, 109, 98, 101, 114, 32, 105, 115, 32, 116, 111, 108, 100]
def sb_16 : List Int32 := [116, 104, 101, 32, 114, 117, 110, 32, 115, 104, 111, 119, 101, 100, 32, 110, 111, 116, 32, 115, 111, 32, 109, 97, 110, 121]
def sb_17 : List Int32 := [116, 104, 101, 114, 101, 32, 105, 115, 32, 110, 111, 116, 104, 105, 110, 103, 32, 116, 111, 32, 108, 105, 115, 116]
def sb_18 : List Int32 := [98]
def sb_19 : List Int32 := [58, 10]
def sb_20 : List Int32 := [114, 101, 116, 32]
def sb_21 : List Int32 := [118]
def sb_22 : List Int32 := [106, 117, 109, 112, 32, 98]
def sb_23 : List Int32 := [105, 102, 32]
def sb_24 : List Int32 := [32, 98]
def sb_25 : List Int32 := [115, 104, 111, 119, 32]
def sb_26 : List Int32 := [115, 108, 111, 116, 32]
def sb_27 : List Int32 := [32, 61, 32, 118]
def sb_28 : List Int32 := [32, 61, 32]
def sb_29 : List Int32 := [105, 110]
def sb_30 : List Int32 := [43, 32, 45, 32, 42, 32, 47, 32, 37, 32, 38, 32, 124, 32, 94, 32, 60, 60, 62, 62, 60, 32, 60, 61, 61, 61, 33, 61]
def sb_31 : List Int32 := [116, 104, 101, 32, 114, 101, 115, 117, 108, 116, 32, 104, 97, 115, 32, 110, 111, 32, 115, 117, 99, 104, 32, 98, 121, 116, 101]
def sb_32 : List Int32 := []
def sb_33 : List Int32 := [32, 62, 32]
def sb_34 : List Int32 := [32, 105, 110, 32, 115, 104, 111, 119, 32, 105, 102, 32, 106, 117, 109, 112, 32, 114, 101, 116, 32, 112, 104, 105, 32]
def sb_35 : List Int32 := [32]
def sb_36 : List Int32 := [32, 60, 60, 32, 62, 62, 32, 60, 61, 32, 61, 61, 32, 33, 61, 32]
def sb_37 : List Int32 := [43, 45, 42, 47, 37, 38, 124, 94, 60, 40, 41, 44, 58, 61]
def sb_38 : List Int32 := [58]
def sb_39 : List Int32 := [115, 104, 111, 119]
def sb_40 : List Int32 := [61]
def sb_41 : List Int32 := [105, 110]
def sb_42 : List Int32 := [32, 43, 32, 45, 32, 42, 32, 47, 32, 37, 32, 38, 32, 124, 32, 94, 32, 60, 60, 32, 62, 62, 32, 60, 32, 60, 61, 32, 61, 61, 32, 33, 61, 32]
def sb_43 : List Int32 := [32]
def sb_44 : List Int32 := [106, 117, 109, 112]
def sb_45 : List Int32 := [105, 102]
def sb_46 : List Int32 := [114, 101, 116]
def sb_47 : List Int32 := [73, 110, 100, 101, 120, 58, 32]
def sb_48 : List Int32 := [44, 32, 83, 105, 122, 101, 58, 32]
def sb_49 : List Int32 := [83, 116, 114, 105, 110, 103, 32, 105, 110, 100, 101, 120, 32, 111, 117, 116, 32, 111, 102, 32, 114, 97, 110, 103, 101, 58, 32]
def sb_50 : List Int32 := [102, 114, 111, 109, 73, 110, 100, 101, 120, 40]
def sb_51 : List Int32 := [41, 32, 62, 32, 116, 111, 73, 110, 100, 101, 120, 40]
def sb_52 : List Int32 := [41]
def sb_53 : List Int32 := [65, 114, 114, 97, 121, 32, 105, 110, 100, 101, 120, 32, 111, 117, 116, 32, 111, 102, 32, 114, 97, 110, 103, 101, 58, 32]
def sb_54 : List Int32 := [115, 104, 111, 119, 32]
def sb_55 : List Int32 := [115, 108, 111, 116, 32]
def sb_56 : List Int32 := [32, 61, 32]
def sb_57 : List Int32 := [105, 110]
def sb_58 : List Int32 := [106, 117, 109, 112]
def sb_59 : List Int32 := [105, 102, 32]
def sb_60 : List Int32 := [114, 101, 116, 32]
def sb_61 : List Int32 := [32, 98]
def gSB : List (List Int32) := [sb_0, sb_1, sb_2, sb_3, sb_4, sb_5, sb_6, sb_7, sb_8, sb_9, sb_10, sb_11, sb_12, sb_13, sb_14, sb_15, sb_16, sb_17, sb_18, sb_19, sb_20, sb_21, sb_22, sb_23, sb_24, sb_25, sb_26, sb_27, sb_28, sb_29, sb_30, sb_31, sb_32, sb_33, sb_34, sb_35, sb_36, sb_37, sb_38, sb_39, sb_40, sb_41, sb_42, sb_43, sb_44, sb_45, sb_46, sb_47, sb_48, sb_49, sb_50, sb_51, sb_52, sb_53, sb_54, sb_55, sb_56, sb_57, sb_58, sb_59, sb_60, sb_61]
def gSC (a b : Nat) (bs : List Int32) (A : Nat → Prop) (s : State) (H : Heap) : Prop := va_O "java/lang/String" a A s H ∧ va_OF "java/lang/String" "coder" "B" (.int 0) a A s H ∧ va_OF "java/lang/String" "value" "[B" (.ref b) a A s H ∧ va_T .byte b bs.length (fun j => .int (bs.getD j 0)) A s H
def gSX (D : va_G) (A : Nat → Prop) (s : State) (H : Heap) : Prop := ∀ (i : Nat) (q : String × Nat × String) (bs : List Int32), gStr[i]? = some q → gSB[i]? = some bs → vk_R q.1 q.2.1 q.2.2 (D.2 1000 i) s ∧ gSC (D.2 1000 i) (D.2 1001 i) bs A s H
def gCast : List (String × String) := [("SpillForgeModel$Block", "SpillForgeModel$Block"), ("SpillForgeModel$Row", "SpillForgeModel$Row"), ("SpillForgeModel$Block", "java/lang/Object"), ("SpillForgeModel$Row", "java/lang/Object"), ("java/lang/String", "java/lang/Object"), ("SpillForgeModel$Wrong", "SpillForgeModel$Wrong")]
def dg_O (j : Nat) : Int32 := Int32.ofNat (48 + j % 10)
def dg_T (j : Nat) : Int32 := Int32.ofNat (48 + j / 10)
def gRX (D : va_G) (A : Nat → Prop) (s : State) (H : Heap) : Prop := (∀ q ∈ gCast, va_Nw (.castable q.1 q.2) s) ∧ va_Mi "[Ljava/lang/Object;" (D.2 1002 0) s ∧ va_Dc s ∧ va_Z "java/util/ArrayList" "DEFAULTCAPACITY_EMPTY_ELEMENTDATA" "[Ljava/lang/Object;" (.ref (D.2 1002 1)) A s H ∧ va_T (.object "java/lang/Object") (D.2 1002 1) 0 (fun _ => .null) A s H ∧ va_Z "java/lang/Integer" "DigitOnes" "[B" (.ref (D.2 1002 2)) A s H ∧ va_T .byte (D.2 1002 2) 100 (fun j => .int (dg_O j)) A s H ∧ va_Z "java/lang/Integer" "DigitTens" "[B" (.ref (D.2 1002 3)) A s H ∧ va_T .byte (D.2 1002 3) 100 (fun j => .int (dg_T j)) A s H ∧ va_AO "java/lang/Object" s
def gExS (D : va_G) (A : Nat → Prop) (s : State) (H : Heap) : Prop := gEx A s H ∧ gSX D A s H ∧ va_Zq "jdk/internal/util/Preconditions" "SIOOBE_FORMATTER" "Ljava/util/function/BiFunction;" A s H ∧ gRX D A s H
abbrev gV (D : va_G) (I : FieldType → ClassId) : gEnv := (D, vwCl, gTy I, gExS D, gw)
theorem gSC.moved {a b : Nat} {bs : List Int32} {A : Nat → Prop} {u U : State} {H : Heap} (hvm : u.vm.Alike U.vm) (h : gSC a b bs A u H) : gSC a b bs A U H := ⟨va_O.moved hvm h.1, va_OF.moved hvm h.2.1, va_OF.moved hvm h.2.2.1, va_T.moved hvm h.2.2.2⟩
theorem gSC.kept {a b : Nat} {bs : List Int32} {A : Nat → Prop} {U : State} {H H1 : Heap} (h : gSC a b bs A U H) (hq : ∀ a : Nat, a < H.size → ¬ A a → H1[a]? = H[a]?) : gSC a b bs A U H1 := ⟨h.1.kept hq, h.2.1.kept hq, h.2.2.1.kept hq, h.2.2.2.kept hq⟩
theorem gSC.narrow {a b : Nat} {bs : List Int32} {A B : Nat → Prop} {U : State} {H : Heap} (h : gSC a b bs A U H) (hAB : ∀ q, B q → A q) : gSC a b bs B U H := ⟨h.1.narrow hAB, h.2.1.narrow hAB, h.2.2.1.narrow hAB, h.2.2.2.narrow hAB⟩
theorem gV_ok (D : va_G) (I : FieldType → ClassId) : gOk (gV D I) := by
  refine ⟨?_, ?_, ?_, gw_good⟩
  · rintro A u U H hW ⟨⟨h1, h4, h5, h2, h3, h6, ⟨t, h7⟩, h8⟩, hs, hz, ⟨r1, r2, r3, r4, r5, r6, r7, r8, r9, r10⟩⟩
    exact ⟨⟨fun w hw => gn_warm (List.all_eq_true.mp gnK_all w hw) hW (h1 w hw), fun q hq => (h4 q hq).imp (fun a z => vk_R.warm hW z), fun q hq => (h5 q hq).moved hW.alike, h2.moved hW.alike, h3.moved hW.alike, h6.moved hW.alike, ⟨t, h7.moved hW.alike⟩, h8.moved hW.alike⟩, fun i q bs e1 e2 => ⟨vk_R.warm hW (hs i q bs e1 e2).1, (hs i q bs e1 e2).2.moved hW.alike⟩, hz.moved hW.alike, fun q hq => va_Nw.warmC hW (r1 q hq), r2.moved hW.alike, r3.moved hW.alike, r4.moved hW.alike, va_T.moved hW.alike r5, r6.moved hW.alike, va_T.moved hW.alike r7, r8.moved hW.alike, va_T.moved hW.alike r9, r10.moved hW.alike⟩
  · rintro A u H H1 hk ⟨⟨h1, h4, h5, h2, h3, h6, ⟨t, h7⟩, h8⟩, hs, hz, ⟨r1, r2, r3, r4, r5, r6, r7, r8, r9, r10⟩⟩
    exact ⟨⟨h1, h4, h5, h2.kept hk, h3.kept hk, h6.kept hk, ⟨t, h7.kept hk⟩, h8⟩, fun i q bs e1 e2 => ⟨(hs i q bs e1 e2).1, (hs i q bs e1 e2).2.kept hk⟩, hz.kept hk, r1, r2, r3, r4.kept hk, r5.kept hk, r6.kept hk, r7.kept hk, r8.kept hk, r9.kept hk, r10⟩
  · rintro A B u H hAB ⟨⟨h1, h4, h5, h2, h3, h6, ⟨t, h7⟩, h8⟩, hs, hz, ⟨r1, r2, r3, r4, r5, r6, r7, r8, r9, r10⟩⟩
    exact ⟨⟨h1, h4, h5, h2.narrow hAB, h3.narrow hAB, h6.narrow hAB, ⟨t, h7.narrow hAB⟩, h8⟩, fun i q bs e1 e2 => ⟨(hs i q bs e1 e2).1, (hs i q bs e1 e2).2.narrow hAB⟩, hz.narrow hAB, r1, r2, r3, r4.narrow hAB, r5.narrow hAB, r6.narrow hAB, r7.narrow hAB, r8.narrow hAB, r9.narrow hAB, r10⟩
theorem gx_vk {D : va_G} {A : Nat → Prop} {s : State} {H : Heap} {own tx : String} {k : Nat} {bs : List Int32} (i : Nat) (h : gStr[i]? = some (own, k, tx)) (hb : gSB[i]? = some bs) (hE : gExS D A s H) : vk_R own k tx (D.2 1000 i) s := (hE.2.1 i _ bs h hb).1
theorem gx_sc {D : va_G} {q : String × Nat × String} {bs : List Int32} (i : Nat) (h : gStr[i]? = some q) (hb : gSB[i]? = some bs) : ∀ A s H, gExS D A s H → gSC (D.2 1000 i) (D.2 1001 i) bs A s H := fun _ _ _ hE => (hE.2.1 i _ bs h hb).2
theorem gz_pf {D : va_G} (A : Nat → Prop) (s : State) (H : Heap) (hE : gExS D A s H) : ∃ x, (x = Value.null ∨ ∃ t, x = Value.ref t) ∧ va_Z "jdk/internal/util/Preconditions" "SIOOBE_FORMATTER" "Ljava/util/function/BiFunction;" x A s H := by
  rcases hE.2.2.1 with h | ⟨t, h⟩
  · exact ⟨_, Or.inl rfl, h⟩
  · exact ⟨_, Or.inr ⟨t, rfl⟩, h⟩
theorem gx_ar {D : va_G} (A : Nat → Prop) (s : State) (H : Heap) (hE : gExS D A s H) : gAr .long s := hE.1.2.2.2.2.2.2.2
theorem gn_w {D : va_G} {A : Nat → Prop} {s : State} {H : Heap} {w : Cond} (i : Nat) (h : gNest[i]? = some w) (hE : gExS D A s H) : va_Nw w s := hE.1.1 w (List.mem_of_getElem? h)
theorem gnT_all : gNest.all (fun w => w.onTables) = true := by rfl
theorem gx_nc {D : va_G} {A : Nat → Prop} {s : State} {H : Heap} {a b : String} (i : Nat) (h : gNC[i]? = some (a, b)) (hE : gExS D A s H) : va_Nc a b s := hE.1.2.2.1 _ (List.mem_of_getElem? h)
theorem gx_str {D : va_G} {A : Nat → Prop} {s : State} {H : Heap} {own tx : String} {k : Nat} (i : Nat) (h : gStr[i]? = some (own, k, tx)) (hE : gExS D A s H) : (∃ a, vk_R own k tx a s) ∧ vx_Zq Bundle.tN "UNASSIGNED_STACK" Bundle.steD A s H ∧ vx_Zq Bundle.tN "SUPPRESSED_SENTINEL" Bundle.listD A s H ∧ ∀ w ∈ gNest, ∀ args, w.before args s = true :=
  ⟨hE.1.2.1 _ (List.mem_of_getElem? h), hE.1.2.2.2.1, hE.1.2.2.2.2.1, fun w hw args => va_Nw.use (List.all_eq_true.mp gnT_all w hw) (hE.1.1 w hw)⟩
theorem gz_cs {D : va_G} (A : Nat → Prop) (s : State) (H : Heap) (hE : gExS D A s H) : ∃ x, x = Value.int 1 ∧ va_Z "java/lang/String" "COMPACT_STRINGS" "Z" x A s H := ⟨_, rfl, hE.1.2.2.2.2.2.1⟩
theorem gz_al {D : va_G} (A : Nat → Prop) (s : State) (H : Heap) (hE : gExS D A s H) : ∃ x, (∃ t, x = Value.ref t) ∧ va_Z "java/util/ArrayList" "DEFAULTCAPACITY_EMPTY_ELEMENTDATA" "[Ljava/lang/Object;" x A s H := by
  obtain ⟨t, h⟩ := hE.1.2.2.2.2.2.2.1
  exact ⟨_, ⟨t, rfl⟩, h⟩
theorem gz_us {D : va_G} (A : Nat → Prop) (s : State) (H : Heap) (hE : gExS D A s H) : ∃ x, (x = Value.null ∨ ∃ t, x = Value.ref t) ∧ va_Z Bundle.tN "UNASSIGNED_STACK" Bundle.steD x A s H := by
  rcases hE.1.2.2.2.1.1 with h | ⟨t, h⟩
  · exact ⟨_, Or.inl rfl, h⟩
  · exact ⟨_, Or.inr ⟨t, rfl⟩, h⟩
theorem gz_ss {D : va_G} (A : Nat → Prop) (s : State) (H : Heap) (hE : gExS D A s H) : ∃ x, (x = Value.null ∨ ∃ t, x = Value.ref t) ∧ va_Z Bundle.tN "SUPPRESSED_SENTINEL" Bundle.listD x A s H := by
  rcases hE.1.2.2.2.2.1.1 with h | ⟨t, h⟩
  · exact ⟨_, Or.inl rfl, h⟩
  · exact ⟨_, Or.inr ⟨t, rfl⟩, h⟩
theorem gx_st {D : va_G} {A : Nat → Prop} {s : State} {H : Heap} {own tx : String} {k : Nat} (i : Nat) (h : gStr[i]? = some (own, k, tx)) (hE : gExS D A s H) : ∃ a, vk_R own k tx a s := hE.1.2.1 _ (List.mem_of_getElem? h)
theorem gl_refl (x : Int64) : lg_cmp x x = 0 := by simp [lg_cmp]
theorem gi_J0 : ∀ w ∈ u_ws RJ0 TJ0 4, w ∈ gw := List.forall_mem_cons.mpr ⟨gw_8 184 rfl rfl, List.forall_mem_cons.mpr ⟨gw_8 186 rfl rfl, List.forall_mem_cons.mpr ⟨gw_8 188 rfl rfl, List.forall_mem_cons.mpr ⟨gw_8 190 rfl rfl, fun _ h => absurd h List.not_mem_nil⟩⟩⟩⟩
theorem gk_J0 (D : va_G) (I : FieldType → ClassId) : gK (gV D I) 0 RJ0 TJ0 4 tyJ0 := ⟨rfl, gi_J0, tyJ0_ok, nmJ0⟩
theorem gfs_J0 : ∀ j, j < 4 → defaultValue (tyJ0 j) = vp_V [.null, .int 0, .int 0, .int 0] j := by
  intro j hj
  rcases (show j = 0 ∨ j = 1 ∨ j = 2 ∨ j = 3 by omega) with rfl | rfl | rfl | rfl <;> rfl
theorem gi_J4 : ∀ w ∈ u_ws RJ4 TJ4 4, w ∈ gw := List.forall_mem_cons.mpr ⟨gw_7 65 rfl rfl, List.forall_mem_cons.mpr ⟨gw_7 67 rfl rfl, List.forall_mem_cons.mpr ⟨gw_7 69 rfl rfl, List.forall_mem_cons.mpr ⟨gw_7 71 rfl rfl, fun _ h => absurd h List.not_mem_nil⟩⟩⟩⟩
theorem gk_J4 (D : va_G) (I : FieldType → ClassId) : gK (gV D I) 1 RJ4 TJ4 4 tyJ4 := ⟨rfl, gi_J4, tyJ4_ok, nmJ4⟩
theorem gfs_J4 : ∀ j, j < 4 → defaultValue (tyJ4 j) = vp_V [.null, .int 0, .int 0, .int 0] j := by
  intro j hj
  rcases (show j = 0 ∨ j = 1 ∨ j = 2 ∨ j = 3 by omega) with rfl | rfl | rfl | rfl <;> rfl
theorem gi_Jx00060 : ∀ w ∈ u_ws RJx00060 TJx00060 6, w ∈ gw := List.forall_mem_cons.mpr ⟨gw_11 175 rfl rfl, List.forall_mem_cons.mpr ⟨gw_11 176 rfl rfl, List.forall_mem_cons.mpr ⟨gw_11 177 rfl rfl, List.forall_mem_cons.mpr ⟨gw_11 178 rfl rfl, List.forall_mem_cons.mpr ⟨gw_11 179 rfl rfl, List.forall_mem_cons.mpr ⟨gw_11 180 rfl rfl, fun _ h => absurd h List.not_mem_nil⟩⟩⟩⟩⟩⟩
theorem gk_Jx00060 (D : va_G) (I : FieldType → ClassId) : gK (gV D I) 2 RJx00060 TJx00060 6 tyJx00060 := ⟨rfl, gi_Jx00060, tyJx00060_ok, nmJx00060⟩
theorem gfs_Jx00060 : ∀ j, j < 6 → defaultValue (tyJx00060 j) = vp_V [.null, .null, .null, .null, .int 0, .null] j := by
  intro j hj
  rcases (show j = 0 ∨ j = 1 ∨ j = 2 ∨ j = 3 ∨ j = 4 ∨ j = 5 by omega) with rfl | rfl | rfl | rfl | rfl | rfl <;> rfl
theorem gi_Jx7c733 : ∀ w ∈ u_ws RJx7c733 TJx7c733 6, w ∈ gw := List.forall_mem_cons.mpr ⟨gw_11 144 rfl rfl, List.forall_mem_cons.mpr ⟨gw_11 145 rfl rfl, List.forall_mem_cons.mpr ⟨gw_11 146 rfl rfl, List.forall_mem_cons.mpr ⟨gw_11 147 rfl rfl, List.forall_mem_cons.mpr ⟨gw_11 148 rfl rfl, List.forall_mem_cons.mpr ⟨gw_11 149 rfl rfl, fun _ h => absurd h List.not_mem_nil⟩⟩⟩⟩⟩⟩
theorem gk_Jx7c733 (D : va_G) (I : FieldType → ClassId) : gK (gV D I) 3 RJx7c733 TJx7c733 6 tyJx7c733 := ⟨rfl, gi_Jx7c733, tyJx7c733_ok, nmJx7c733⟩
theorem gfs_Jx7c733 : ∀ j, j < 6 → defaultValue (tyJx7c733 j) = vp_V [.null, .null, .null, .null, .int 0, .null] j := by
  intro j hj
  rcases (show j = 0 ∨ j = 1 ∨ j = 2 ∨ j = 3 ∨ j = 4 ∨ j = 5 by omega) with rfl | rfl | rfl | rfl | rfl | rfl <;> rfl
theorem gi_Jx4a65c : ∀ w ∈ u_ws RJx4a65c TJx4a65c 3, w ∈ gw := List.forall_mem_cons.mpr ⟨gw_7 26 rfl rfl, List.forall_mem_cons.mpr ⟨gw_7 22 rfl rfl, List.forall_mem_cons.mpr ⟨gw_7 24 rfl rfl, fun _ h => absurd h List.not_mem_nil⟩⟩⟩
theorem gk_Jx4a65c (D : va_G) (I : FieldType → ClassId) : gK (gV D I) 4 RJx4a65c TJx4a65c 3 tyJx4a65c := ⟨rfl, gi_Jx4a65c, tyJx4a65c_ok, nmJx4a65c⟩
theorem gfs_Jx4a65c : ∀ j, j < 3 → defaultValue (tyJx4a65c j) = vp_V [.int 0, .null, .int 0] j := by
  intro j hj
  rcases (show j = 0 ∨ j = 1 ∨ j = 2 by omega) with rfl | rfl | rfl <;> rfl
theorem gi_X0 : ∀ w ∈ u_ws RX0 TX0 12, w ∈ gw := List.forall_mem_cons.mpr ⟨gw_1 202 rfl rfl, List.forall_mem_cons.mpr ⟨gw_1 204 rfl rfl, List.forall_mem_cons.mpr ⟨gw_1 206 rfl rfl, List.forall_mem_cons.mpr ⟨gw_1 208 rfl rfl, List.forall_mem_cons.mpr ⟨gw_1 210 rfl rfl, List.forall_mem_cons.mpr ⟨gw_1 212 rfl rfl, List.forall_mem_cons.mpr ⟨gw_1 214 rfl rfl, List.forall_mem_cons.mpr ⟨gw_1 216 rfl rfl, List.forall_mem_cons.mpr ⟨gw_1 218 rfl rfl, List.forall_mem_cons.mpr ⟨gw_1 220 rfl rfl, List.forall_mem_cons.mpr ⟨gw_1 222 rfl rfl, List.forall_mem_cons.mpr ⟨gw_1 224 rfl rfl, fun _ h => absurd h List.not_mem_nil⟩⟩⟩⟩⟩⟩⟩⟩⟩⟩⟩⟩
theorem gk_X0 (D : va_G) (I : FieldType → ClassId) : gK (gV D I) 5 RX0 TX0 12 tyX0 := ⟨rfl, gi_X0, tyX0_ok, nmX0⟩
theorem gfs_X0 : ∀ j, j < 12 → defaultValue (tyX0 j) = vp_V [.null, .null, .null, .null, .null, .null, .null, .null, .null, .int 0, .int 0, .int 0] j := by
  intro j hj
  rcases (show j = 0 ∨ j = 1 ∨ j = 2 ∨ j = 3 ∨ j = 4 ∨ j = 5 ∨ j = 6 ∨ j = 7 ∨ j = 8 ∨ j = 9 ∨ j = 10 ∨ j = 11 by omega) with rfl | rfl | rfl | rfl | rfl | rfl | rfl | rfl | rfl | rfl | rfl | rfl <;> rfl
theorem gi_X1 : ∀ w ∈ u_ws RX1 TX1 8, w ∈ gw := List.forall_mem_cons.mpr ⟨gw_2 86 rfl rfl, List.forall_mem_cons.mpr ⟨gw_2 88 rfl rfl, List.forall_mem_cons.mpr ⟨gw_2 90 rfl rfl, List.forall_mem_cons.mpr ⟨gw_2 92 rfl rfl, List.forall_mem_cons.mpr ⟨gw_2 94 rfl rfl, List.forall_mem_cons.mpr ⟨gw_2 96 rfl rfl, List.forall_mem_cons.mpr ⟨gw_2 98 rfl rfl, List.forall_mem_cons.mpr ⟨gw_2 100 rfl rfl, fun _ h => absurd h List.not_mem_nil⟩⟩⟩⟩⟩⟩⟩⟩
theorem gk_X1 (D : va_G) (I : FieldType → ClassId) : gK (gV D I) 6 RX1 TX1 8 tyX1 := ⟨rfl, gi_X1, tyX1_ok, nmX1⟩
theorem gfs_X1 : ∀ j, j < 8 → defaultValue (tyX1 j) = vp_V [.null, .null, .null, .null, .null, .null, .int 0, .int 0] j := by
  intro j hj
  rcases (show j = 0 ∨ j = 1 ∨ j = 2 ∨ j = 3 ∨ j = 4 ∨ j = 5 ∨ j = 6 ∨ j = 7 by omega) with rfl | rfl | rfl | rfl | rfl | rfl | rfl | rfl <;> rfl
theorem gi_X2 : ∀ w ∈ u_ws RX2 TX2 16, w ∈ gw := List.forall_mem_cons.mpr ⟨gw_2 121 rfl rfl, List.forall_mem_cons.mpr ⟨gw_2 123 rfl rfl, List.forall_mem_cons.mpr ⟨gw_2 125 rfl rfl, List.forall_mem_cons.mpr ⟨gw_2 127 rfl rfl, List.forall_mem_cons.mpr ⟨gw_2 129 rfl rfl, List.forall_mem_cons.mpr ⟨gw_2 131 rfl rfl, List.forall_mem_cons.mpr ⟨gw_2 133 rfl rfl, List.forall_mem_cons.mpr ⟨gw_2 135 rfl rfl, List.forall_mem_cons.mpr ⟨gw_2 137 rfl rfl, List.forall_mem_cons.mpr ⟨gw_2 139 rfl rfl, List.forall_mem_cons.mpr ⟨gw_2 141 rfl rfl, List.forall_mem_cons.mpr ⟨gw_2 143 rfl rfl, List.forall_mem_cons.mpr ⟨gw_2 145 rfl rfl, List.forall_mem_cons.mpr ⟨gw_2 147 rfl rfl, List.forall_mem_cons.mpr ⟨gw_2 149 rfl rfl, List.forall_mem_cons.mpr ⟨gw_2 151 rfl rfl, fun _ h => absurd h List.not_mem_nil⟩⟩⟩⟩⟩⟩⟩⟩⟩⟩⟩⟩⟩⟩⟩⟩
theorem gk_X2 (D : va_G) (I : FieldType → ClassId) : gK (gV D I) 7 RX2 TX2 16 tyX2 := ⟨rfl, gi_X2, tyX2_ok, nmX2⟩
theorem gfs_X2 : ∀ j, j < 16 → defaultValue (tyX2 j) = vp_V [.null, .null, .null, .null, .null, .null, .null, .null, .null, .null, .int 0, .int 0, .int 0, .int 0, .int 0, .int 0] j := by
  intro j hj
  rcases (show j = 0 ∨ j = 1 ∨ j = 2 ∨ j = 3 ∨ j = 4 ∨ j = 5 ∨ j = 6 ∨ j = 7 ∨ j = 8 ∨ j = 9 ∨ j = 10 ∨ j = 11 ∨ j = 12 ∨ j = 13 ∨ j = 14 ∨ j = 15 by omega) with rfl | rfl | rfl | rfl | rfl | rfl | rfl | rfl | rfl | rfl | rfl | rfl | rfl | rfl | rfl | rfl <;> rfl
theorem gi_X3 : ∀ w ∈ u_ws RX3 TX3 6, w ∈ gw := List.forall_mem_cons.mpr ⟨gw_2 59 rfl rfl, List.forall_mem_cons.mpr ⟨gw_2 61 rfl rfl, List.forall_mem_cons.mpr ⟨gw_2 63 rfl rfl, List.forall_mem_cons.mpr ⟨gw_2 65 rfl rfl, List.forall_mem_cons.mpr ⟨gw_2 67 rfl rfl, List.forall_mem_cons.mpr ⟨gw_2 69 rfl rfl, fun _ h => absurd h List.not_mem_nil⟩⟩⟩⟩⟩⟩
theorem gk_X3 (D : va_G) (I : FieldType → ClassId) : gK (gV D I) 8 RX3 TX3 6 tyX3 := ⟨rfl, gi_X3, tyX3_ok, nmX3⟩
theorem gfs_X3 : ∀ j, j < 6 → defaultValue (tyX3 j) = vp_V [.null, .null, .null, .null, .int 0, .int 0] j := by
  intro j hj
  rcases (show j = 0 ∨ j = 1 ∨ j = 2 ∨ j = 3 ∨ j = 4 ∨ j = 5 by omega) with rfl | rfl | rfl | rfl | rfl | rfl <;> rfl
theorem gi_X4 : ∀ w ∈ u_ws RX4 TX4 2, w ∈ gw := List.forall_mem_cons.mpr ⟨gw_2 202 rfl rfl, List.forall_mem_cons.mpr ⟨gw_2 204 rfl rfl, fun _ h => absurd h List.not_mem_nil⟩⟩
theorem gk_X4 (D : va_G) (I : FieldType → ClassId) : gK (gV D I) 9 RX4 TX4 2 tyX4 := ⟨rfl, gi_X4, tyX4_ok, nmX4⟩
theorem gfs_X4 : ∀ j, j < 2 → defaultValue (tyX4 j) = vp_V [.null, .int 0] j := by
  intro j hj
  rcases (show j = 0 ∨ j = 1 by omega) with rfl | rfl <;> rfl
theorem gi_X5 : ∀ w ∈ u_ws RX5 TX5 7, w ∈ gw := List.forall_mem_cons.mpr ⟨gw_2 32 rfl rfl, List.forall_mem_cons.mpr ⟨gw_2 34 rfl rfl, List.forall_mem_cons.mpr ⟨gw_2 36 rfl rfl, List.forall_mem_cons.mpr ⟨gw_2 38 rfl rfl, List.forall_mem_cons.mpr ⟨gw_2 40 rfl rfl, List.forall_mem_cons.mpr ⟨gw_2 42 rfl rfl, List.forall_mem_cons.mpr ⟨gw_2 44 rfl rfl, fun _ h => absurd h List.not_mem_nil⟩⟩⟩⟩⟩⟩⟩
theorem gk_X5 (D : va_G) (I : FieldType → ClassId) : gK (gV D I) 10 RX5 TX5 7 tyX5 := ⟨rfl, gi_X5, tyX5_ok, nmX5⟩
theorem gfs_X5 : ∀ j, j < 7 → defaultValue (tyX5 j) = vp_V [.null, .null, .null, .null, .int 0, .int 0, .int 0] j := by
  intro j hj
  rcases (show j = 0 ∨ j = 1 ∨ j = 2 ∨ j = 3 ∨ j = 4 ∨ j = 5 ∨ j = 6 by omega) with rfl | rfl | rfl | rfl | rfl | rfl | rfl <;> rfl
theorem gi_X6 : ∀ w ∈ u_ws RX6 TX6 3, w ∈ gw := List.forall_mem_cons.mpr ⟨gw_1 236 rfl rfl, List.forall_mem_cons.mpr ⟨gw_1 238 rfl rfl, List.forall_mem_cons.mpr ⟨gw_2 0 rfl rfl, fun _ h => absurd h List.not_mem_nil⟩⟩⟩
theorem gk_X6 (D : va_G) (I : FieldType → ClassId) : gK (gV D I) 11 RX6 TX6 3 tyX6 := ⟨rfl, gi_X6, tyX6_ok, nmX6⟩
theorem gfs_X6 : ∀ j, j < 3 → defaultValue (tyX6 j) = vp_V [.null, .null, .null] j := by
  intro j hj
  rcases (show j = 0 ∨ j = 1 ∨ j = 2 by omega) with rfl | rfl | rfl <;> rfl
theorem gi_X7 : ∀ w ∈ u_ws RX7 TX7 11, w ∈ gw := List.forall_mem_cons.mpr ⟨gw_2 171 rfl rfl, List.forall_mem_cons.mpr ⟨gw_2 173 rfl rfl, List.forall_mem_cons.mpr ⟨gw_2 175 rfl rfl, List.forall_mem_cons.mpr ⟨gw_2 177 rfl rfl, List.forall_mem_cons.mpr ⟨gw_2 179 rfl rfl, List.forall_mem_cons.mpr ⟨gw_2 181 rfl rfl, List.forall_mem_cons.mpr ⟨gw_2 183 rfl rfl, List.forall_mem_cons.mpr ⟨gw_2 185 rfl rfl, List.forall_mem_cons.mpr ⟨gw_2 187 rfl rfl, List.forall_mem_cons.mpr ⟨gw_2 189 rfl rfl, List.forall_mem_cons.mpr ⟨gw_2 191 rfl rfl, fun _ h => absurd h List.not_mem_nil⟩⟩⟩⟩⟩⟩⟩⟩⟩⟩⟩
theorem gk_X7 (D : va_G) (I : FieldType → ClassId) : gK (gV D I) 12 RX7 TX7 11 tyX7 := ⟨rfl, gi_X7, tyX7_ok, nmX7⟩
theorem gfs_X7 : ∀ j, j < 11 → defaultValue (tyX7 j) = vp_V [.null, .null, .null, .null, .int 0, .int 0, .int 0, .int 0, .int 0, .int 0, .int 0] j := by
  intro j hj
  rcases (show j = 0 ∨ j = 1 ∨ j = 2 ∨ j = 3 ∨ j = 4 ∨ j = 5 ∨ j = 6 ∨ j = 7 ∨ j = 8 ∨ j = 9 ∨ j = 10 by omega) with rfl | rfl | rfl | rfl | rfl | rfl | rfl | rfl | rfl | rfl | rfl <;> rfl
theorem gi_X8 : ∀ w ∈ u_ws RX8 TX8 12, w ∈ gw := List.forall_mem_cons.mpr ⟨gw_1 108 rfl rfl, List.forall_mem_cons.mpr ⟨gw_1 110 rfl rfl, List.forall_mem_cons.mpr ⟨gw_1 112 rfl rfl, List.forall_mem_cons.mpr ⟨gw_1 114 rfl rfl, List.forall_mem_cons.mpr ⟨gw_1 116 rfl rfl, List.forall_mem_cons.mpr ⟨gw_1 118 rfl rfl, List.forall_mem_cons.mpr ⟨gw_1 120 rfl rfl, List.forall_mem_cons.mpr ⟨gw_1 122 rfl rfl, List.forall_mem_cons.mpr ⟨gw_1 124 rfl rfl, List.forall_mem_cons.mpr ⟨gw_1 126 rfl rfl, List.forall_mem_cons.mpr ⟨gw_1 128 rfl rfl, List.forall_mem_cons.mpr ⟨gw_1 130 rfl rfl, fun _ h => absurd h List.not_mem_nil⟩⟩⟩⟩⟩⟩⟩⟩⟩⟩⟩⟩
theorem gk_X8 (D : va_G) (I : FieldType → ClassId) : gK (gV D I) 13 RX8 TX8 12 tyX8 := ⟨rfl, gi_X8, tyX8_ok, nmX8⟩
theorem gfs_X8 : ∀ j, j < 12 → defaultValue (tyX8 j) = vp_V [.null, .null, .int 0, .int 0, .int 0, .long 0, .int 0, .int 0, .int 0, .int 0, .int 0, .int 0] j := by
  intro j hj
  rcases (show j = 0 ∨ j = 1 ∨ j = 2 ∨ j = 3 ∨ j = 4 ∨ j = 5 ∨ j = 6 ∨ j = 7 ∨ j = 8 ∨ j = 9 ∨ j = 10 ∨ j = 11 by omega) with rfl | rfl | rfl | rfl | rfl | rfl | rfl | rfl | rfl | rfl | rfl | rfl <;> rfl
theorem gi_X9 : ∀ w ∈ u_ws RX9 TX9 5, w ∈ gw := List.forall_mem_cons.mpr ⟨gw_1 84 rfl rfl, List.forall_mem_cons.mpr ⟨gw_1 86 rfl rfl, List.forall_mem_cons.mpr ⟨gw_1 88 rfl rfl, List.forall_mem_cons.mpr ⟨gw_1 90 rfl rfl, List.forall_mem_cons.mpr ⟨gw_1 92 rfl rfl, fun _ h => absurd h List.not_mem_nil⟩⟩⟩⟩⟩
theorem gk_X9 (D : va_G) (I : FieldType → ClassId) : gK (gV D I) 14 RX9 TX9 5 tyX9 := ⟨rfl, gi_X9, tyX9_ok, nmX9⟩
theorem gfs_X9 : ∀ j, j < 5 → defaultValue (tyX9 j) = vp_V [.null, .int 0, .int 0, .int 0, .int 0] j := by
  intro j hj
  rcases (show j = 0 ∨ j = 1 ∨ j = 2 ∨ j = 3 ∨ j = 4 by omega) with rfl | rfl | rfl | rfl | rfl <;> rfl
theorem gi_X10 : ∀ w ∈ u_ws RX10 TX10 2, w ∈ gw := List.forall_mem_cons.mpr ⟨gw_1 61 rfl rfl, List.forall_mem_cons.mpr ⟨gw_1 63 rfl rfl, fun _ h => absurd h List.not_mem_nil⟩⟩
theorem gk_X10 (D : va_G) (I : FieldType → ClassId) : gK (gV D I) 15 RX10 TX10 2 tyX10 := ⟨rfl, gi_X10, tyX10_ok, nmX10⟩
theorem gfs_X10 : ∀ j, j < 2 → defaultValue (tyX10 j) = vp_V [.null, .int 0] j := by
  intro j hj
  rcases (show j = 0 ∨ j = 1 by omega) with rfl | rfl <;> rfl
theorem gi_X11 : ∀ w ∈ u_ws RX11 TX11 8, w ∈ gw := List.forall_mem_cons.mpr ⟨gw_2 215 rfl rfl, List.forall_mem_cons.mpr ⟨gw_2 217 rfl rfl, List.forall_mem_cons.mpr ⟨gw_2 219 rfl rfl, List.forall_mem_cons.mpr ⟨gw_2 221 rfl rfl, List.forall_mem_cons.mpr ⟨gw_2 223 rfl rfl, List.forall_mem_cons.mpr ⟨gw_2 225 rfl rfl, List.forall_mem_cons.mpr ⟨gw_2 227 rfl rfl, List.forall_mem_cons.mpr ⟨gw_2 229 rfl rfl, fun _ h => absurd h List.not_mem_nil⟩⟩⟩⟩⟩⟩⟩⟩
theorem gk_X11 (D : va_G) (I : FieldType → ClassId) : gK (gV D I) 16 RX11 TX11 8 tyX11 := ⟨rfl, gi_X11, tyX11_ok, nmX11⟩
theorem gfs_X11 : ∀ j, j < 8 → defaultValue (tyX11 j) = vp_V [.null, .null, .null, .null, .null, .null, .null, .int 0] j := by
  intro j hj
  rcases (show j = 0 ∨ j = 1 ∨ j = 2 ∨ j = 3 ∨ j = 4 ∨ j = 5 ∨ j = 6 ∨ j = 7 by omega) with rfl | rfl | rfl | rfl | rfl | rfl | rfl | rfl <;> rfl
theorem gi_X12 : ∀ w ∈ u_ws RX12 TX12 4, w ∈ gw := List.forall_mem_cons.mpr ⟨gw_9 234 rfl rfl, List.forall_mem_cons.mpr ⟨gw_9 236 rfl rfl, List.forall_mem_cons.mpr ⟨gw_9 238 rfl rfl, List.forall_mem_cons.mpr ⟨gw_10 0 rfl rfl, fun _ h => absurd h List.not_mem_nil⟩⟩⟩⟩
theorem gk_X12 (D : va_G) (I : FieldType → ClassId) : gK (gV D I) 17 RX12 TX12 4 tyX12 := ⟨rfl, gi_X12, tyX12_ok, nmX12⟩
theorem gfs_X12 : ∀ j, j < 4 → defaultValue (tyX12 j) = vp_V [.null, .null, .int 0, .int 0] j := by
  intro j hj
  rcases (show j = 0 ∨ j = 1 ∨ j = 2 ∨ j = 3 by omega) with rfl | rfl | rfl | rfl <;> rfl
theorem gi_X13 : ∀ w ∈ u_ws RX13 TX13 4, w ∈ gw := List.forall_mem_cons.mpr ⟨gw_7 34 rfl rfl, List.forall_mem_cons.mpr ⟨gw_7 36 rfl rfl, List.forall_mem_cons.mpr ⟨gw_7 38 rfl rfl, List.forall_mem_cons.mpr ⟨gw_7 40 rfl rfl, fun _ h => absurd h List.not_mem_nil⟩⟩⟩⟩
theorem gk_X13 (D : va_G) (I : FieldType → ClassId) : gK (gV D I) 18 RX13 TX13 4 tyX13 := ⟨rfl, gi_X13, tyX13_ok, nmX13⟩
theorem gfs_X13 : ∀ j, j < 4 → defaultValue (tyX13 j) = vp_V [.null, .null, .int 0, .int 0] j := by
  intro j hj
  rcases (show j = 0 ∨ j = 1 ∨ j = 2 ∨ j = 3 by omega) with rfl | rfl | rfl | rfl <;> rfl
theorem gi_X14 : ∀ w ∈ u_ws RX14 TX14 14, w ∈ gw := List.forall_mem_cons.mpr ⟨gw_9 52 rfl rfl, List.forall_mem_cons.mpr ⟨gw_9 54 rfl rfl, List.forall_mem_cons.mpr ⟨gw_9 56 rfl rfl, List.forall_mem_cons.mpr ⟨gw_9 58 rfl rfl, List.forall_mem_cons.mpr ⟨gw_9 60 rfl rfl, List.forall_mem_cons.mpr ⟨gw_9 62 rfl rfl, List.forall_mem_cons.mpr ⟨gw_9 64 rfl rfl, List.forall_mem_cons.mpr ⟨gw_9 66 rfl rfl, List.forall_mem_cons.mpr ⟨gw_9 68 rfl rfl, List.forall_mem_cons.mpr ⟨gw_9 70 rfl rfl, List.forall_mem_cons.mpr ⟨gw_9 72 rfl rfl, List.forall_mem_cons.mpr ⟨gw_9 74 rfl rfl, List.forall_mem_cons.mpr ⟨gw_9 76 rfl rfl, List.forall_mem_cons.mpr ⟨gw_9 78 rfl rfl, fun _ h => absurd h List.not_mem_nil⟩⟩⟩⟩⟩⟩⟩⟩⟩⟩⟩⟩⟩⟩
theorem gk_X14 (D : va_G) (I : FieldType → ClassId) : gK (gV D I) 19 RX14 TX14 14 tyX14 := ⟨rfl, gi_X14, tyX14_ok, nmX14⟩
theorem gfs_X14 : ∀ j, j < 14 → defaultValue (tyX14 j) = vp_V [.null, .int 0, .int 0, .int 0, .int 0, .int 0, .int 0, .null, .int 0, .int 0, .int 0, .null, .null, .int 0] j := by
  intro j hj
  rcases (show j = 0 ∨ j = 1 ∨ j = 2 ∨ j = 3 ∨ j = 4 ∨ j = 5 ∨ j = 6 ∨ j = 7 ∨ j = 8 ∨ j = 9 ∨ j = 10 ∨ j = 11 ∨ j = 12 ∨ j = 13 by omega) with rfl | rfl | rfl | rfl | rfl | rfl | rfl | rfl | rfl | rfl | rfl | rfl | rfl | rfl <;> rfl
theorem gi_X15 : ∀ w ∈ u_ws RX15 TX15 7, w ∈ gw := List.forall_mem_cons.mpr ⟨gw_9 203 rfl rfl, List.forall_mem_cons.mpr ⟨gw_9 205 rfl rfl, List.forall_mem_cons.mpr ⟨gw_9 207 rfl rfl, List.forall_mem_cons.mpr ⟨gw_9 209 rfl rfl, List.forall_mem_cons.mpr ⟨gw_9 211 rfl rfl, List.forall_mem_cons.mpr ⟨gw_9 213 rfl rfl, List.forall_mem_cons.mpr ⟨gw_9 215 rfl rfl, fun _ h => absurd h List.not_mem_nil⟩⟩⟩⟩⟩⟩⟩
theorem gk_X15 (D : va_G) (I : FieldType → ClassId) : gK (gV D I) 20 RX15 TX15 7 tyX15 := ⟨rfl, gi_X15, tyX15_ok, nmX15⟩
theorem gfs_X15 : ∀ j, j < 7 → defaultValue (tyX15 j) = vp_V [.int 0, .int 0, .int 0, .int 0, .int 0, .int 0, .int 0] j := by
  intro j hj
  rcases (show j = 0 ∨ j = 1 ∨ j = 2 ∨ j = 3 ∨ j = 4 ∨ j = 5 ∨ j = 6 by omega) with rfl | rfl | rfl | rfl | rfl | rfl | rfl <;> rfl
theorem gi_X16 : ∀ w ∈ u_ws RX16 TX16 7, w ∈ gw := List.forall_mem_cons.mpr ⟨gw_9 105 rfl rfl, List.forall_mem_cons.mpr ⟨gw_9 106 rfl rfl, List.forall_mem_cons.mpr ⟨gw_9 107 rfl rfl, List.forall_mem_cons.mpr ⟨gw_9 108 rfl rfl, List.forall_mem_cons.mpr ⟨gw_9 109 rfl rfl, List.forall_mem_cons.mpr ⟨gw_9 126 rfl rfl, List.forall_mem_cons.mpr ⟨gw_9 124 rfl rfl, fun _ h => absurd h List.not_mem_nil⟩⟩⟩⟩⟩⟩⟩
theorem gk_X16 (D : va_G) (I : FieldType → ClassId) : gK (gV D I) 21 RX16 TX16 7 tyX16 := ⟨rfl, gi_X16, tyX16_ok, nmX16⟩
theorem gfs_X16 : ∀ j, j < 7 → defaultValue (tyX16 j) = vp_V [.null, .null, .null, .null, .null, .int 0, .int 0] j := by
  intro j hj
  rcases (show j = 0 ∨ j = 1 ∨ j = 2 ∨ j = 3 ∨ j = 4 ∨ j = 5 ∨ j = 6 by omega) with rfl | rfl | rfl | rfl | rfl | rfl | rfl <;> rfl
theorem gi_X17 : ∀ w ∈ u_ws RX17 TX17 36, w ∈ gw := List.forall_mem_cons.mpr ⟨gw_7 110 rfl rfl, List.forall_mem_cons.mpr ⟨gw_7 112 rfl rfl, List.forall_mem_cons.mpr ⟨gw_7 114 rfl rfl, List.forall_mem_cons.mpr ⟨gw_7 116 rfl rfl, List.forall_mem_cons.mpr ⟨gw_7 118 rfl rfl, List.forall_mem_cons.mpr ⟨gw_7 120 rfl rfl, List.forall_mem_cons.mpr ⟨gw_7 122 rfl rfl, List.forall_mem_cons.mpr ⟨gw_7 124 rfl rfl, List.forall_mem_cons.mpr ⟨gw_7 126 rfl rfl, List.forall_mem_cons.mpr ⟨gw_7 128 rfl rfl, List.forall_mem_cons.mpr ⟨gw_7 130 rfl rfl, List.forall_mem_cons.mpr ⟨gw_7 132 rfl rfl, List.forall_mem_cons.mpr ⟨gw_7 134 rfl rfl, List.forall_mem_cons.mpr ⟨gw_7 136 rfl rfl, List.forall_mem_cons.mpr ⟨gw_7 138 rfl rfl, List.forall_mem_cons.mpr ⟨gw_7 140 rfl rfl, List.forall_mem_cons.mpr ⟨gw_7 142 rfl rfl, List.forall_mem_cons.mpr ⟨gw_7 144 rfl rfl, List.forall_mem_cons.mpr ⟨gw_7 146 rfl rfl, List.forall_mem_cons.mpr ⟨gw_7 148 rfl rfl, List.forall_mem_cons.mpr ⟨gw_7 150 rfl rfl, List.forall_mem_cons.mpr ⟨gw_7 152 rfl rfl, List.forall_mem_cons.mpr ⟨gw_7 154 rfl rfl, List.forall_mem_cons.mpr ⟨gw_7 156 rfl rfl, List.forall_mem_cons.mpr ⟨gw_7 158 rfl rfl, List.forall_mem_cons.mpr ⟨gw_7 160 rfl rfl, List.forall_mem_cons.mpr ⟨gw_7 162 rfl rfl, List.forall_mem_cons.mpr ⟨gw_7 164 rfl rfl, List.forall_mem_cons.mpr ⟨gw_7 166 rfl rfl, List.forall_mem_cons.mpr ⟨gw_7 168 rfl rfl, List.forall_mem_cons.mpr ⟨gw_7 170 rfl rfl, List.forall_mem_cons.mpr ⟨gw_7 172 rfl rfl, List.forall_mem_cons.mpr ⟨gw_7 174 rfl rfl, List.forall_mem_cons.mpr ⟨gw_7 176 rfl rfl, List.forall_mem_cons.mpr ⟨gw_7 178 rfl rfl, List.forall_mem_cons.mpr ⟨gw_7 180 rfl rfl, fun _ h => absurd h List.not_mem_nil⟩⟩⟩⟩⟩⟩⟩⟩⟩⟩⟩⟩⟩⟩⟩⟩⟩⟩⟩⟩⟩⟩⟩⟩⟩⟩⟩⟩⟩⟩⟩⟩⟩⟩⟩⟩
theorem gk_X17 (D : va_G) (I : FieldType → ClassId) : gK (gV D I) 22 RX17 TX17 36 tyX17 := ⟨rfl, gi_X17, tyX17_ok, nmX17⟩
theorem gfs_X17 : ∀ j, j < 36 → defaultValue (tyX17 j) = vp_V [.null, .null, .null, .null, .null, .null, .null, .null, .null, .int 0, .int 0, .int 0, .int 0, .int 0, .int 0, .null, .null, .null, .null, .null, .null, .null, .null, .int 0, .int 0, .int 0, .int 0, .int 0, .null, .null, .int 0, .null, .int 0, .int 0, .int 0, .null] j := by
  intro j hj
  rcases (show j = 0 ∨ j = 1 ∨ j = 2 ∨ j = 3 ∨ j = 4 ∨ j = 5 ∨ j = 6 ∨ j = 7 ∨ j = 8 ∨ j = 9 ∨ j = 10 ∨ j = 11 ∨ j = 12 ∨ j = 13 ∨ j = 14 ∨ j = 15 ∨ j = 16 ∨ j = 17 ∨ j = 18 ∨ j = 19 ∨ j = 20 ∨ j = 21 ∨ j = 22 ∨ j = 23 ∨ j = 24 ∨ j = 25 ∨ j = 26 ∨ j = 27 ∨ j = 28 ∨ j = 29 ∨ j = 30 ∨ j = 31 ∨ j = 32 ∨ j = 33 ∨ j = 34 ∨ j = 35 by omega) with rfl | rfl | rfl | rfl | rfl | rfl | rfl | rfl | rfl | rfl | rfl | rfl | rfl | rfl | rfl | rfl | rfl | rfl | rfl | rfl | rfl | rfl | rfl | rfl | rfl | rfl | rfl | rfl | rfl | rfl | rfl | rfl | rfl | rfl | rfl | rfl <;> rfl
theorem ga_int (cA : ClassId) (n : Nat) : vp_cell cA (n, .inl (fun _ => 0)) = arrV cA n (fun _ => defaultValue .int) := rfl
theorem ga_byte (cA : ClassId) (n : Nat) : vp_cell cA (n, .inl (fun _ => 0)) = arrV cA n (fun _ => defaultValue .byte) := rfl
theorem ga_boolean (cA : ClassId) (n : Nat) : vp_cell cA (n, .inl (fun _ => 0)) = arrV cA n (fun _ => defaultValue .boolean) := rfl
theorem ga_long (cA : ClassId) (n : Nat) : vp_cell cA (n, .inr (.inl (fun _ => 0))) = arrV cA n (fun _ => defaultValue .long) := rfl
section GEQ
variable {v : gEnv} {l : Launch} {R : Room} {Qf : gFin} {k : gKey} {pc : Nat} {L : List (Nat × Value)} {st : List Value} {ws : va_W} {cs sl : Nat}
theorem G_eqi {x y : Int32} (h : x = y) (n : G v l R Qf k pc L (.int y :: st) ws cs sl) : G v l R Qf k pc L (.int x :: st) ws cs sl := h ▸ n
theorem G_ws {ws' : va_W} {cs' sl' : Nat} (h : ws = ws') (h1 : cs = cs') (h2 : sl = sl') (n : G v l R Qf k pc L st ws' cs' sl') : G v l R Qf k pc L st ws cs sl := by subst h; subst h1; subst h2; exact n
theorem G_eql {x y : Int64} (h : x = y) (n : G v l R Qf k pc L (.long y :: st) ws cs sl) : G v l R Qf k pc L (.long x :: st) ws cs sl := h ▸ n
end GEQ
