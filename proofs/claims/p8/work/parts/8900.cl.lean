/-! the class's cells: what its methods keep -/
abbrev gCv := (Nat → Int32) × Int32 × Int32 × (Nat → Int32) × (Nat → Int32) × (Nat → Int32) × (Nat → Int32)
set_option maxRecDepth 100000 in
def clS (D : va_G) (I : FieldType → ClassId) (x : Nat) (A : va_W) (n : Int) (c : gCv) : Prop := ∃ (qq : Nat → Nat) (pp : Nat → Int32) (ff : Nat → Nat → Int32) (gg : Nat → Nat → Int64) (ll : Nat → Int64), A = [(x, .inr (16, [.ref (qq 0), .ref (qq 1), .ref (qq 2), .ref (qq 3), .ref (qq 4), .ref (qq 5), .ref (qq 6), .int (pp 0)])), ((qq 0), .inr (15, [.ref (qq 7), .int (pp 1)])), ((qq 1), .inr (13, [.ref (qq 8), .ref (qq 9), .int (pp 2), .int (pp 3), .int (pp 4), .long (ll 0), .int (pp 5), .int (pp 6), .int (pp 7), .int (pp 8), .int (pp 9), .int (pp 10)])), ((qq 2), .inr (5, [.ref (qq 10), .ref (qq 11), .ref (qq 12), .ref (qq 13), .ref (qq 14), .ref (qq 15), .ref (qq 16), .ref (qq 17), .ref (qq 18), .int (pp 11), .int (pp 12), .int (pp 13)])), ((qq 3), .inr (11, [.ref (qq 19), .ref (qq 20), .ref (qq 21)])), ((qq 4), .inr (7, [.ref (qq 3), .ref (qq 22), .ref (qq 23), .ref (qq 24), .ref (qq 25), .ref (qq 26), .ref (qq 27), .ref (qq 28), .ref (qq 29), .ref (qq 30), .int (pp 14), .int (pp 15), .int (pp 16), .int (pp 17), .int (pp 18), .int (pp 19)])), ((qq 5), .inr (12, [.ref (qq 31), .ref (qq 32), .ref (qq 33), .ref (qq 34), .int (pp 20), .int (pp 21), .int (pp 22), .int (pp 23), .int (pp 24), .int (pp 25), .int (pp 26)])), ((qq 6), .inr (9, [.ref (qq 35), .int (pp 27)])), ((qq 7), .inl (I .byte, 8192, .inl (ff 0))), ((qq 8), .inr (14, [.ref (qq 0), .int (pp 28), .int (pp 29), .int (pp 30), .int (pp 31)])), ((qq 9), .inl (I .int, 80, .inl (ff 1))), ((qq 10), .inl (I .int, 40, .inl (ff 2))), ((qq 11), .inl (I .int, 40, .inl (ff 3))), ((qq 12), .inl (I .int, 40, .inl (ff 4))), ((qq 13), .inl (I .int, 200, .inl (ff 5))), ((qq 14), .inl (I .int, 200, .inl (ff 6))), ((qq 15), .inl (I .int, 200, .inl (ff 7))), ((qq 16), .inl (I .int, 200, .inl (ff 8))), ((qq 17), .inl (I .int, 200, .inl (ff 9))), ((qq 18), .inl (I .int, 200, .inl (ff 10))), ((qq 19), .inl (I .long, 40, .inr (.inl (gg 0)))), ((qq 20), .inl (I .long, 40, .inr (.inl (gg 1)))), ((qq 21), .inl (I .int, 40, .inl (ff 11))), ((qq 22), .inr (8, [.ref (qq 36), .ref (qq 37), .ref (qq 38), .ref (qq 39), .int (pp 32), .int (pp 33)])), ((qq 23), .inr (6, [.ref (qq 22), .ref (qq 40), .ref (qq 41), .ref (qq 42), .ref (qq 43), .ref (qq 44), .int (pp 34), .int (pp 35)])), ((qq 24), .inl (I .int, 100, .inl (ff 12))), ((qq 25), .inl (I .int, 100, .inl (ff 13))), ((qq 26), .inl (I .int, 40, .inl (ff 14))), ((qq 27), .inl (I .int, 100, .inl (ff 15))), ((qq 28), .inl (I .int, 100, .inl (ff 16))), ((qq 29), .inr (5, [.ref (qq 45), .ref (qq 46), .ref (qq 47), .ref (qq 48), .ref (qq 49), .ref (qq 50), .ref (qq 51), .ref (qq 52), .ref (qq 53), .int (pp 36), .int (pp 37), .int (pp 38)])), ((qq 30), .inr (5, [.ref (qq 54), .ref (qq 55), .ref (qq 56), .ref (qq 57), .ref (qq 58), .ref (qq 59), .ref (qq 60), .ref (qq 61), .ref (qq 62), .int (pp 39), .int (pp 40), .int (pp 41)])), ((qq 31), .inl (I .int, 2048, .inl (ff 17))), ((qq 32), .inl (I .int, 100, .inl (ff 18))), ((qq 33), .inl (I .int, 100, .inl (ff 19))), ((qq 34), .inl (I .int, 512, .inl (ff 20))), ((qq 35), .inl (I .byte, 16384, .inl (ff 21))), ((qq 36), .inr (10, [.ref (qq 63), .ref (qq 64), .ref (qq 65), .ref (qq 66), .int (pp 42), .int (pp 43), .int (pp 44)])), ((qq 37), .inl (I .long, 8640, .inr (.inl (gg 2)))), ((qq 38), .inl (I .long, 12, .inr (.inl (gg 3)))), ((qq 39), .inl (I .int, 720, .inl (ff 22))), ((qq 40), .inl (I .int, 720, .inl (ff 23))), ((qq 41), .inl (I .int, 720, .inl (ff 24))), ((qq 42), .inl (I .int, 720, .inl (ff 25))), ((qq 43), .inl (I .int, 720, .inl (ff 26))), ((qq 44), .inl (I .int, 720, .inl (ff 27))), ((qq 45), .inl (I .int, 40, .inl (ff 28))), ((qq 46), .inl (I .int, 40, .inl (ff 29))), ((qq 47), .inl (I .int, 40, .inl (ff 30))), ((qq 48), .inl (I .int, 920, .inl (ff 31))), ((qq 49), .inl (I .int, 920, .inl (ff 32))), ((qq 50), .inl (I .int, 920, .inl (ff 33))), ((qq 51), .inl (I .int, 920, .inl (ff 34))), ((qq 52), .inl (I .int, 920, .inl (ff 35))), ((qq 53), .inl (I .int, 920, .inl (ff 36))), ((qq 54), .inl (I .int, 40, .inl (ff 37))), ((qq 55), .inl (I .int, 40, .inl (ff 38))), ((qq 56), .inl (I .int, 40, .inl (ff 39))), ((qq 57), .inl (I .int, 920, .inl (ff 40))), ((qq 58), .inl (I .int, 920, .inl (ff 41))), ((qq 59), .inl (I .int, 920, .inl (ff 42))), ((qq 60), .inl (I .int, 920, .inl (ff 43))), ((qq 61), .inl (I .int, 920, .inl (ff 44))), ((qq 62), .inl (I .int, 920, .inl (ff 45))), ((qq 63), .inl (I .long, 480, .inr (.inl (gg 4)))), ((qq 64), .inl (I .long, 480, .inr (.inl (gg 5)))), ((qq 65), .inl (I .long, 480, .inr (.inl (gg 6)))), ((qq 66), .inl (I .long, 12, .inr (.inl (gg 7))))] ∧ gB (pp 0) 0 1 ∧ gB (pp 1) 0 8192 ∧ gB (pp 7) 0 13 ∧ gB (pp 11) 0 40 ∧ gB (pp 12) 0 200 ∧ gB (pp 13) 0 1 ∧ gB (pp 14) 0 720 ∧ gB (pp 19) 0 1 ∧ gB (pp 20) 0 2048 ∧ gB (pp 21) 0 39 ∧ gB (pp 23) 0 512 ∧ gB (pp 25) 0 2048 ∧ gB (pp 27) 0 16384 ∧ gF (ff 0) (-128) 127 ∧ gF (ff 2) 0 200 ∧ gF (ff 5) 0 21 ∧ gB (pp 32) 0 720 ∧ gB (pp 33) 0 12 ∧ gB (pp 34) 0 720 ∧ gB (pp 35) 0 720 ∧ gB (pp 36) 0 40 ∧ gB (pp 37) 0 920 ∧ gB (pp 38) 0 1 ∧ gB (pp 39) 0 40 ∧ gB (pp 40) 0 920 ∧ gB (pp 41) 0 1 ∧ gF (ff 21) (-128) 127 ∧ gB (pp 42) 0 720 ∧ gB (pp 43) 0 12 ∧ gB (pp 44) 0 1 ∧ gF (ff 25) 0 719 ∧ gF (ff 26) 0 719 ∧ gF (ff 28) 0 920 ∧ gF (ff 31) 0 21 ∧ gF (ff 37) 0 920 ∧ gF (ff 40) 0 21 ∧ ((pp 28).toInt ≠ 5 ∨ (0 ≤ (pp 29).toInt ∧ (pp 29).toInt ≤ 13)) ∧ (pp 33).toInt = ((pp 32).toInt + 63) / 64 ∧ lb_W (gg 2) ((pp 32).toInt * (pp 33).toInt) ((pp 33).toInt) ((pp 32).toInt) ∧ (pp 43).toInt = ((pp 42).toInt + 63) / 64 ∧ (pp 1).toInt = n ∧ c = ((ff 0), (pp 0), (pp 11), (ff 11), (ff 12), (ff 13), (ff 14))
def cwP (I : FieldType → ClassId) (o : Nat) (Q : Int32 → va_W → (Nat → Int64) → Prop) : Option Value → va_W → Prop := fun r w => ∃ (A1 : va_W) (k : Int32) (f1 : Nat → Int64), r = some (.int k) ∧ w = A1 ++ [(o, .inl (I .long, 1, .inr (.inl f1)))] ∧ Q k A1 f1
theorem gB_in1 : vp_in 0 1 := gB_inr (show (0 : Int) ≤ Int32.toInt 0 by decide) (show Int32.toInt 0 < ((1 : Nat) : Int) by decide)
/-- what text leaves of the values -/
def txC (B : Nat → Int32) (n : Int) (c : gCv) : Prop := (c.2.1.toInt = 1 ∧ ∃ P, okP (bA B n) n P ∧ c.2.2.1.toInt = (P.1 : Int) ∧ lkS P c.2.2.2.1 c.2.2.2.2.1 c.2.2.2.2.2.1 c.2.2.2.2.2.2) ∨ (c.2.1.toInt = 0 ∧ ∀ P, ¬ okP (bA B n) n P)
set_option maxRecDepth 100000 in
set_option maxHeartbeats 4000000 in
theorem Gl_input {l : Launch} {R : Room} {Qf : gFin} {k : gKey} {pc cs sl i x : Nat} {Lv : List (Nat × Value)} {st : List Value} {A Y : va_W} {n : Int} {c : gCv} {D : va_G} {I : FieldType → ClassId} (hl0 : l.stackTraces = false) (d : decode k.1 pc = .ok (.invokevirtual i, 3)) (hw : gCw (gV D I) R k.2.2.1 i yX11_input cX11_input 2 (some FieldType.int) 3 66 0) (w2 : Cond.instanceMethod yX11_input ∈ (gV D I).2.2.2.2) (w3 : Cond.selects yX11_input.cls yX11_input yX11_input ∈ (gV D I).2.2.2.2)
    (hx : clS D I x A n c) (hcs : cs + 0 ≤ R.cells) (hsl : sl + 0 ≤ R.slots) (hcat : (st.map fun u => u.category).sum ≤ 8)
    (kk : ∀ (A1 : va_W) (z : Int32), clS D I x A1 0 c → z.toInt = n / 4 → G (gV D I) l R Qf k (pc + 3) Lv (.int z :: st) (A1 ++ Y) (cs + 0) (sl + 0)) :
    G (gV D I) l R Qf k pc Lv (.ref x :: st) (A ++ Y) cs sl := by
  obtain ⟨qq, pp, ff, gg, ll, rfl, bp86219, bp86220, bp86227, bp86231, bp86232, bp86233, bp86234, bp86239, bp86240, bp86241, bp86243, bp86245, bp86247, bf86248, bf86254, bf86257, bp86266, bp86267, bp86268, bp86269, bp86275, bp86276, bp86277, bp86278, bp86279, bp86280, bf86285, bp86286, bp86287, bp86288, bf86294, bf86295, bf86297, bf86300, bf86306, bf86309, x86319, x86320, x86321, x86322, hsz, rfl⟩ := hx
  refine Gf_1V (As := []) (gV_ok D I) (ct_80558_SpillForge_input l hl0 D I x (qq 0) (qq 1) (qq 2) (qq 3) (qq 4) (qq 5) (qq 6) (qq 7) (qq 8) (qq 9) (qq 10) (qq 11) (qq 12) (qq 13) (qq 14) (qq 15) (qq 16) (qq 17) (qq 18) (qq 19) (qq 20) (qq 21) (qq 22) (qq 23) (qq 24) (qq 25) (qq 26) (qq 27) (qq 28) (qq 29) (qq 30) (qq 31) (qq 32) (qq 33) (qq 34) (qq 35) (qq 36) (qq 37) (qq 38) (qq 39) (qq 40) (qq 41) (qq 42) (qq 43) (qq 44) (qq 45) (qq 46) (qq 47) (qq 48) (qq 49) (qq 50) (qq 51) (qq 52) (qq 53) (qq 54) (qq 55) (qq 56) (qq 57) (qq 58) (qq 59) (qq 60) (qq 61) (qq 62) (qq 63) (qq 64) (qq 65) (qq 66) (pp 0) (pp 1) (pp 2) (pp 3) (pp 4) (ll 0) (pp 5) (pp 6) (pp 7) (pp 8) (pp 9) (pp 10) (pp 11) (pp 12) (pp 13) (pp 14) (pp 15) (pp 16) (pp 17) (pp 18) (pp 19) (pp 20) (pp 21) (pp 22) (pp 23) (pp 24) (pp 25) (pp 26) (pp 27) (ff 0) (pp 28) (pp 29) (pp 30) (pp 31) (ff 1) (ff 2) (ff 3) (ff 4) (ff 5) (ff 6) (ff 7) (ff 8) (ff 9) (ff 10) (gg 0) (gg 1) (ff 11) (pp 32) (pp 33) (pp 34) (pp 35) (ff 12) (ff 13) (ff 14) (ff 15) (ff 16) (pp 36) (pp 37) (pp 38) (pp 39) (pp 40) (pp 41) (ff 17) (ff 18) (ff 19) (ff 20) (ff 21) (pp 42) (pp 43) (pp 44) (gg 2) (gg 3) (ff 22) (ff 23) (ff 24) (ff 25) (ff 26) (ff 27) (ff 28) (ff 29) (ff 30) (ff 31) (ff 32) (ff 33) (ff 34) (ff 35) (ff 36) (ff 37) (ff 38) (ff 39) (ff 40) (ff 41) (ff 42) (ff 43) (ff 44) (ff 45) (gg 4) (gg 5) (gg 6) (gg 7) bp86219 bp86220 bp86227 bp86231 bp86232 bp86233 bp86234 bp86239 bp86240 bp86241 bp86243 bp86245 bp86247 bf86248 bf86254 bf86257 bp86266 bp86267 bp86268 bp86269 bp86275 bp86276 bp86277 bp86278 bp86279 bp86280 bf86285 bp86286 bp86287 bp86288 bf86294 bf86295 bf86297 bf86300 bf86306 bf86309 x86319 x86320 x86321 x86322) d hw w2 w3 0 rfl rfl hcs hsl hcat (fun r w hp => ?_) (fun _ _ _ z => z.elim)
  refine Exists.elim hp fun o80570 hp => ?_
  refine Exists.elim hp fun o80567 hp => ?_
  refine Exists.elim hp fun o80568 hp => ?_
  refine Exists.elim hp fun f80569 hp => ?_
  obtain ⟨rfl, rfl, y0, y1, y2, y3, y4, y5, y6⟩ := hp
  exact kk _ o80570 ⟨qq, (fun j => [(pp 0), o80567, (pp 2), (pp 3), (pp 4), (pp 5), (pp 6), (pp 7), (pp 8), (pp 9), (pp 10), (pp 11), (pp 12), (pp 13), (pp 14), (pp 15), (pp 16), (pp 17), (pp 18), (pp 19), o80568, (pp 21), (pp 22), (pp 23), (pp 24), (pp 25), (pp 26), (pp 27), (pp 28), (pp 29), (pp 30), (pp 31), (pp 32), (pp 33), (pp 34), (pp 35), (pp 36), (pp 37), (pp 38), (pp 39), (pp 40), (pp 41), (pp 42), (pp 43), (pp 44)].getD j 0), (fun j => [(ff 0), (ff 1), (ff 2), (ff 3), (ff 4), (ff 5), (ff 6), (ff 7), (ff 8), (ff 9), (ff 10), (ff 11), (ff 12), (ff 13), (ff 14), (ff 15), (ff 16), f80569, (ff 18), (ff 19), (ff 20), (ff 21), (ff 22), (ff 23), (ff 24), (ff 25), (ff 26), (ff 27), (ff 28), (ff 29), (ff 30), (ff 31), (ff 32), (ff 33), (ff 34), (ff 35), (ff 36), (ff 37), (ff 38), (ff 39), (ff 40), (ff 41), (ff 42), (ff 43), (ff 44), (ff 45)].getD j (fun _ => 0)), gg, ll, rfl, bp86219, y1, bp86227, bp86231, bp86232, bp86233, bp86234, bp86239, y2, bp86241, bp86243, bp86245, bp86247, bf86248, bf86254, bf86257, bp86266, bp86267, bp86268, bp86269, bp86275, bp86276, bp86277, bp86278, bp86279, bp86280, bf86285, bp86286, bp86287, bp86288, bf86294, bf86295, bf86297, bf86300, bf86306, bf86309, x86319, x86320, x86321, x86322, (show (o80567).toInt = 0 by omega), rfl⟩ (show (o80570).toInt = n / 4 by omega)
set_option maxRecDepth 100000 in
set_option maxHeartbeats 4000000 in
theorem Gl_text {l : Launch} {R : Room} {Qf : gFin} {k : gKey} {pc cs sl i x : Nat} {Lv : List (Nat × Value)} {st : List Value} {A Y : va_W} {n : Int} {c : gCv} {D : va_G} {I : FieldType → ClassId} (hl0 : l.stackTraces = false) (d : decode k.1 pc = .ok (.invokevirtual i, 3)) (hw : gCw (gV D I) R k.2.2.1 i yX11_text cX11_text 2 (some FieldType.int) 9 196 0) (w2 : Cond.instanceMethod yX11_text ∈ (gV D I).2.2.2.2) (w3 : Cond.selects yX11_text.cls yX11_text yX11_text ∈ (gV D I).2.2.2.2)
    (hx : clS D I x A n c) (hcs : cs + 0 ≤ R.cells) (hsl : sl + 0 ≤ R.slots) (hcat : (st.map fun u => u.category).sum ≤ 8)
    (kk : ∀ (A1 : va_W) (z : Int32) (c1 : gCv), clS D I x A1 0 c1 → txC c.1 n c1 → G (gV D I) l R Qf k (pc + 3) Lv (.int z :: st) (A1 ++ Y) (cs + 0) (sl + 0)) :
    G (gV D I) l R Qf k pc Lv (.ref x :: st) (A ++ Y) cs sl := by
  obtain ⟨qq, pp, ff, gg, ll, rfl, bp86219, bp86220, bp86227, bp86231, bp86232, bp86233, bp86234, bp86239, bp86240, bp86241, bp86243, bp86245, bp86247, bf86248, bf86254, bf86257, bp86266, bp86267, bp86268, bp86269, bp86275, bp86276, bp86277, bp86278, bp86279, bp86280, bf86285, bp86286, bp86287, bp86288, bf86294, bf86295, bf86297, bf86300, bf86306, bf86309, x86319, x86320, x86321, x86322, hsz, rfl⟩ := hx
  refine Gf_1V (As := []) (gV_ok D I) (ct_80743_SpillForge_text l hl0 D I x (qq 0) (qq 1) (qq 2) (qq 3) (qq 4) (qq 5) (qq 6) (qq 7) (qq 8) (qq 9) (qq 10) (qq 11) (qq 12) (qq 13) (qq 14) (qq 15) (qq 16) (qq 17) (qq 18) (qq 19) (qq 20) (qq 21) (qq 22) (qq 23) (qq 24) (qq 25) (qq 26) (qq 27) (qq 28) (qq 29) (qq 30) (qq 31) (qq 32) (qq 33) (qq 34) (qq 35) (qq 36) (qq 37) (qq 38) (qq 39) (qq 40) (qq 41) (qq 42) (qq 43) (qq 44) (qq 45) (qq 46) (qq 47) (qq 48) (qq 49) (qq 50) (qq 51) (qq 52) (qq 53) (qq 54) (qq 55) (qq 56) (qq 57) (qq 58) (qq 59) (qq 60) (qq 61) (qq 62) (qq 63) (qq 64) (qq 65) (qq 66) (pp 0) (pp 1) (pp 2) (pp 3) (pp 4) (ll 0) (pp 5) (pp 6) (pp 7) (pp 8) (pp 9) (pp 10) (pp 11) (pp 12) (pp 13) (pp 14) (pp 15) (pp 16) (pp 17) (pp 18) (pp 19) (pp 20) (pp 21) (pp 22) (pp 23) (pp 24) (pp 25) (pp 26) (pp 27) (ff 0) (pp 28) (pp 29) (pp 30) (pp 31) (ff 1) (ff 2) (ff 3) (ff 4) (ff 5) (ff 6) (ff 7) (ff 8) (ff 9) (ff 10) (gg 0) (gg 1) (ff 11) (pp 32) (pp 33) (pp 34) (pp 35) (ff 12) (ff 13) (ff 14) (ff 15) (ff 16) (pp 36) (pp 37) (pp 38) (pp 39) (pp 40) (pp 41) (ff 17) (ff 18) (ff 19) (ff 20) (ff 21) (pp 42) (pp 43) (pp 44) (gg 2) (gg 3) (ff 22) (ff 23) (ff 24) (ff 25) (ff 26) (ff 27) (ff 28) (ff 29) (ff 30) (ff 31) (ff 32) (ff 33) (ff 34) (ff 35) (ff 36) (ff 37) (ff 38) (ff 39) (ff 40) (ff 41) (ff 42) (ff 43) (ff 44) (ff 45) (gg 4) (gg 5) (gg 6) (gg 7) bp86219 bp86220 bp86227 bp86231 bp86232 bp86233 bp86234 bp86239 bp86240 bp86241 bp86243 bp86245 bp86247 bf86248 bf86254 bf86257 bp86266 bp86267 bp86268 bp86269 bp86275 bp86276 bp86277 bp86278 bp86279 bp86280 bf86285 bp86286 bp86287 bp86288 bf86294 bf86295 bf86297 bf86300 bf86306 bf86309 x86319 x86320 x86321 x86322) d hw w2 w3 0 rfl rfl hcs hsl hcat (fun r w hp => ?_) (fun _ _ _ z => z.elim)
  refine Exists.elim hp fun o80890 hp => ?_
  refine Exists.elim hp fun o80823 hp => ?_
  refine Exists.elim hp fun o80824 hp => ?_
  refine Exists.elim hp fun o80825 hp => ?_
  refine Exists.elim hp fun o80826 hp => ?_
  refine Exists.elim hp fun o80827 hp => ?_
  refine Exists.elim hp fun ol80828 hp => ?_
  refine Exists.elim hp fun o80829 hp => ?_
  refine Exists.elim hp fun o80830 hp => ?_
  refine Exists.elim hp fun o80831 hp => ?_
  refine Exists.elim hp fun o80832 hp => ?_
  refine Exists.elim hp fun o80833 hp => ?_
  refine Exists.elim hp fun o80834 hp => ?_
  refine Exists.elim hp fun o80835 hp => ?_
  refine Exists.elim hp fun o80836 hp => ?_
  refine Exists.elim hp fun o80837 hp => ?_
  refine Exists.elim hp fun o80838 hp => ?_
  refine Exists.elim hp fun o80839 hp => ?_
  refine Exists.elim hp fun o80840 hp => ?_
  refine Exists.elim hp fun o80841 hp => ?_
  refine Exists.elim hp fun f80842 hp => ?_
  refine Exists.elim hp fun f80843 hp => ?_
  refine Exists.elim hp fun f80844 hp => ?_
  refine Exists.elim hp fun f80845 hp => ?_
  refine Exists.elim hp fun f80846 hp => ?_
  refine Exists.elim hp fun f80847 hp => ?_
  refine Exists.elim hp fun f80848 hp => ?_
  refine Exists.elim hp fun f80849 hp => ?_
  refine Exists.elim hp fun f80850 hp => ?_
  refine Exists.elim hp fun f80851 hp => ?_
  refine Exists.elim hp fun o80852 hp => ?_
  refine Exists.elim hp fun o80853 hp => ?_
  refine Exists.elim hp fun o80854 hp => ?_
  refine Exists.elim hp fun o80855 hp => ?_
  refine Exists.elim hp fun o80856 hp => ?_
  refine Exists.elim hp fun o80857 hp => ?_
  refine Exists.elim hp fun f80858 hp => ?_
  refine Exists.elim hp fun f80859 hp => ?_
  refine Exists.elim hp fun f80860 hp => ?_
  refine Exists.elim hp fun o80861 hp => ?_
  refine Exists.elim hp fun o80862 hp => ?_
  refine Exists.elim hp fun f80863 hp => ?_
  refine Exists.elim hp fun f80864 hp => ?_
  refine Exists.elim hp fun f80865 hp => ?_
  refine Exists.elim hp fun f80866 hp => ?_
  refine Exists.elim hp fun o80867 hp => ?_
  refine Exists.elim hp fun o80868 hp => ?_
  refine Exists.elim hp fun o80869 hp => ?_
  refine Exists.elim hp fun o80870 hp => ?_
  refine Exists.elim hp fun o80871 hp => ?_
  refine Exists.elim hp fun o80872 hp => ?_
  refine Exists.elim hp fun f80873 hp => ?_
  refine Exists.elim hp fun f80874 hp => ?_
  refine Exists.elim hp fun f80875 hp => ?_
  refine Exists.elim hp fun f80876 hp => ?_
  refine Exists.elim hp fun f80877 hp => ?_
  refine Exists.elim hp fun f80878 hp => ?_
  refine Exists.elim hp fun f80879 hp => ?_
  refine Exists.elim hp fun f80880 hp => ?_
  refine Exists.elim hp fun f80881 hp => ?_
  refine Exists.elim hp fun f80882 hp => ?_
  refine Exists.elim hp fun f80883 hp => ?_
  refine Exists.elim hp fun f80884 hp => ?_
  refine Exists.elim hp fun f80885 hp => ?_
  refine Exists.elim hp fun f80886 hp => ?_
  refine Exists.elim hp fun f80887 hp => ?_
  refine Exists.elim hp fun f80888 hp => ?_
  refine Exists.elim hp fun f80889 hp => ?_
  obtain ⟨rfl, rfl, y0, y1, y2, y3, y4, y5, y6, y7, y8, y9, y10, y11, y12, y13, y14, y15, y16, y17, y18, y19, y20, y21, y22, y23, y24, y25, y26, y27, y28, y29, y30, y31, y32, y33, y34, y35, y36, y37, y38, y39, y40, y41, y42, y43, y44, y45, y46, y47, y48, y49, y50, y51, y52, y53, y54, y55, y56, y57, y58, y59, y60, y61, y62, y63, y64⟩ := hp
  have ht := tx_tr bp86220.1 bp86220.2 y64
  rw [hsz] at ht
  exact kk _ o80890 ((ff 0), o80823, o80835, f80860, f80863, f80864, f80865) ⟨qq, (fun j => [o80823, o80824, o80825, o80826, o80827, o80829, o80830, o80831, o80832, o80833, o80834, o80835, o80836, o80837, o80852, o80853, o80854, o80855, o80856, o80857, (pp 20), (pp 21), (pp 22), (pp 23), (pp 24), (pp 25), (pp 26), (pp 27), o80838, o80839, o80840, o80841, o80861, o80862, (pp 34), (pp 35), o80867, o80868, o80869, (pp 39), (pp 40), (pp 41), o80870, o80871, o80872].getD j 0), (fun j => [(ff 0), f80842, f80843, f80844, f80845, f80846, f80847, f80848, f80849, f80850, f80851, f80860, f80863, f80864, f80865, f80866, (ff 16), (ff 17), (ff 18), (ff 19), (ff 20), (ff 21), f80875, f80876, (ff 24), (ff 25), (ff 26), (ff 27), f80877, f80878, f80879, f80880, f80881, f80882, f80883, f80884, f80885, (ff 37), (ff 38), (ff 39), (ff 40), (ff 41), (ff 42), (ff 43), (ff 44), (ff 45)].getD j (fun _ => 0)), (fun j => [f80858, f80859, f80873, f80874, f80886, f80887, f80888, f80889].getD j (fun _ => 0)), (fun j => [ol80828].getD j 0), rfl, y1, y2, y8, y12, y13, y14, y29, y34, bp86240, bp86241, bp86243, bp86245, bp86247, bf86248, y20, y23, y36, y37, bp86268, bp86269, y42, y43, y44, bp86278, bp86279, bp86280, bf86285, y45, y46, y47, bf86294, bf86295, y50, y53, bf86306, bf86309, y60, y61, y62, y63, (show (o80824).toInt = 0 by omega), rfl⟩ (ht.2.imp (fun q => ⟨q.1, q.2.2.elim fun P r => ⟨P, r.1, r.2.1.1, r.2.2⟩⟩) (fun q => ⟨q.1, q.2.2⟩))
