def tr_RPreconditions_checkIndex (a0 : Int32) (a1 : Int32) : Prop := ∀ R : Prop,
  (a0.toInt < a1.toInt → R) →
  R
def tr_RObjects_checkIndex (a0 : Int32) (a1 : Int32) : Prop := ∀ R : Prop,
  (tr_RPreconditions_checkIndex a0 a1 → R) →
  R
def tr_RArrayList_get (a1 : Int32) (a0_size : Int32) : Prop := ∀ R : Prop,
  (tr_RObjects_checkIndex a1 a0_size → R) →
  R
def tr_RArrayList_add2 (a3 : Int32) (a2_n : Nat) (o1 : Int32) : Prop := ∀ R : (Int32) → Prop,
  (∀ (x1 : Int32) (x2 : Int32), x1.toInt = (a2_n : Nat) → a3.toInt ≠ x1.toInt → x2.toInt = a3.toInt + 1 → R x2) →
  R o1
def tr_RArrayList_add (a0_modCount : Int32) (a0_size : Int32) (a0_elementData_n : Nat) (o1 : Int32) (o2 : Int32) : Prop := ∀ R : (Int32) → (Int32) → Prop,
  (∀ (x1 : Int32) (x2 : Int32), x1 = a0_modCount + (1 : Int32) → gB x2 1 16777217 → tr_RArrayList_add2 a0_size a0_elementData_n x2 → R x1 x2) →
  R o1 o2
def tr_RArrayList_add4 (a3 : Int32) (a2_n : Nat) (o1 : Int32) : Prop := ∀ R : (Int32) → Prop,
  (∀ (x1 : Int32) (x2 : Int32), x1.toInt = (a2_n : Nat) → a3.toInt ≠ x1.toInt → x2.toInt = a3.toInt + 1 → R x2) →
  R o1
def tr_RArrayList_add3 (a0_modCount : Int32) (a0_size : Int32) (a0_elementData_n : Nat) (o1 : Int32) (o2 : Int32) : Prop := ∀ R : (Int32) → (Int32) → Prop,
  (∀ (x1 : Int32) (x2 : Int32), x1 = a0_modCount + (1 : Int32) → gB x2 1 16777217 → tr_RArrayList_add4 a0_size a0_elementData_n x2 → R x1 x2) →
  R o1 o2
def tr_RArraysSupport_newLength (a0 : Int32) (a1 : Int32) (a2 : Int32) (o1 : Int32) : Prop := ∀ R : (Int32) → Prop,
  (∀ (x1 : Int32) (x2 : Int32), (a1.toInt ≤ x1.toInt ∧ a2.toInt ≤ x1.toInt ∧ (x1.toInt = a1.toInt ∨ x1.toInt = a2.toInt)) → x2.toInt = a0.toInt + x1.toInt → R x2) →
  R o1
def tr_RArrays_copyOf2 : Prop := ∀ R : Prop,
  (R) →
  R
def tr_RArrays_copyOf : Prop := ∀ R : Prop,
  (tr_RArrays_copyOf2 → R) →
  R
def tr_RArrayList_grow2 (a1 : Int32) (a0_elementData_n : Nat) (o1 : Nat) : Prop := ∀ R : (Nat) → Prop,
  (∀ (x1 : Int32) (x2 : Int32) (x3 : Int32) (x4 : Int32), x1.toInt = (a0_elementData_n : Nat) → 0 < x1.toInt → x2.toInt = a1.toInt - x1.toInt → x3.toInt = x1.toInt / 2 → gB x4 1 33554432 → tr_RArraysSupport_newLength x1 x2 x3 x4 → tr_RArrays_copyOf → R x4.toInt.toNat) →
  R o1
def tr_RArrayList_grow (a0_size : Int32) (a0_elementData_n : Nat) (o1 : Nat) : Prop := ∀ R : (Nat) → Prop,
  (∀ (x1 : Int32) (x2 : Nat), x1.toInt = a0_size.toInt + 1 → tr_RArrayList_grow2 x1 a0_elementData_n x2 → R x2) →
  R o1
def tr_RArrayList_add6 (a3 : Int32) (a0_size : Int32) (a2_n : Nat) (o1 : Int32) (o2 : Nat) : Prop := ∀ R : (Int32) → (Nat) → Prop,
  (∀ (x1 : Int32) (x2 : Nat) (x3 : Int32), x1.toInt = (a2_n : Nat) → a3.toInt = x1.toInt → tr_RArrayList_grow a0_size a2_n x2 → x3.toInt = a3.toInt + 1 → R x3 x2) →
  R o1 o2
def tr_RArrayList_add5 (a0_modCount : Int32) (a0_size : Int32) (a0_elementData_n : Nat) (o1 : Int32) (o2 : Int32) (o3 : Nat) : Prop := ∀ R : (Int32) → (Int32) → (Nat) → Prop,
  (∀ (x1 : Int32) (x2 : Int32) (x3 : Nat), x1 = a0_modCount + (1 : Int32) → gB x2 1 16777217 → tr_RArrayList_add6 a0_size a0_size a0_elementData_n x2 x3 → R x1 x2 x3) →
  R o1 o2 o3
def tr_RArrayList_add8 (a3 : Int32) (a0_size : Int32) (a2_n : Nat) (o1 : Int32) (o2 : Nat) : Prop := ∀ R : (Int32) → (Nat) → Prop,
  (∀ (x1 : Int32) (x2 : Nat) (x3 : Int32), x1.toInt = (a2_n : Nat) → a3.toInt = x1.toInt → tr_RArrayList_grow a0_size a2_n x2 → x3.toInt = a3.toInt + 1 → R x3 x2) →
  R o1 o2
def tr_RArrayList_add7 (a0_modCount : Int32) (a0_size : Int32) (a0_elementData_n : Nat) (o1 : Int32) (o2 : Int32) (o3 : Nat) : Prop := ∀ R : (Int32) → (Int32) → (Nat) → Prop,
  (∀ (x1 : Int32) (x2 : Int32) (x3 : Nat), x1 = a0_modCount + (1 : Int32) → gB x2 1 16777217 → tr_RArrayList_add8 a0_size a0_size a0_elementData_n x2 x3 → R x1 x2 x3) →
  R o1 o2 o3
def tr_RArrayList_grow4 (a1 : Int32) (o1 : Nat) : Prop := ∀ R : (Nat) → Prop,
  (∀ (x1 : Int32), (10 ≤ x1.toInt ∧ a1.toInt ≤ x1.toInt ∧ (x1.toInt = 10 ∨ x1.toInt = a1.toInt)) → R x1.toInt.toNat) →
  R o1
def tr_RArrayList_grow3 (a0_size : Int32) (o1 : Nat) : Prop := ∀ R : (Nat) → Prop,
  (∀ (x1 : Int32) (x2 : Nat), x1.toInt = a0_size.toInt + 1 → tr_RArrayList_grow4 x1 x2 → R x2) →
  R o1
def tr_RArrayList_add10 (a3 : Int32) (a0_size : Int32) (o1 : Int32) (o2 : Nat) : Prop := ∀ R : (Int32) → (Nat) → Prop,
  (∀ (x1 : Nat) (x2 : Int32), a3.toInt = 0 → tr_RArrayList_grow3 a0_size x1 → x2.toInt = a3.toInt + 1 → R x2 x1) →
  R o1 o2
def tr_RArrayList_add9 (a0_modCount : Int32) (a0_size : Int32) (o1 : Int32) (o2 : Int32) (o3 : Nat) : Prop := ∀ R : (Int32) → (Int32) → (Nat) → Prop,
  (∀ (x1 : Int32) (x2 : Int32) (x3 : Nat), x1 = a0_modCount + (1 : Int32) → gB x2 1 1 → tr_RArrayList_add10 a0_size a0_size x2 x3 → R x1 x2 x3) →
  R o1 o2 o3
def tr_RArrayList_add12 (a3 : Int32) (a0_size : Int32) (o1 : Int32) (o2 : Nat) : Prop := ∀ R : (Int32) → (Nat) → Prop,
  (∀ (x1 : Nat) (x2 : Int32), a3.toInt = 0 → tr_RArrayList_grow3 a0_size x1 → x2.toInt = a3.toInt + 1 → R x2 x1) →
  R o1 o2
def tr_RArrayList_add11 (a0_modCount : Int32) (a0_size : Int32) (o1 : Int32) (o2 : Int32) (o3 : Nat) : Prop := ∀ R : (Int32) → (Int32) → (Nat) → Prop,
  (∀ (x1 : Int32) (x2 : Int32) (x3 : Nat), x1 = a0_modCount + (1 : Int32) → gB x2 1 1 → tr_RArrayList_add12 a0_size a0_size x2 x3 → R x1 x2 x3) →
  R o1 o2 o3
def tr_RArrayList_rangeCheckForAdd (a1 : Int32) (a0_size : Int32) : Prop := ∀ R : Prop,
  (a1.toInt ≤ a0_size.toInt → R) →
  R
def tr_RArrayList_add13 (a1 : Int32) (a0_modCount : Int32) (a0_size : Int32) (a0_elementData_n : Nat) (o1 : Int32) (o2 : Int32) : Prop := ∀ R : (Int32) → (Int32) → Prop,
  (∀ (x1 : Int32) (x2 : Int32) (x3 : Int32), tr_RArrayList_rangeCheckForAdd a1 a0_size → x1 = a0_modCount + (1 : Int32) → x2.toInt = (a0_elementData_n : Nat) → a0_size.toInt ≠ x2.toInt → x3.toInt = a0_size.toInt + 1 → R x1 x3) →
  R o1 o2
def tr_RArrayList_add14 (a1 : Int32) (a0_modCount : Int32) (a0_size : Int32) (a0_elementData_n : Nat) (o1 : Int32) (o2 : Int32) (o3 : Nat) : Prop := ∀ R : (Int32) → (Int32) → (Nat) → Prop,
  (∀ (x1 : Int32) (x2 : Int32) (x3 : Nat) (x4 : Int32), tr_RArrayList_rangeCheckForAdd a1 a0_size → x1 = a0_modCount + (1 : Int32) → x2.toInt = (a0_elementData_n : Nat) → a0_size.toInt = x2.toInt → tr_RArrayList_grow a0_size a0_elementData_n x3 → x4.toInt = a0_size.toInt + 1 → R x1 x4 x3) →
  R o1 o2 o3
def tr_RArrayList_rangeCheckForAdd2 (a1 : Int32) (a0_size : Int32) : Prop := ∀ R : Prop,
  (a1.toInt ≤ a0_size.toInt → R) →
  R
def tr_RArrayList_add15 (a1 : Int32) (a0_modCount : Int32) (a0_size : Int32) (o1 : Int32) (o2 : Int32) (o3 : Nat) : Prop := ∀ R : (Int32) → (Int32) → (Nat) → Prop,
  (∀ (x1 : Int32) (x2 : Nat) (x3 : Int32), tr_RArrayList_rangeCheckForAdd2 a1 a0_size → x1 = a0_modCount + (1 : Int32) → a0_size.toInt = 0 → tr_RArrayList_grow3 a0_size x2 → x3.toInt = a0_size.toInt + 1 → R x1 x3 x2) →
  R o1 o2 o3
def tl_RArrayList_clear_27 (a0_size : Int32) (s1 : Int32) (k : Nat) : Prop := ∀ R : (Int32) → Nat → Prop,
  (∀ (l3_1 : Int32), gB l3_1 0 16777216 → a0_size.toInt ≤ l3_1.toInt → R l3_1 42) →
  (∀ (l3_1 : Int32) (x1 : Int32) (k : Nat), gB l3_1 0 16777216 → l3_1.toInt < a0_size.toInt → x1.toInt = l3_1.toInt + 1 → R x1 k → R l3_1 k) →
  R s1 k
def tr_RArrayList_clear (a0_modCount : Int32) (a0_size : Int32) (o1 : Int32) : Prop := ∀ R : (Int32) → Prop,
  (∀ (x1 : Int32), x1 = a0_modCount + (1 : Int32) → tl_RArrayList_clear_27 a0_size (0 : Int32) 42 → R x1) →
  R o1
def tl_RArrayList_clear2_27 (a0_size : Int32) (k : Nat) : Prop := ∀ R : Nat → Prop,
  (a0_size.toInt ≤ 0 → R 42) →
  R k
def tr_RArrayList_clear2 (a0_modCount : Int32) (a0_size : Int32) (o1 : Int32) : Prop := ∀ R : (Int32) → Prop,
  (∀ (x1 : Int32), x1 = a0_modCount + (1 : Int32) → tl_RArrayList_clear2_27 a0_size 42 → R x1) →
  R o1
def tr_RArrayList_fastRemove (a2 : Int32) (a0_modCount : Int32) (a0_size : Int32) (o1 : Int32) (o2 : Int32) : Prop := ∀ R : (Int32) → (Int32) → Prop,
  (∀ (x1 : Int32) (x2 : Int32), x1 = a0_modCount + (1 : Int32) → x2.toInt = a0_size.toInt - 1 → x2.toInt ≤ a2.toInt → R x1 x2) →
  (∀ (x1 : Int32) (x2 : Int32), x1 = a0_modCount + (1 : Int32) → x2.toInt = a0_size.toInt - 1 → a2.toInt < x2.toInt → R x1 x2) →
  R o1 o2
def tr_RArrayList_remove (a1 : Int32) (a0_modCount : Int32) (a0_size : Int32) (o1 : Int32) (o2 : Int32) : Prop := ∀ R : (Int32) → (Int32) → Prop,
  (∀ (x1 : Int32) (x2 : Int32), tr_RObjects_checkIndex a1 a0_size → gB x2 (-1) 16777215 → tr_RArrayList_fastRemove a1 a0_modCount a0_size x1 x2 → R x1 x2) →
  R o1 o2
def tr_RRow_sets (a0_op : Int32) (o1 : Int32) : Prop := ∀ R : (Int32) → Prop,
  (21 < a0_op.toInt → R (0 : Int32)) →
  (a0_op.toInt ≤ 21 → R (1 : Int32)) →
  R o1
def tr_RRow_usesA (a0_op : Int32) (a0_regA : Int32) (o1 : Int32) : Prop := ∀ R : (Int32) → Prop,
  (a0_op.toInt = 20 → R (0 : Int32)) →
  (a0_op.toInt ≠ 20 → a0_op.toInt = 21 → R (0 : Int32)) →
  (a0_op.toInt ≠ 20 → a0_op.toInt ≠ 21 → a0_op.toInt = 30 → R (0 : Int32)) →
  (a0_op.toInt ≠ 20 → a0_op.toInt ≠ 21 → a0_op.toInt ≠ 30 → a0_regA.toInt = 0 → R (0 : Int32)) →
  (a0_op.toInt ≠ 20 → a0_op.toInt ≠ 21 → a0_op.toInt ≠ 30 → a0_regA.toInt ≠ 0 → R (1 : Int32)) →
  R o1
def tr_RRow_usesB (a0_op : Int32) (a0_regB : Int32) (o1 : Int32) : Prop := ∀ R : (Int32) → Prop,
  (a0_op.toInt ≤ 0 → R (0 : Int32)) →
  (0 < a0_op.toInt → 20 ≤ a0_op.toInt → R (0 : Int32)) →
  (0 < a0_op.toInt → a0_op.toInt < 20 → a0_regB.toInt = 0 → R (0 : Int32)) →
  (0 < a0_op.toInt → a0_op.toInt < 20 → a0_regB.toInt ≠ 0 → R (1 : Int32)) →
  R o1
def tr_RModel_setOf (a1 : Int32) (a0_op : Int32) (a0_t : Int32) (a0_slot : Int32) (o1 : Int32) : Prop := ∀ R : (Int32) → Prop,
  (∀ (x1 : Int32), a1.toInt = 0 → gB x1 0 1 → tr_RRow_sets a0_op x1 → x1.toInt = 0 → R (-1 : Int32)) →
  (∀ (x1 : Int32), a1.toInt = 0 → gB x1 0 1 → tr_RRow_sets a0_op x1 → x1.toInt ≠ 0 → R a0_t) →
  (a1.toInt ≠ 0 → a0_op.toInt ≠ 23 → R (-1 : Int32)) →
  (a1.toInt ≠ 0 → a0_op.toInt = 23 → R a0_slot) →
  R o1
def tr_RBlock_ways (a0_first : Int32) (a0_second : Int32) (a0_end_op : Int32) (o1 : Int32) : Prop := ∀ R : (Int32) → Prop,
  (a0_end_op.toInt ≠ 32 → a0_end_op.toInt = 30 → R (1 : Int32)) →
  (a0_end_op.toInt ≠ 32 → a0_end_op.toInt ≠ 30 → a0_first.toInt ≠ a0_second.toInt → R (2 : Int32)) →
  (a0_end_op.toInt ≠ 32 → a0_end_op.toInt ≠ 30 → a0_first.toInt = a0_second.toInt → R (1 : Int32)) →
  (a0_end_op.toInt = 32 → R (0 : Int32)) →
  R o1
def tr_RBlock_way (a1 : Int32) (a0_first : Int32) (a0_second : Int32) (o1 : Int32) : Prop := ∀ R : (Int32) → Prop,
  (a1.toInt ≠ 0 → R a0_second) →
  (a1.toInt = 0 → R a0_first) →
  R o1
def tr_RModel_has (a1 : Int32) (a0_v : Nat → Int64) (o1 : Int32) : Prop := ∀ R : (Int32) → Prop,
  (∀ (x1 : Int32) (x2 : Int64) (x3 : Int64) (x4 : Int64), x1.toInt = a1.toInt / 64 → x2 = a0_v x1.toNatClampNeg → x3 = (x2.toUInt64 >>> (a1.toInt64.toUInt64 &&& Int64.toUInt64 63)).toInt64 → x4 = x3 &&& (1 : Int64) → x4 = (0 : Int64) → R (0 : Int32)) →
  (∀ (x1 : Int32) (x2 : Int64) (x3 : Int64) (x4 : Int64), x1.toInt = a1.toInt / 64 → x2 = a0_v x1.toNatClampNeg → x3 = (x2.toUInt64 >>> (a1.toInt64.toUInt64 &&& Int64.toUInt64 63)).toInt64 → x4 = x3 &&& (1 : Int64) → (¬ x4 = (0 : Int64)) → R (1 : Int32)) →
  R o1
def tr_RModel_set (a1 : Int32) (a0_v : Nat → Int64) (o1 : Nat → Int64) : Prop := ∀ R : (Nat → Int64) → Prop,
  (∀ (x1 : Int32) (x2 : Int64) (x3 : Int64) (x4 : Int64) (x5 : Nat → Int64), x1.toInt = a1.toInt / 64 → x2 = a0_v x1.toNatClampNeg → x3 = (1 : Int64) <<< (a1.toInt64 &&& 63) → x4 = x2 ||| x3 → x5 = vp_updL a0_v x1.toNatClampNeg x4 → R x5) →
  R o1
def tr_RModel_clear (a1 : Int32) (a0_v : Nat → Int64) (o1 : Nat → Int64) : Prop := ∀ R : (Nat → Int64) → Prop,
  (∀ (x1 : Int32) (x2 : Int64) (x3 : Int64) (x4 : Int64) (x5 : Int64) (x6 : Nat → Int64), x1.toInt = a1.toInt / 64 → x2 = a0_v x1.toNatClampNeg → x3 = (1 : Int64) <<< (a1.toInt64 &&& 63) → x4 = x3 ^^^ (-1 : Int64) → x5 = x2 &&& x4 → x6 = vp_updL a0_v x1.toNatClampNeg x5 → R x6) →
  R o1
def tr_RLong_bitCount (a0 : Int64) (o1 : Int32) : Prop := ∀ R : (Int32) → Prop,
  (∀ (x1 : Int64) (x2 : Int64) (x3 : Int64) (x4 : Int64) (x5 : Int64) (x6 : Int64) (x7 : Int64) (x8 : Int64) (x9 : Int64) (x10 : Int64) (x11 : Int64) (x12 : Int64) (x13 : Int64) (x14 : Int64) (x15 : Int64) (x16 : Int64) (x17 : Int32) (x18 : Int32), x1 = (a0.toUInt64 >>> ((1 : Int32).toInt64.toUInt64 &&& Int64.toUInt64 63)).toInt64 → x2 = x1 &&& (6148914691236517205 : Int64) → x3 = a0 - x2 → x4 = x3 &&& (3689348814741910323 : Int64) → x5 = (x3.toUInt64 >>> ((2 : Int32).toInt64.toUInt64 &&& Int64.toUInt64 63)).toInt64 → x6 = x5 &&& (3689348814741910323 : Int64) → x7 = x4 + x6 → x8 = (x7.toUInt64 >>> ((4 : Int32).toInt64.toUInt64 &&& Int64.toUInt64 63)).toInt64 → x9 = x7 + x8 → x10 = x9 &&& (1085102592571150095 : Int64) → x11 = (x10.toUInt64 >>> ((8 : Int32).toInt64.toUInt64 &&& Int64.toUInt64 63)).toInt64 → x12 = x10 + x11 → x13 = (x12.toUInt64 >>> ((16 : Int32).toInt64.toUInt64 &&& Int64.toUInt64 63)).toInt64 → x14 = x12 + x13 → x15 = (x14.toUInt64 >>> ((32 : Int32).toInt64.toUInt64 &&& Int64.toUInt64 63)).toInt64 → x16 = x14 + x15 → x17 = x16.toInt32 → x18 = x17 &&& (127 : Int32) → R x18) →
  R o1
def tl_RModel_count_4 (a0_v : Nat → Int64) (s1 : Int32) (s2 : Int32) (k : Nat) (e1 : Int32) : Prop := ∀ R : (Int32) → (Int32) → Nat → (Int32) → Prop,
  (∀ (l2_1 : Int32) (l1_1 : Int32), gB l2_1 0 32 → 32 ≤ l2_1.toInt → R l2_1 l1_1 25 l1_1) →
  (∀ (l2_1 : Int32) (l1_1 : Int32) (x1 : Int64) (x2 : Int32) (x3 : Int32) (x4 : Int32) (k : Nat) (e1 : Int32), gB l2_1 0 32 → l2_1.toInt < 32 → x1 = a0_v l2_1.toNatClampNeg → gB x2 0 127 → tr_RLong_bitCount x1 x2 → x3 = l1_1 + x2 → x4.toInt = l2_1.toInt + 1 → R x4 x3 k e1 → R l2_1 l1_1 k e1) →
  R s1 s2 k e1
def tr_RModel_count (a0_v : Nat → Int64) (o1 : Int32) : Prop := ∀ R : (Int32) → Prop,
  (∀ (x1 : Int32), tl_RModel_count_4 a0_v (0 : Int32) (0 : Int32) 25 x1 → R x1) →
  R o1
def tr_RModel_result (a0 : Int32) (a1 : Int32) (a2 : Int32) (o1 : Int64) : Prop := ∀ R : (Int64) → Prop,
  (∀ (x1 : Int32) (x2 : Int64) (x3 : Int64), a0.toInt = 1 → x1 = a1 + a2 → x2 = x1.toInt64 → x3 = x2 &&& (4294967295 : Int64) → R x3) →
  (∀ (x1 : Int32) (x2 : Int64) (x3 : Int64), a0.toInt = 2 → x1 = a1 - a2 → x2 = x1.toInt64 → x3 = x2 &&& (4294967295 : Int64) → R x3) →
  (∀ (x1 : Int32) (x2 : Int64) (x3 : Int64), a0.toInt = 3 → x1 = a1 * a2 → x2 = x1.toInt64 → x3 = x2 &&& (4294967295 : Int64) → R x3) →
  (∀ (x1 : Int32) (x2 : Int64) (x3 : Int64), a0.toInt = 4 → a2.toInt ≠ 0 → x1 = a1 / a2 → x2 = x1.toInt64 → x3 = x2 &&& (4294967295 : Int64) → R x3) →
  (a0.toInt = 4 → a2.toInt = 0 → R (4294967296 : Int64)) →
  (∀ (x1 : Int32) (x2 : Int64) (x3 : Int64), a0.toInt = 5 → a2.toInt ≠ 0 → x1 = a1 - a1 / a2 * a2 → x2 = x1.toInt64 → x3 = x2 &&& (4294967295 : Int64) → R x3) →
  (a0.toInt = 5 → a2.toInt = 0 → R (4294967296 : Int64)) →
  (∀ (x1 : Int32) (x2 : Int64) (x3 : Int64), a0.toInt = 6 → x1 = a1 &&& a2 → x2 = x1.toInt64 → x3 = x2 &&& (4294967295 : Int64) → R x3) →
  (∀ (x1 : Int32) (x2 : Int64) (x3 : Int64), a0.toInt = 7 → x1 = a1 ||| a2 → x2 = x1.toInt64 → x3 = x2 &&& (4294967295 : Int64) → R x3) →
  (∀ (x1 : Int32) (x2 : Int64) (x3 : Int64), a0.toInt = 8 → x1 = a1 ^^^ a2 → x2 = x1.toInt64 → x3 = x2 &&& (4294967295 : Int64) → R x3) →
  (∀ (x1 : Int32) (x2 : Int32) (x3 : Int64) (x4 : Int64), a0.toInt = 9 → x1 = a2 &&& (31 : Int32) → x2 = a1 <<< (x1 &&& 31) → x3 = x2.toInt64 → x4 = x3 &&& (4294967295 : Int64) → R x4) →
  (∀ (x1 : Int32) (x2 : Int32) (x3 : Int64) (x4 : Int64), a0.toInt = 10 → x1 = a2 &&& (31 : Int32) → x2 = a1 >>> (x1 &&& 31) → x3 = x2.toInt64 → x4 = x3 &&& (4294967295 : Int64) → R x4) →
  (∀ (x1 : Int64) (x2 : Int64), a0.toInt = 11 → a2.toInt ≤ a1.toInt → x1 = (0 : Int32).toInt64 → x2 = x1 &&& (4294967295 : Int64) → R x2) →
  (∀ (x1 : Int64) (x2 : Int64), a0.toInt = 11 → a1.toInt < a2.toInt → x1 = (1 : Int32).toInt64 → x2 = x1 &&& (4294967295 : Int64) → R x2) →
  (∀ (x1 : Int64) (x2 : Int64), a0.toInt = 12 → a2.toInt < a1.toInt → x1 = (0 : Int32).toInt64 → x2 = x1 &&& (4294967295 : Int64) → R x2) →
  (∀ (x1 : Int64) (x2 : Int64), a0.toInt = 12 → a1.toInt ≤ a2.toInt → x1 = (1 : Int32).toInt64 → x2 = x1 &&& (4294967295 : Int64) → R x2) →
  (∀ (x1 : Int64) (x2 : Int64), a0.toInt = 13 → a1.toInt ≠ a2.toInt → x1 = (0 : Int32).toInt64 → x2 = x1 &&& (4294967295 : Int64) → R x2) →
  (∀ (x1 : Int64) (x2 : Int64), a0.toInt = 13 → a1.toInt = a2.toInt → x1 = (1 : Int32).toInt64 → x2 = x1 &&& (4294967295 : Int64) → R x2) →
  (∀ (x1 : Int64) (x2 : Int64), a0.toInt ≠ 1 → a0.toInt ≠ 2 → a0.toInt ≠ 3 → a0.toInt ≠ 4 → a0.toInt ≠ 5 → a0.toInt ≠ 6 → a0.toInt ≠ 7 → a0.toInt ≠ 8 → a0.toInt ≠ 9 → a0.toInt ≠ 10 → a0.toInt ≠ 11 → a0.toInt ≠ 12 → a0.toInt ≠ 13 → a1.toInt = a2.toInt → x1 = (0 : Int32).toInt64 → x2 = x1 &&& (4294967295 : Int64) → R x2) →
  (∀ (x1 : Int64) (x2 : Int64), a0.toInt ≠ 1 → a0.toInt ≠ 2 → a0.toInt ≠ 3 → a0.toInt ≠ 4 → a0.toInt ≠ 5 → a0.toInt ≠ 6 → a0.toInt ≠ 7 → a0.toInt ≠ 8 → a0.toInt ≠ 9 → a0.toInt ≠ 10 → a0.toInt ≠ 11 → a0.toInt ≠ 12 → a0.toInt ≠ 13 → a1.toInt ≠ a2.toInt → x1 = (1 : Int32).toInt64 → x2 = x1 &&& (4294967295 : Int64) → R x2) →
  R o1
def tr_RInteger_numberOfTrailingZeros (a0 : Int32) (o1 : Int32) : Prop := ∀ R : (Int32) → Prop,
  (∀ (x1 : Int32) (x2 : Int32) (x3 : Int32) (x4 : Int32) (x5 : Int32), x1 = a0 ^^^ (-1 : Int32) → x2 = a0 - (1 : Int32) → x3 = x1 &&& x2 → 0 < x3.toInt → x3.toInt ≤ 65536 → x3.toInt ≤ 256 → x3.toInt ≤ 16 → x3.toInt ≤ 4 → x4 = (x3.toUInt32 >>> ((1 : Int32).toUInt32 &&& Int32.toUInt32 31)).toInt32 → x5 = (1 : Int32) + x4 → R x5) →
  (∀ (x1 : Int32) (x2 : Int32) (x3 : Int32) (x4 : Int32) (x5 : Int32) (x6 : Int32), x1 = a0 ^^^ (-1 : Int32) → x2 = a0 - (1 : Int32) → x3 = x1 &&& x2 → 0 < x3.toInt → x3.toInt ≤ 65536 → x3.toInt ≤ 256 → x3.toInt ≤ 16 → 4 < x3.toInt → x4 = (x3.toUInt32 >>> ((2 : Int32).toUInt32 &&& Int32.toUInt32 31)).toInt32 → x5 = (x4.toUInt32 >>> ((1 : Int32).toUInt32 &&& Int32.toUInt32 31)).toInt32 → x6 = (3 : Int32) + x5 → R x6) →
  (∀ (x1 : Int32) (x2 : Int32) (x3 : Int32) (x4 : Int32) (x5 : Int32) (x6 : Int32), x1 = a0 ^^^ (-1 : Int32) → x2 = a0 - (1 : Int32) → x3 = x1 &&& x2 → 0 < x3.toInt → x3.toInt ≤ 65536 → x3.toInt ≤ 256 → 16 < x3.toInt → x4 = (x3.toUInt32 >>> ((4 : Int32).toUInt32 &&& Int32.toUInt32 31)).toInt32 → x4.toInt ≤ 4 → x5 = (x4.toUInt32 >>> ((1 : Int32).toUInt32 &&& Int32.toUInt32 31)).toInt32 → x6 = (5 : Int32) + x5 → R x6) →
  (∀ (x1 : Int32) (x2 : Int32) (x3 : Int32) (x4 : Int32) (x5 : Int32) (x6 : Int32) (x7 : Int32), x1 = a0 ^^^ (-1 : Int32) → x2 = a0 - (1 : Int32) → x3 = x1 &&& x2 → 0 < x3.toInt → x3.toInt ≤ 65536 → x3.toInt ≤ 256 → 16 < x3.toInt → x4 = (x3.toUInt32 >>> ((4 : Int32).toUInt32 &&& Int32.toUInt32 31)).toInt32 → 4 < x4.toInt → x5 = (x4.toUInt32 >>> ((2 : Int32).toUInt32 &&& Int32.toUInt32 31)).toInt32 → x6 = (x5.toUInt32 >>> ((1 : Int32).toUInt32 &&& Int32.toUInt32 31)).toInt32 → x7 = (7 : Int32) + x6 → R x7) →
  (∀ (x1 : Int32) (x2 : Int32) (x3 : Int32) (x4 : Int32) (x5 : Int32) (x6 : Int32), x1 = a0 ^^^ (-1 : Int32) → x2 = a0 - (1 : Int32) → x3 = x1 &&& x2 → 0 < x3.toInt → x3.toInt ≤ 65536 → 256 < x3.toInt → x4 = (x3.toUInt32 >>> ((8 : Int32).toUInt32 &&& Int32.toUInt32 31)).toInt32 → x4.toInt ≤ 16 → x4.toInt ≤ 4 → x5 = (x4.toUInt32 >>> ((1 : Int32).toUInt32 &&& Int32.toUInt32 31)).toInt32 → x6 = (9 : Int32) + x5 → R x6) →
  (∀ (x1 : Int32) (x2 : Int32) (x3 : Int32) (x4 : Int32) (x5 : Int32) (x6 : Int32) (x7 : Int32), x1 = a0 ^^^ (-1 : Int32) → x2 = a0 - (1 : Int32) → x3 = x1 &&& x2 → 0 < x3.toInt → x3.toInt ≤ 65536 → 256 < x3.toInt → x4 = (x3.toUInt32 >>> ((8 : Int32).toUInt32 &&& Int32.toUInt32 31)).toInt32 → x4.toInt ≤ 16 → 4 < x4.toInt → x5 = (x4.toUInt32 >>> ((2 : Int32).toUInt32 &&& Int32.toUInt32 31)).toInt32 → x6 = (x5.toUInt32 >>> ((1 : Int32).toUInt32 &&& Int32.toUInt32 31)).toInt32 → x7 = (11 : Int32) + x6 → R x7) →
  (∀ (x1 : Int32) (x2 : Int32) (x3 : Int32) (x4 : Int32) (x5 : Int32) (x6 : Int32) (x7 : Int32), x1 = a0 ^^^ (-1 : Int32) → x2 = a0 - (1 : Int32) → x3 = x1 &&& x2 → 0 < x3.toInt → x3.toInt ≤ 65536 → 256 < x3.toInt → x4 = (x3.toUInt32 >>> ((8 : Int32).toUInt32 &&& Int32.toUInt32 31)).toInt32 → 16 < x4.toInt → x5 = (x4.toUInt32 >>> ((4 : Int32).toUInt32 &&& Int32.toUInt32 31)).toInt32 → x5.toInt ≤ 4 → x6 = (x5.toUInt32 >>> ((1 : Int32).toUInt32 &&& Int32.toUInt32 31)).toInt32 → x7 = (13 : Int32) + x6 → R x7) →
  (∀ (x1 : Int32) (x2 : Int32) (x3 : Int32) (x4 : Int32) (x5 : Int32) (x6 : Int32) (x7 : Int32) (x8 : Int32), x1 = a0 ^^^ (-1 : Int32) → x2 = a0 - (1 : Int32) → x3 = x1 &&& x2 → 0 < x3.toInt → x3.toInt ≤ 65536 → 256 < x3.toInt → x4 = (x3.toUInt32 >>> ((8 : Int32).toUInt32 &&& Int32.toUInt32 31)).toInt32 → 16 < x4.toInt → x5 = (x4.toUInt32 >>> ((4 : Int32).toUInt32 &&& Int32.toUInt32 31)).toInt32 → 4 < x5.toInt → x6 = (x5.toUInt32 >>> ((2 : Int32).toUInt32 &&& Int32.toUInt32 31)).toInt32 → x7 = (x6.toUInt32 >>> ((1 : Int32).toUInt32 &&& Int32.toUInt32 31)).toInt32 → x8 = (15 : Int32) + x7 → R x8) →
  (∀ (x1 : Int32) (x2 : Int32) (x3 : Int32) (x4 : Int32) (x5 : Int32) (x6 : Int32), x1 = a0 ^^^ (-1 : Int32) → x2 = a0 - (1 : Int32) → x3 = x1 &&& x2 → 0 < x3.toInt → 65536 < x3.toInt → x4 = (x3.toUInt32 >>> ((16 : Int32).toUInt32 &&& Int32.toUInt32 31)).toInt32 → x4.toInt ≤ 256 → x4.toInt ≤ 16 → x4.toInt ≤ 4 → x5 = (x4.toUInt32 >>> ((1 : Int32).toUInt32 &&& Int32.toUInt32 31)).toInt32 → x6 = (17 : Int32) + x5 → R x6) →
  (∀ (x1 : Int32) (x2 : Int32) (x3 : Int32) (x4 : Int32) (x5 : Int32) (x6 : Int32) (x7 : Int32), x1 = a0 ^^^ (-1 : Int32) → x2 = a0 - (1 : Int32) → x3 = x1 &&& x2 → 0 < x3.toInt → 65536 < x3.toInt → x4 = (x3.toUInt32 >>> ((16 : Int32).toUInt32 &&& Int32.toUInt32 31)).toInt32 → x4.toInt ≤ 256 → x4.toInt ≤ 16 → 4 < x4.toInt → x5 = (x4.toUInt32 >>> ((2 : Int32).toUInt32 &&& Int32.toUInt32 31)).toInt32 → x6 = (x5.toUInt32 >>> ((1 : Int32).toUInt32 &&& Int32.toUInt32 31)).toInt32 → x7 = (19 : Int32) + x6 → R x7) →
  (∀ (x1 : Int32) (x2 : Int32) (x3 : Int32) (x4 : Int32) (x5 : Int32) (x6 : Int32) (x7 : Int32), x1 = a0 ^^^ (-1 : Int32) → x2 = a0 - (1 : Int32) → x3 = x1 &&& x2 → 0 < x3.toInt → 65536 < x3.toInt → x4 = (x3.toUInt32 >>> ((16 : Int32).toUInt32 &&& Int32.toUInt32 31)).toInt32 → x4.toInt ≤ 256 → 16 < x4.toInt → x5 = (x4.toUInt32 >>> ((4 : Int32).toUInt32 &&& Int32.toUInt32 31)).toInt32 → x5.toInt ≤ 4 → x6 = (x5.toUInt32 >>> ((1 : Int32).toUInt32 &&& Int32.toUInt32 31)).toInt32 → x7 = (21 : Int32) + x6 → R x7) →
  (∀ (x1 : Int32) (x2 : Int32) (x3 : Int32) (x4 : Int32) (x5 : Int32) (x6 : Int32) (x7 : Int32) (x8 : Int32), x1 = a0 ^^^ (-1 : Int32) → x2 = a0 - (1 : Int32) → x3 = x1 &&& x2 → 0 < x3.toInt → 65536 < x3.toInt → x4 = (x3.toUInt32 >>> ((16 : Int32).toUInt32 &&& Int32.toUInt32 31)).toInt32 → x4.toInt ≤ 256 → 16 < x4.toInt → x5 = (x4.toUInt32 >>> ((4 : Int32).toUInt32 &&& Int32.toUInt32 31)).toInt32 → 4 < x5.toInt → x6 = (x5.toUInt32 >>> ((2 : Int32).toUInt32 &&& Int32.toUInt32 31)).toInt32 → x7 = (x6.toUInt32 >>> ((1 : Int32).toUInt32 &&& Int32.toUInt32 31)).toInt32 → x8 = (23 : Int32) + x7 → R x8) →
  (∀ (x1 : Int32) (x2 : Int32) (x3 : Int32) (x4 : Int32) (x5 : Int32) (x6 : Int32) (x7 : Int32), x1 = a0 ^^^ (-1 : Int32) → x2 = a0 - (1 : Int32) → x3 = x1 &&& x2 → 0 < x3.toInt → 65536 < x3.toInt → x4 = (x3.toUInt32 >>> ((16 : Int32).toUInt32 &&& Int32.toUInt32 31)).toInt32 → 256 < x4.toInt → x5 = (x4.toUInt32 >>> ((8 : Int32).toUInt32 &&& Int32.toUInt32 31)).toInt32 → x5.toInt ≤ 16 → x5.toInt ≤ 4 → x6 = (x5.toUInt32 >>> ((1 : Int32).toUInt32 &&& Int32.toUInt32 31)).toInt32 → x7 = (25 : Int32) + x6 → R x7) →
  (∀ (x1 : Int32) (x2 : Int32) (x3 : Int32) (x4 : Int32) (x5 : Int32) (x6 : Int32) (x7 : Int32) (x8 : Int32), x1 = a0 ^^^ (-1 : Int32) → x2 = a0 - (1 : Int32) → x3 = x1 &&& x2 → 0 < x3.toInt → 65536 < x3.toInt → x4 = (x3.toUInt32 >>> ((16 : Int32).toUInt32 &&& Int32.toUInt32 31)).toInt32 → 256 < x4.toInt → x5 = (x4.toUInt32 >>> ((8 : Int32).toUInt32 &&& Int32.toUInt32 31)).toInt32 → x5.toInt ≤ 16 → 4 < x5.toInt → x6 = (x5.toUInt32 >>> ((2 : Int32).toUInt32 &&& Int32.toUInt32 31)).toInt32 → x7 = (x6.toUInt32 >>> ((1 : Int32).toUInt32 &&& Int32.toUInt32 31)).toInt32 → x8 = (27 : Int32) + x7 → R x8) →
  (∀ (x1 : Int32) (x2 : Int32) (x3 : Int32) (x4 : Int32) (x5 : Int32) (x6 : Int32) (x7 : Int32) (x8 : Int32), x1 = a0 ^^^ (-1 : Int32) → x2 = a0 - (1 : Int32) → x3 = x1 &&& x2 → 0 < x3.toInt → 65536 < x3.toInt → x4 = (x3.toUInt32 >>> ((16 : Int32).toUInt32 &&& Int32.toUInt32 31)).toInt32 → 256 < x4.toInt → x5 = (x4.toUInt32 >>> ((8 : Int32).toUInt32 &&& Int32.toUInt32 31)).toInt32 → 16 < x5.toInt → x6 = (x5.toUInt32 >>> ((4 : Int32).toUInt32 &&& Int32.toUInt32 31)).toInt32 → x6.toInt ≤ 4 → x7 = (x6.toUInt32 >>> ((1 : Int32).toUInt32 &&& Int32.toUInt32 31)).toInt32 → x8 = (29 : Int32) + x7 → R x8) →
  (∀ (x1 : Int32) (x2 : Int32) (x3 : Int32) (x4 : Int32) (x5 : Int32) (x6 : Int32) (x7 : Int32) (x8 : Int32) (x9 : Int32), x1 = a0 ^^^ (-1 : Int32) → x2 = a0 - (1 : Int32) → x3 = x1 &&& x2 → 0 < x3.toInt → 65536 < x3.toInt → x4 = (x3.toUInt32 >>> ((16 : Int32).toUInt32 &&& Int32.toUInt32 31)).toInt32 → 256 < x4.toInt → x5 = (x4.toUInt32 >>> ((8 : Int32).toUInt32 &&& Int32.toUInt32 31)).toInt32 → 16 < x5.toInt → x6 = (x5.toUInt32 >>> ((4 : Int32).toUInt32 &&& Int32.toUInt32 31)).toInt32 → 4 < x6.toInt → x7 = (x6.toUInt32 >>> ((2 : Int32).toUInt32 &&& Int32.toUInt32 31)).toInt32 → x8 = (x7.toUInt32 >>> ((1 : Int32).toUInt32 &&& Int32.toUInt32 31)).toInt32 → x9 = (31 : Int32) + x8 → R x9) →
  (∀ (x1 : Int32) (x2 : Int32) (x3 : Int32) (x4 : Int32), x1 = a0 ^^^ (-1 : Int32) → x2 = a0 - (1 : Int32) → x3 = x1 &&& x2 → x3.toInt ≤ 0 → x4 = x3 &&& (32 : Int32) → R x4) →
  R o1
def tr_RLong_numberOfTrailingZeros (a0 : Int64) (o1 : Int32) : Prop := ∀ R : (Int32) → Prop,
  (∀ (x1 : Int32) (x2 : Int32), x1 = a0.toInt32 → x1.toInt ≠ 0 → tr_RInteger_numberOfTrailingZeros x1 x2 → R x2) →
  (∀ (x1 : Int32) (x2 : Int64) (x3 : Int32) (x4 : Int32) (x5 : Int32), x1 = a0.toInt32 → x1.toInt = 0 → x2 = (a0.toUInt64 >>> ((32 : Int32).toInt64.toUInt64 &&& Int64.toUInt64 63)).toInt64 → x3 = x2.toInt32 → tr_RInteger_numberOfTrailingZeros x3 x4 → x5 = (32 : Int32) + x4 → R x5) →
  R o1
def tr_RReader_isDigit (a0 : Int32) (o1 : Int32) : Prop := ∀ R : (Int32) → Prop,
  (a0.toInt < 48 → R (0 : Int32)) →
  (48 ≤ a0.toInt → 57 < a0.toInt → R (0 : Int32)) →
  (48 ≤ a0.toInt → a0.toInt ≤ 57 → R (1 : Int32)) →
  R o1
def tr_RReader_isLetter (a0 : Int32) (o1 : Int32) : Prop := ∀ R : (Int32) → Prop,
  (a0.toInt < 97 → R (0 : Int32)) →
  (97 ≤ a0.toInt → 122 < a0.toInt → R (0 : Int32)) →
  (97 ≤ a0.toInt → a0.toInt ≤ 122 → R (1 : Int32)) →
  R o1
def tr_RCode_row (a0_rowN : Int32) (a0_rows_size : Int32) (o1 : Int32) : Prop := ∀ R : (Int32) → Prop,
  (∀ (x1 : Int32), a0_rowN.toInt ≠ a0_rows_size.toInt → tr_RArrayList_get a0_rowN a0_rows_size → x1.toInt = a0_rowN.toInt + 1 → R x1) →
  R o1
def tr_RCode_row2 (a0_rowN : Int32) (a0_rows_modCount : Int32) (a0_rows_size : Int32) (a0_rows_elementData_n : Nat) (o1 : Int32) (o2 : Int32) (o3 : Int32) : Prop := ∀ R : (Int32) → (Int32) → (Int32) → Prop,
  (∀ (x1 : Int32) (x2 : Int32) (x3 : Int32), a0_rowN.toInt = a0_rows_size.toInt → gB x2 1 16777217 → tr_RArrayList_add a0_rows_modCount a0_rows_size a0_rows_elementData_n x1 x2 → tr_RArrayList_get a0_rowN x2 → x3.toInt = a0_rowN.toInt + 1 → R x3 x1 x2) →
  R o1 o2 o3
def tr_RCode_row3 (a0_rowN : Int32) (a0_rows_modCount : Int32) (a0_rows_size : Int32) (a0_rows_elementData_n : Nat) (o1 : Int32) (o2 : Int32) (o3 : Int32) (o4 : Nat) : Prop := ∀ R : (Int32) → (Int32) → (Int32) → (Nat) → Prop,
  (∀ (x1 : Int32) (x2 : Int32) (x3 : Nat) (x4 : Int32), a0_rowN.toInt = a0_rows_size.toInt → gB x2 1 16777217 → tr_RArrayList_add5 a0_rows_modCount a0_rows_size a0_rows_elementData_n x1 x2 x3 → tr_RArrayList_get a0_rowN x2 → x4.toInt = a0_rowN.toInt + 1 → R x4 x1 x2 x3) →
  R o1 o2 o3 o4
def tr_RCode_row4 (a0_rowN : Int32) (a0_rows_modCount : Int32) (a0_rows_size : Int32) (o1 : Int32) (o2 : Int32) (o3 : Int32) (o4 : Nat) : Prop := ∀ R : (Int32) → (Int32) → (Int32) → (Nat) → Prop,
  (∀ (x1 : Int32) (x2 : Int32) (x3 : Nat) (x4 : Int32), a0_rowN.toInt = a0_rows_size.toInt → gB x2 1 1 → tr_RArrayList_add9 a0_rows_modCount a0_rows_size x1 x2 x3 → tr_RArrayList_get a0_rowN x2 → x4.toInt = a0_rowN.toInt + 1 → R x4 x1 x2 x3) →
  R o1 o2 o3 o4
def tr_RCode_block (a0_made : Int32) (a0_blocks_size : Int32) (p : Int32) (p2 : Int32) (o1 : Int32) (o2 : Int32) : Prop := ∀ R : (Int32) → (Int32) → Prop,
  (∀ (x1 : Int32) (x2 : Int32), a0_made.toInt ≠ a0_blocks_size.toInt → tr_RArrayList_get a0_made a0_blocks_size → x1.toInt = a0_made.toInt + 1 → tr_RArrayList_clear p p2 x2 → R x1 x2) →
  R o1 o2
def tr_RCode_block2 (a0_made : Int32) (a0_blocks_size : Int32) (p : Int32) (p2 : Int32) (o1 : Int32) (o2 : Int32) : Prop := ∀ R : (Int32) → (Int32) → Prop,
  (∀ (x1 : Int32) (x2 : Int32), a0_made.toInt ≠ a0_blocks_size.toInt → tr_RArrayList_get a0_made a0_blocks_size → x1.toInt = a0_made.toInt + 1 → tr_RArrayList_clear2 p p2 x2 → R x1 x2) →
  R o1 o2
def tr_RArrayList_add17 (a3 : Int32) (a2_n : Nat) (o1 : Int32) : Prop := ∀ R : (Int32) → Prop,
  (∀ (x1 : Int32) (x2 : Int32), x1.toInt = (a2_n : Nat) → a3.toInt ≠ x1.toInt → x2.toInt = a3.toInt + 1 → R x2) →
  R o1
def tr_RArrayList_add16 (a0_modCount : Int32) (a0_size : Int32) (a0_elementData_n : Nat) (o1 : Int32) (o2 : Int32) : Prop := ∀ R : (Int32) → (Int32) → Prop,
  (∀ (x1 : Int32) (x2 : Int32), x1 = a0_modCount + (1 : Int32) → gB x2 1 16777217 → tr_RArrayList_add17 a0_size a0_elementData_n x2 → R x1 x2) →
  R o1 o2
def tr_RCode_block3 (a0_made : Int32) (a0_blocks_modCount : Int32) (a0_blocks_size : Int32) (a0_blocks_elementData_n : Nat) (o1 : Int32) (o2 : Int32) (o3 : Int32) (o4 : Int32) : Prop := ∀ R : (Int32) → (Int32) → (Int32) → (Int32) → Prop,
  (∀ (x1 : Int32) (x2 : Int32) (x3 : Int32) (x4 : Int32), a0_made.toInt = a0_blocks_size.toInt → gB x2 1 16777217 → tr_RArrayList_add16 a0_blocks_modCount a0_blocks_size a0_blocks_elementData_n x1 x2 → tr_RArrayList_get a0_made x2 → x3.toInt = a0_made.toInt + 1 → tr_RArrayList_clear2 (0 : Int32) (0 : Int32) x4 → R x3 x1 x2 x4) →
  R o1 o2 o3 o4
def tr_RArrayList_add19 (a3 : Int32) (a0_size : Int32) (a2_n : Nat) (o1 : Int32) (o2 : Nat) : Prop := ∀ R : (Int32) → (Nat) → Prop,
  (∀ (x1 : Int32) (x2 : Nat) (x3 : Int32), x1.toInt = (a2_n : Nat) → a3.toInt = x1.toInt → tr_RArrayList_grow a0_size a2_n x2 → x3.toInt = a3.toInt + 1 → R x3 x2) →
  R o1 o2
def tr_RArrayList_add18 (a0_modCount : Int32) (a0_size : Int32) (a0_elementData_n : Nat) (o1 : Int32) (o2 : Int32) (o3 : Nat) : Prop := ∀ R : (Int32) → (Int32) → (Nat) → Prop,
  (∀ (x1 : Int32) (x2 : Int32) (x3 : Nat), x1 = a0_modCount + (1 : Int32) → gB x2 1 16777217 → tr_RArrayList_add19 a0_size a0_size a0_elementData_n x2 x3 → R x1 x2 x3) →
  R o1 o2 o3
def tr_RCode_block4 (a0_made : Int32) (a0_blocks_modCount : Int32) (a0_blocks_size : Int32) (a0_blocks_elementData_n : Nat) (o1 : Int32) (o2 : Int32) (o3 : Int32) (o4 : Int32) (o5 : Nat) : Prop := ∀ R : (Int32) → (Int32) → (Int32) → (Int32) → (Nat) → Prop,
  (∀ (x1 : Int32) (x2 : Int32) (x3 : Nat) (x4 : Int32) (x5 : Int32), a0_made.toInt = a0_blocks_size.toInt → gB x2 1 16777217 → tr_RArrayList_add18 a0_blocks_modCount a0_blocks_size a0_blocks_elementData_n x1 x2 x3 → tr_RArrayList_get a0_made x2 → x4.toInt = a0_made.toInt + 1 → tr_RArrayList_clear2 (0 : Int32) (0 : Int32) x5 → R x4 x1 x2 x5 x3) →
  R o1 o2 o3 o4 o5
def tr_RArrayList_add21 (a3 : Int32) (a0_size : Int32) (o1 : Int32) (o2 : Nat) : Prop := ∀ R : (Int32) → (Nat) → Prop,
  (∀ (x1 : Nat) (x2 : Int32), a3.toInt = 0 → tr_RArrayList_grow3 a0_size x1 → x2.toInt = a3.toInt + 1 → R x2 x1) →
  R o1 o2
def tr_RArrayList_add20 (a0_modCount : Int32) (a0_size : Int32) (o1 : Int32) (o2 : Int32) (o3 : Nat) : Prop := ∀ R : (Int32) → (Int32) → (Nat) → Prop,
  (∀ (x1 : Int32) (x2 : Int32) (x3 : Nat), x1 = a0_modCount + (1 : Int32) → gB x2 1 1 → tr_RArrayList_add21 a0_size a0_size x2 x3 → R x1 x2 x3) →
  R o1 o2 o3
def tr_RCode_block5 (a0_made : Int32) (a0_blocks_modCount : Int32) (a0_blocks_size : Int32) (o1 : Int32) (o2 : Int32) (o3 : Int32) (o4 : Int32) (o5 : Nat) : Prop := ∀ R : (Int32) → (Int32) → (Int32) → (Int32) → (Nat) → Prop,
  (∀ (x1 : Int32) (x2 : Int32) (x3 : Nat) (x4 : Int32) (x5 : Int32), a0_made.toInt = a0_blocks_size.toInt → gB x2 1 1 → tr_RArrayList_add20 a0_blocks_modCount a0_blocks_size x1 x2 x3 → tr_RArrayList_get a0_made x2 → x4.toInt = a0_made.toInt + 1 → tr_RArrayList_clear2 (0 : Int32) (0 : Int32) x5 → R x4 x1 x2 x5 x3) →
  R o1 o2 o3 o4 o5
def tr_RBlock_way2 (a1 : Int32) (a0_first : Int32) (a0_second : Int32) (o1 : Int32) : Prop := ∀ R : (Int32) → Prop,
  (a1.toInt ≠ 0 → R a0_second) →
  (a1.toInt = 0 → R a0_first) →
  R o1
def tr_RCode_get (a1 : Int32) (a0_blocks_size : Int32) : Prop := ∀ R : Prop,
  (tr_RArrayList_get a1 a0_blocks_size → R) →
  R
def tr_RModel_set2 (a1 : Int32) (a0_v : Nat → Int64) (o1 : Nat → Int64) : Prop := ∀ R : (Nat → Int64) → Prop,
  (∀ (x1 : Int32) (x2 : Int64) (x3 : Int64) (x4 : Int64) (x5 : Nat → Int64), x1.toInt = a1.toInt / 64 → x2 = a0_v x1.toNatClampNeg → x3 = (1 : Int64) <<< (a1.toInt64 &&& 63) → x4 = x2 ||| x3 → x5 = vp_updL a0_v x1.toNatClampNeg x4 → R x5) →
  R o1
def tr_RModel_clear2 (a1 : Int32) (a0_v : Nat → Int64) (o1 : Nat → Int64) : Prop := ∀ R : (Nat → Int64) → Prop,
  (∀ (x1 : Int32) (x2 : Int64) (x3 : Int64) (x4 : Int64) (x5 : Int64) (x6 : Nat → Int64), x1.toInt = a1.toInt / 64 → x2 = a0_v x1.toNatClampNeg → x3 = (1 : Int64) <<< (a1.toInt64 &&& 63) → x4 = x3 ^^^ (-1 : Int64) → x5 = x2 &&& x4 → x6 = vp_updL a0_v x1.toNatClampNeg x5 → R x6) →
  R o1
def tr_RRow_usesA2 (a0_op : Int32) (a0_regA : Int32) (o1 : Int32) : Prop := ∀ R : (Int32) → Prop,
  (a0_op.toInt = 20 → R (0 : Int32)) →
  (a0_op.toInt ≠ 20 → a0_op.toInt = 21 → R (0 : Int32)) →
  (a0_op.toInt ≠ 20 → a0_op.toInt ≠ 21 → a0_op.toInt = 30 → R (0 : Int32)) →
  (a0_op.toInt ≠ 20 → a0_op.toInt ≠ 21 → a0_op.toInt ≠ 30 → a0_regA.toInt = 0 → R (0 : Int32)) →
  (a0_op.toInt ≠ 20 → a0_op.toInt ≠ 21 → a0_op.toInt ≠ 30 → a0_regA.toInt ≠ 0 → R (1 : Int32)) →
  R o1
def tr_RRow_usesB2 (a0_op : Int32) (a0_regB : Int32) (o1 : Int32) : Prop := ∀ R : (Int32) → Prop,
  (a0_op.toInt ≤ 0 → R (0 : Int32)) →
  (0 < a0_op.toInt → 20 ≤ a0_op.toInt → R (0 : Int32)) →
  (0 < a0_op.toInt → a0_op.toInt < 20 → a0_regB.toInt = 0 → R (0 : Int32)) →
  (0 < a0_op.toInt → a0_op.toInt < 20 → a0_regB.toInt ≠ 0 → R (1 : Int32)) →
  R o1
def tr_RRow_sets2 (a0_op : Int32) (o1 : Int32) : Prop := ∀ R : (Int32) → Prop,
  (21 < a0_op.toInt → R (0 : Int32)) →
  (a0_op.toInt ≤ 21 → R (1 : Int32)) →
  R o1
def tr_RModel_setOf2 (a1 : Int32) (a0_op : Int32) (a0_t : Int32) (a0_slot : Int32) (o1 : Int32) : Prop := ∀ R : (Int32) → Prop,
  (∀ (x1 : Int32), a1.toInt = 0 → gB x1 0 1 → tr_RRow_sets2 a0_op x1 → x1.toInt = 0 → R (-1 : Int32)) →
  (∀ (x1 : Int32), a1.toInt = 0 → gB x1 0 1 → tr_RRow_sets2 a0_op x1 → x1.toInt ≠ 0 → R a0_t) →
  (a1.toInt ≠ 0 → a0_op.toInt ≠ 23 → R (-1 : Int32)) →
  (a1.toInt ≠ 0 → a0_op.toInt = 23 → R a0_slot) →
  R o1
def tr_RBlock_ways2 (a0_first : Int32) (a0_second : Int32) (a0_end_op : Int32) (o1 : Int32) : Prop := ∀ R : (Int32) → Prop,
  (a0_end_op.toInt ≠ 32 → a0_end_op.toInt = 30 → R (1 : Int32)) →
  (a0_end_op.toInt ≠ 32 → a0_end_op.toInt ≠ 30 → a0_first.toInt ≠ a0_second.toInt → R (2 : Int32)) →
  (a0_end_op.toInt ≠ 32 → a0_end_op.toInt ≠ 30 → a0_first.toInt = a0_second.toInt → R (1 : Int32)) →
  (a0_end_op.toInt = 32 → R (0 : Int32)) →
  R o1
def tr_RBlock_way3 (a1 : Int32) (a0_first : Int32) (a0_second : Int32) (o1 : Int32) : Prop := ∀ R : (Int32) → Prop,
  (a1.toInt ≠ 0 → R a0_second) →
  (a1.toInt = 0 → R a0_first) →
  R o1
def tr_RRow_usesA3 (a0_op : Int32) (a0_regA : Int32) (o1 : Int32) : Prop := ∀ R : (Int32) → Prop,
  (a0_op.toInt = 20 → R (0 : Int32)) →
  (a0_op.toInt ≠ 20 → a0_op.toInt = 21 → R (0 : Int32)) →
  (a0_op.toInt ≠ 20 → a0_op.toInt ≠ 21 → a0_op.toInt = 30 → R (0 : Int32)) →
  (a0_op.toInt ≠ 20 → a0_op.toInt ≠ 21 → a0_op.toInt ≠ 30 → a0_regA.toInt = 0 → R (0 : Int32)) →
  (a0_op.toInt ≠ 20 → a0_op.toInt ≠ 21 → a0_op.toInt ≠ 30 → a0_regA.toInt ≠ 0 → R (1 : Int32)) →
  R o1
def tr_RRow_usesB3 (a0_op : Int32) (a0_regB : Int32) (o1 : Int32) : Prop := ∀ R : (Int32) → Prop,
  (a0_op.toInt ≤ 0 → R (0 : Int32)) →
  (0 < a0_op.toInt → 20 ≤ a0_op.toInt → R (0 : Int32)) →
  (0 < a0_op.toInt → a0_op.toInt < 20 → a0_regB.toInt = 0 → R (0 : Int32)) →
  (0 < a0_op.toInt → a0_op.toInt < 20 → a0_regB.toInt ≠ 0 → R (1 : Int32)) →
  R o1
def tr_RRow_sets3 (a0_op : Int32) (o1 : Int32) : Prop := ∀ R : (Int32) → Prop,
  (21 < a0_op.toInt → R (0 : Int32)) →
  (a0_op.toInt ≤ 21 → R (1 : Int32)) →
  R o1
def tr_RPreconditions_checkIndex2 (a0 : Int32) (a1 : Int32) : Prop := ∀ R : Prop,
  (a0.toInt < a1.toInt → R) →
  R
def tr_RString_checkIndex (a0 : Int32) (a1 : Int32) : Prop := ∀ R : Prop,
  (tr_RPreconditions_checkIndex a0 a1 → R) →
  (tr_RPreconditions_checkIndex2 a0 a1 → R) →
  R
def tr_RAbstractStringBuilder_charAt (a1 : Int32) (a0_count : Int32) (a0_value_v : Nat → Int32) (a0_value_n : Nat) (o1 : Int32) : Prop := ∀ R : (Int32) → Prop,
  (∀ (x1 : Int32) (x2 : Int32) (x3 : Int32) (x4 : Int32) (x5 : Int32) (x6 : Int32), x1.toInt = (a0_value_n : Nat) → x2.toInt = x1.toInt / 1 → (a0_count.toInt ≥ x3.toInt ∧ x2.toInt ≥ x3.toInt ∧ (x3.toInt = a0_count.toInt ∨ x3.toInt = x2.toInt)) → tr_RString_checkIndex a1 x3 → x4 = a0_value_v a1.toNatClampNeg → gB x4 (-128) 127 → x5 = x4 &&& (255 : Int32) → x6 = (x5.toUInt32 % 65536).toInt32 → R x6) →
  R o1
def tr_RStringBuilder_charAt (a1 : Int32) (a0_count : Int32) (a0_value_v : Nat → Int32) (a0_value_n : Nat) (o1 : Int32) : Prop := ∀ R : (Int32) → Prop,
  (∀ (x1 : Int32), gB x1 0 65535 → tr_RAbstractStringBuilder_charAt a1 a0_count a0_value_v a0_value_n x1 → R x1) →
  R o1
def tr_RAbstractStringBuilder_ensureCapacityInternal (a1 : Int32) (a0_value_n : Nat) : Prop := ∀ R : Prop,
  (∀ (x1 : Int32) (x2 : Int32) (x3 : Int32), x1.toInt = (a0_value_n : Nat) → x2.toInt = x1.toInt / 1 → x3.toInt = a1.toInt - x2.toInt → x3.toInt ≤ 0 → R) →
  R
def tr_RStringLatin1_canEncode (a0 : Int32) (o1 : Int32) : Prop := ∀ R : (Int32) → Prop,
  (255 < a0.toInt → R (0 : Int32)) →
  (a0.toInt ≤ 255 → R (1 : Int32)) →
  R o1
def tr_RAbstractStringBuilder_append (a1 : Int32) (a0_count : Int32) (a0_value_v : Nat → Int32) (a0_value_n : Nat) (o1 : Int32) (o2 : Nat → Int32) : Prop := ∀ R : (Int32) → (Nat → Int32) → Prop,
  (∀ (x1 : Int32) (x2 : Int32) (x3 : Int32) (x4 : Nat → Int32), x1.toInt = a0_count.toInt + 1 → tr_RAbstractStringBuilder_ensureCapacityInternal x1 a0_value_n → tr_RStringLatin1_canEncode a1 (1 : Int32) → x2.toInt = a0_count.toInt + 1 → x3 = a1.toInt8.toInt32 → x4 = upd a0_value_v a0_count.toNatClampNeg (vp_nar .byte x3) → R x2 x4) →
  R o1 o2
def tr_RStringBuilder_append (a1 : Int32) (a0_count : Int32) (a0_value_v : Nat → Int32) (a0_value_n : Nat) (o1 : Int32) (o2 : Nat → Int32) : Prop := ∀ R : (Int32) → (Nat → Int32) → Prop,
  (∀ (x1 : Int32) (x2 : Nat → Int32), gB x1 1 16777216 → tr_RAbstractStringBuilder_append a1 a0_count a0_value_v a0_value_n x1 x2 → R x1 x2) →
  R o1 o2
def tr_RAbstractStringBuilder_newCapacity (a1 : Int32) (a0_value_n : Nat) (o1 : Int32) : Prop := ∀ R : (Int32) → Prop,
  (∀ (x1 : Int32) (x2 : Int32) (x3 : Int32) (x4 : Int32) (x5 : Int32) (x6 : Int32) (x7 : Int32), x1.toInt = (a0_value_n : Nat) → x2.toInt = a1.toInt * 1 → x3.toInt = x2.toInt - x1.toInt → x4.toInt = 2 * 1 → x5.toInt = x1.toInt + x4.toInt → gB x6 1 33554432 → tr_RArraysSupport_newLength x1 x3 x5 x6 → x7.toInt = x6.toInt / 1 → R x7) →
  R o1
def tr_RArrays_copyOf3 (a1 : Int32) (a0_v : Nat → Int32) (a0_n : Nat) (o1 : Nat → Int32) : Prop := ∀ R : (Nat → Int32) → Prop,
  (∀ (x1 : Int32) (x2 : Int32) (x3 : Int32) (x4 : Nat → Int32), x1.toInt = (a0_n : Nat) → a1.toInt ≠ x1.toInt → x2.toInt = (a0_n : Nat) → (x2.toInt ≥ x3.toInt ∧ a1.toInt ≥ x3.toInt ∧ (x3.toInt = x2.toInt ∨ x3.toInt = a1.toInt)) → (x4 = va_cpy a0_v (fun _ => 0) (0 : Int32).toNatClampNeg (0 : Int32).toNatClampNeg x3.toNatClampNeg) → R x4) →
  R o1
def tr_RAbstractStringBuilder_ensureCapacityInternal2 (a1 : Int32) (a0_value_v : Nat → Int32) (a0_value_n : Nat) (o1 : Nat) (o2 : Nat → Int32) : Prop := ∀ R : (Nat) → (Nat → Int32) → Prop,
  (∀ (x1 : Int32) (x2 : Int32) (x3 : Int32), x1.toInt = (a0_value_n : Nat) → x2.toInt = x1.toInt / 1 → x3.toInt = a1.toInt - x2.toInt → x3.toInt ≤ 0 → R a0_value_n a0_value_v) →
  (∀ (x1 : Int32) (x2 : Int32) (x3 : Int32) (x4 : Int32) (x5 : Int32) (x6 : Nat → Int32), x1.toInt = (a0_value_n : Nat) → x2.toInt = x1.toInt / 1 → x3.toInt = a1.toInt - x2.toInt → 0 < x3.toInt → gB x4 1 33554432 → tr_RAbstractStringBuilder_newCapacity a1 a0_value_n x4 → x5.toInt = x4.toInt * 1 → tr_RArrays_copyOf3 x5 a0_value_v a0_value_n x6 → R x5.toInt.toNat x6) →
  R o1 o2
def tr_RAbstractStringBuilder_append2 (a1 : Int32) (a0_count : Int32) (a0_value_v : Nat → Int32) (a0_value_n : Nat) (o1 : Int32) (o2 : Nat) (o3 : Nat → Int32) : Prop := ∀ R : (Int32) → (Nat) → (Nat → Int32) → Prop,
  (∀ (x1 : Int32) (x2 : Nat) (x3 : Nat → Int32) (x4 : Int32) (x5 : Int32) (x6 : Nat → Int32), x1.toInt = a0_count.toInt + 1 → tr_RAbstractStringBuilder_ensureCapacityInternal2 x1 a0_value_v a0_value_n x2 x3 → tr_RStringLatin1_canEncode a1 (1 : Int32) → x4.toInt = a0_count.toInt + 1 → x5 = a1.toInt8.toInt32 → x6 = upd x3 a0_count.toNatClampNeg (vp_nar .byte x5) → R x4 x2 x6) →
  R o1 o2 o3
def tr_RStringBuilder_append2 (a1 : Int32) (a0_count : Int32) (a0_value_v : Nat → Int32) (a0_value_n : Nat) (o1 : Int32) (o2 : Nat) (o3 : Nat → Int32) : Prop := ∀ R : (Int32) → (Nat) → (Nat → Int32) → Prop,
  (∀ (x1 : Int32) (x2 : Nat) (x3 : Nat → Int32), gB x1 1 16777216 → tr_RAbstractStringBuilder_append2 a1 a0_count a0_value_v a0_value_n x1 x2 x3 → R x1 x2 x3) →
  R o1 o2 o3
def tr_RAbstractStringBuilder_setLength (a0_maybeLatin1 : Int32) (a0_count : Int32) (a0_value_n : Nat) (o1 : Int32) : Prop := ∀ R : (Int32) → Prop,
  (tr_RAbstractStringBuilder_ensureCapacityInternal (0 : Int32) a0_value_n → 0 ≤ a0_count.toInt → a0_count.toInt ≤ 0 → R a0_maybeLatin1) →
  (tr_RAbstractStringBuilder_ensureCapacityInternal (0 : Int32) a0_value_n → 0 ≤ a0_count.toInt → 0 < a0_count.toInt → R (1 : Int32)) →
  R o1
def tr_RStringBuilder_setLength (a0_maybeLatin1 : Int32) (a0_count : Int32) (a0_value_n : Nat) (o1 : Int32) : Prop := ∀ R : (Int32) → Prop,
  (∀ (x1 : Int32), gB x1 0 1 → tr_RAbstractStringBuilder_setLength a0_maybeLatin1 a0_count a0_value_n x1 → R x1) →
  R o1
def tr_RString_length (a0_value_n : Nat) (o1 : Int32) : Prop := ∀ R : (Int32) → Prop,
  (∀ (x1 : Int32) (x2 : Int32), x1.toInt = (a0_value_n : Nat) → x2.toInt = x1.toInt / 1 → R x2) →
  R o1
def tr_RString_getBytes (a2 : Int32) (a1_v : Nat → Int32) (a0_value_v : Nat → Int32) (a0_value_n : Nat) (o1 : Nat → Int32) : Prop := ∀ R : (Nat → Int32) → Prop,
  (∀ (x1 : Int32) (x2 : Int32) (x3 : Nat → Int32), x1.toInt = a2.toInt * 1 → x2.toInt = (a0_value_n : Nat) → x3 = va_cpy a0_value_v a1_v (0 : Int32).toNatClampNeg x1.toNatClampNeg x2.toNatClampNeg → R x3) →
  R o1
def tr_RAbstractStringBuilder_putStringAt (a1 : Int32) (a0_value_v : Nat → Int32) (a2_value_v : Nat → Int32) (a2_value_n : Nat) (o1 : Nat → Int32) : Prop := ∀ R : (Nat → Int32) → Prop,
  (∀ (x1 : Nat → Int32), tr_RString_getBytes a1 a0_value_v a2_value_v a2_value_n x1 → R x1) →
  R o1
def tr_RAbstractStringBuilder_append3 (a0_count : Int32) (a0_value_v : Nat → Int32) (a0_value_n : Nat) (a1_value_v : Nat → Int32) (a1_value_n : Nat) (o1 : Int32) (o2 : Nat → Int32) : Prop := ∀ R : (Int32) → (Nat → Int32) → Prop,
  (∀ (x1 : Int32) (x2 : Int32) (x3 : Nat → Int32) (x4 : Int32), gB x1 0 16777216 → tr_RString_length a1_value_n x1 → x2.toInt = a0_count.toInt + x1.toInt → tr_RAbstractStringBuilder_ensureCapacityInternal x2 a0_value_n → tr_RAbstractStringBuilder_putStringAt a0_count a0_value_v a1_value_v a1_value_n x3 → x4.toInt = a0_count.toInt + x1.toInt → R x4 x3) →
  R o1 o2
def tr_RStringBuilder_append3 (a0_count : Int32) (a0_value_v : Nat → Int32) (a0_value_n : Nat) (a1_value_v : Nat → Int32) (a1_value_n : Nat) (o1 : Int32) (o2 : Nat → Int32) : Prop := ∀ R : (Int32) → (Nat → Int32) → Prop,
  (∀ (x1 : Int32) (x2 : Nat → Int32), gB x1 0 16777216 → tr_RAbstractStringBuilder_append3 a0_count a0_value_v a0_value_n a1_value_v a1_value_n x1 x2 → R x1 x2) →
  R o1 o2
def tr_RString_length2 (bs : List Int32) (o1 : Int32) : Prop := ∀ R : (Int32) → Prop,
  (∀ (x1 : Int32) (x2 : Int32), x1.toInt = (bs.length : Int) → x2.toInt = x1.toInt / 1 → R x2) →
  R o1
def tr_RString_getBytes2 (bs : List Int32) (a2 : Int32) (a1_v : Nat → Int32) (o1 : Nat → Int32) : Prop := ∀ R : (Nat → Int32) → Prop,
  (∀ (x1 : Int32) (x2 : Int32) (x3 : Nat → Int32), x1.toInt = a2.toInt * 1 → x2.toInt = (bs.length : Int) → (x3 = va_cpy (fun j => bs.getD j 0) a1_v (0 : Int32).toNatClampNeg x1.toNatClampNeg x2.toNatClampNeg) → R x3) →
  R o1
def tr_RAbstractStringBuilder_putStringAt2 (a1 : Int32) (bs : List Int32) (a0_value_v : Nat → Int32) (o1 : Nat → Int32) : Prop := ∀ R : (Nat → Int32) → Prop,
  (∀ (x1 : Nat → Int32), tr_RString_getBytes2 bs a1 a0_value_v x1 → R x1) →
  R o1
def tr_RAbstractStringBuilder_append4 (bs : List Int32) (a0_count : Int32) (a0_value_v : Nat → Int32) (a0_value_n : Nat) (o1 : Int32) (o2 : Nat → Int32) : Prop := ∀ R : (Int32) → (Nat → Int32) → Prop,
  (∀ (x1 : Int32) (x2 : Int32) (x3 : Nat → Int32) (x4 : Int32), gB x1 0 65535 → tr_RString_length2 bs x1 → x2.toInt = a0_count.toInt + x1.toInt → tr_RAbstractStringBuilder_ensureCapacityInternal x2 a0_value_n → tr_RAbstractStringBuilder_putStringAt2 a0_count bs a0_value_v x3 → x4.toInt = a0_count.toInt + x1.toInt → R x4 x3) →
  R o1 o2
def tr_RStringBuilder_append4 (bs : List Int32) (a0_count : Int32) (a0_value_v : Nat → Int32) (a0_value_n : Nat) (o1 : Int32) (o2 : Nat → Int32) : Prop := ∀ R : (Int32) → (Nat → Int32) → Prop,
  (∀ (x1 : Int32) (x2 : Nat → Int32), gB x1 0 16777216 → tr_RAbstractStringBuilder_append4 bs a0_count a0_value_v a0_value_n x1 x2 → R x1 x2) →
  R o1 o2
def tr_RAbstractStringBuilder_append5 (a0_count : Int32) (a0_value_v : Nat → Int32) (a0_value_n : Nat) (a1_value_v : Nat → Int32) (a1_value_n : Nat) (o1 : Int32) (o2 : Nat) (o3 : Nat → Int32) : Prop := ∀ R : (Int32) → (Nat) → (Nat → Int32) → Prop,
  (∀ (x1 : Int32) (x2 : Int32) (x3 : Nat) (x4 : Nat → Int32) (x5 : Nat → Int32) (x6 : Int32), gB x1 0 16777216 → tr_RString_length a1_value_n x1 → x2.toInt = a0_count.toInt + x1.toInt → tr_RAbstractStringBuilder_ensureCapacityInternal2 x2 a0_value_v a0_value_n x3 x4 → tr_RAbstractStringBuilder_putStringAt a0_count x4 a1_value_v a1_value_n x5 → x6.toInt = a0_count.toInt + x1.toInt → R x6 x3 x5) →
  R o1 o2 o3
def tr_RStringBuilder_append5 (a0_count : Int32) (a0_value_v : Nat → Int32) (a0_value_n : Nat) (a1_value_v : Nat → Int32) (a1_value_n : Nat) (o1 : Int32) (o2 : Nat) (o3 : Nat → Int32) : Prop := ∀ R : (Int32) → (Nat) → (Nat → Int32) → Prop,
  (∀ (x1 : Int32) (x2 : Nat) (x3 : Nat → Int32), gB x1 0 16777216 → tr_RAbstractStringBuilder_append5 a0_count a0_value_v a0_value_n a1_value_v a1_value_n x1 x2 x3 → R x1 x2 x3) →
  R o1 o2 o3
def tr_RAbstractStringBuilder_append6 (bs : List Int32) (a0_count : Int32) (a0_value_v : Nat → Int32) (a0_value_n : Nat) (o1 : Int32) (o2 : Nat) (o3 : Nat → Int32) : Prop := ∀ R : (Int32) → (Nat) → (Nat → Int32) → Prop,
  (∀ (x1 : Int32) (x2 : Int32) (x3 : Nat) (x4 : Nat → Int32) (x5 : Nat → Int32) (x6 : Int32), gB x1 0 65535 → tr_RString_length2 bs x1 → x2.toInt = a0_count.toInt + x1.toInt → tr_RAbstractStringBuilder_ensureCapacityInternal2 x2 a0_value_v a0_value_n x3 x4 → tr_RAbstractStringBuilder_putStringAt2 a0_count bs x4 x5 → x6.toInt = a0_count.toInt + x1.toInt → R x6 x3 x5) →
  R o1 o2 o3
def tr_RStringBuilder_append6 (bs : List Int32) (a0_count : Int32) (a0_value_v : Nat → Int32) (a0_value_n : Nat) (o1 : Int32) (o2 : Nat) (o3 : Nat → Int32) : Prop := ∀ R : (Int32) → (Nat) → (Nat → Int32) → Prop,
  (∀ (x1 : Int32) (x2 : Nat) (x3 : Nat → Int32), gB x1 0 16777216 → tr_RAbstractStringBuilder_append6 bs a0_count a0_value_v a0_value_n x1 x2 x3 → R x1 x2 x3) →
  R o1 o2 o3
def tr_RArrays_copyOfRangeByte (a2 : Int32) (a0_v : Nat → Int32) (a0_n : Nat) (o1 : Nat) (o2 : Nat → Int32) : Prop := ∀ R : (Nat) → (Nat → Int32) → Prop,
  (∀ (x1 : Int32) (x2 : Int32) (x3 : Int32) (x4 : Int32) (x5 : Nat → Int32), x1.toInt = a2.toInt - 0 → x2.toInt = (a0_n : Nat) → x3.toInt = x2.toInt - 0 → (x3.toInt ≥ x4.toInt ∧ x1.toInt ≥ x4.toInt ∧ (x4.toInt = x3.toInt ∨ x4.toInt = x1.toInt)) → (x5 = va_cpy a0_v (fun _ => 0) (0 : Int32).toNatClampNeg (0 : Int32).toNatClampNeg x4.toNatClampNeg) → R x1.toInt.toNat x5) →
  R o1 o2
def tr_RArrays_copyOfRange (a2 : Int32) (a0_v : Nat → Int32) (a0_n : Nat) (o1 : Nat) (o2 : Nat → Int32) : Prop := ∀ R : (Nat) → (Nat → Int32) → Prop,
  (∀ (x1 : Int32), x1.toInt = (a0_n : Nat) → a2.toInt = x1.toInt → R a0_n a0_v) →
  (∀ (x1 : Int32) (x2 : Nat) (x3 : Nat → Int32), x1.toInt = (a0_n : Nat) → a2.toInt ≠ x1.toInt → tr_RArrays_copyOfRangeByte a2 a0_v a0_n x2 x3 → R x2 x3) →
  R o1 o2
def tr_RString_init2 (a1_count : Int32) (a1_value_v : Nat → Int32) (a1_value_n : Nat) (o1 : Nat) (o2 : Nat → Int32) : Prop := ∀ R : (Nat) → (Nat → Int32) → Prop,
  (∀ (x1 : Nat) (x2 : Nat → Int32), tr_RArrays_copyOfRange a1_count a1_value_v a1_value_n x1 x2 → R x1 x2) →
  R o1 o2
def tr_RString_init (a1_count : Int32) (a1_value_v : Nat → Int32) (a1_value_n : Nat) (o1 : Nat) (o2 : Nat → Int32) : Prop := ∀ R : (Nat) → (Nat → Int32) → Prop,
  (∀ (x1 : Nat) (x2 : Nat → Int32), tr_RString_init2 a1_count a1_value_v a1_value_n x1 x2 → R x1 x2) →
  R o1 o2
def tr_RStringBuilder_toString (a0_count : Int32) (a0_value_v : Nat → Int32) (a0_value_n : Nat) (o1 : Nat) (o2 : Nat → Int32) : Prop := ∀ R : (Nat) → (Nat → Int32) → Prop,
  (∀ (x1 : Nat) (x2 : Nat → Int32), tr_RString_init a0_count a0_value_v a0_value_n x1 x2 → R x1 x2) →
  R o1 o2
def tl_RStringLatin1_equals_9 (a0_n : Nat) (a0_v : Nat → Int32) (bs : List Int32) (s1 : Int32) (k : Nat) : Prop := ∀ R : (Int32) → Nat → Prop,
  (∀ (l2_1 : Int32) (x1 : Int32), gB l2_1 0 16777216 → x1.toInt = (a0_n : Nat) → x1.toInt ≤ l2_1.toInt → R l2_1 32) →
  (∀ (l2_1 : Int32) (x1 : Int32) (x2 : Int32) (x3 : Int32) (x4 : Int32) (k : Nat), gB l2_1 0 16777216 → x1.toInt = (a0_n : Nat) → l2_1.toInt < x1.toInt → x2 = a0_v l2_1.toNatClampNeg → gB x2 (-128) 127 → x3 = bs.getD l2_1.toNatClampNeg 0 → x2.toInt = x3.toInt → x4.toInt = l2_1.toInt + 1 → R x4 k → R l2_1 k) →
  (∀ (l2_1 : Int32) (x1 : Int32) (x2 : Int32) (x3 : Int32), gB l2_1 0 16777216 → x1.toInt = (a0_n : Nat) → l2_1.toInt < x1.toInt → x2 = a0_v l2_1.toNatClampNeg → gB x2 (-128) 127 → x3 = bs.getD l2_1.toNatClampNeg 0 → x2.toInt ≠ x3.toInt → R l2_1 24) →
  R s1 k
def tr_RStringLatin1_equals (bs : List Int32) (a0_v : Nat → Int32) (a0_n : Nat) (o1 : Int32) : Prop := ∀ R : (Int32) → Prop,
  (∀ (x1 : Int32) (x2 : Int32), x1.toInt = (a0_n : Nat) → x2.toInt = (bs.length : Int) → x1.toInt ≠ x2.toInt → R (0 : Int32)) →
  (∀ (x1 : Int32) (x2 : Int32), x1.toInt = (a0_n : Nat) → x2.toInt = (bs.length : Int) → x1.toInt = x2.toInt → tl_RStringLatin1_equals_9 a0_n a0_v bs (0 : Int32) 32 → R (1 : Int32)) →
  (∀ (x1 : Int32) (x2 : Int32), x1.toInt = (a0_n : Nat) → x2.toInt = (bs.length : Int) → x1.toInt = x2.toInt → tl_RStringLatin1_equals_9 a0_n a0_v bs (0 : Int32) 24 → R (0 : Int32)) →
  R o1
def tr_RString_equals (bs : List Int32) (a0_value_v : Nat → Int32) (a0_value_n : Nat) (o1 : Int32) : Prop := ∀ R : (Int32) → Prop,
  (∀ (x1 : Int32), gB x1 0 1 → tr_RStringLatin1_equals bs a0_value_v a0_value_n x1 → x1.toInt = 0 → R (0 : Int32)) →
  (∀ (x1 : Int32), gB x1 0 1 → tr_RStringLatin1_equals bs a0_value_v a0_value_n x1 → x1.toInt ≠ 0 → R (1 : Int32)) →
  R o1
def tr_RStringLatin1_charAt (bs : List Int32) (a1 : Int32) (o1 : Int32) : Prop := ∀ R : (Int32) → Prop,
  (∀ (x1 : Int32) (x2 : Int32) (x3 : Int32) (x4 : Int32), x1.toInt = (bs.length : Int) → tr_RString_checkIndex a1 x1 → x2 = bs.getD a1.toNatClampNeg 0 → x3 = x2 &&& (255 : Int32) → x4 = (x3.toUInt32 % 65536).toInt32 → R x4) →
  R o1
def tr_RString_charAt (bs : List Int32) (a1 : Int32) (o1 : Int32) : Prop := ∀ R : (Int32) → Prop,
  (∀ (x1 : Int32), gB x1 0 65535 → tr_RStringLatin1_charAt bs a1 x1 → R x1) →
  R o1
def tl_RStringLatin1_indexOf2_76 (c1 : Int32) (bs : List Int32) (a2_v : Nat → Int32) (s1 : Int32) (s2 : Int32) (k : Nat) (e1 : Int32) : Prop := ∀ R : (Int32) → (Int32) → Nat → (Int32) → Prop,
  (∀ (l10_2 : Int32) (l8_2 : Int32), gB l10_2 1 16777217 → gB l8_2 (-2147483645) 33554431 → c1.toInt ≤ l8_2.toInt → R l10_2 l8_2 103 l8_2) →
  (∀ (l10_2 : Int32) (l8_2 : Int32) (x1 : Int32) (x2 : Int32), gB l10_2 1 16777217 → gB l8_2 (-2147483645) 33554431 → l8_2.toInt < c1.toInt → x1 = bs.getD l8_2.toNatClampNeg 0 → x2 = a2_v l10_2.toNatClampNeg → gB x2 (-128) 127 → x1.toInt ≠ x2.toInt → R l10_2 l8_2 103 l8_2) →
  (∀ (l10_2 : Int32) (l8_2 : Int32) (x1 : Int32) (x2 : Int32) (x3 : Int32) (x4 : Int32) (k : Nat) (e1 : Int32), gB l10_2 1 16777217 → gB l8_2 (-2147483645) 33554431 → l8_2.toInt < c1.toInt → x1 = bs.getD l8_2.toNatClampNeg 0 → x2 = a2_v l10_2.toNatClampNeg → gB x2 (-128) 127 → x1.toInt = x2.toInt → x3.toInt = l8_2.toInt + 1 → x4.toInt = l10_2.toInt + 1 → R x4 x3 k e1 → R l10_2 l8_2 k e1) →
  R s1 s2 k e1
def tl_RStringLatin1_indexOf2_76_2 (c1 : Int32) (bs : List Int32) (a2_v : Nat → Int32) (s1 : Int32) (s2 : Int32) (k : Nat) (e1 : Int32) : Prop := ∀ R : (Int32) → (Int32) → Nat → (Int32) → Prop,
  (∀ (l10_2 : Int32) (l8_2 : Int32), gB l10_2 1 16777217 → gB l8_2 (-16777214) 33554431 → c1.toInt ≤ l8_2.toInt → R l10_2 l8_2 103 l8_2) →
  (∀ (l10_2 : Int32) (l8_2 : Int32) (x1 : Int32) (x2 : Int32), gB l10_2 1 16777217 → gB l8_2 (-16777214) 33554431 → l8_2.toInt < c1.toInt → x1 = bs.getD l8_2.toNatClampNeg 0 → x2 = a2_v l10_2.toNatClampNeg → gB x2 (-128) 127 → x1.toInt ≠ x2.toInt → R l10_2 l8_2 103 l8_2) →
  (∀ (l10_2 : Int32) (l8_2 : Int32) (x1 : Int32) (x2 : Int32) (x3 : Int32) (x4 : Int32) (k : Nat) (e1 : Int32), gB l10_2 1 16777217 → gB l8_2 (-16777214) 33554431 → l8_2.toInt < c1.toInt → x1 = bs.getD l8_2.toNatClampNeg 0 → x2 = a2_v l10_2.toNatClampNeg → gB x2 (-128) 127 → x1.toInt = x2.toInt → x3.toInt = l8_2.toInt + 1 → x4.toInt = l10_2.toInt + 1 → R x4 x3 k e1 → R l10_2 l8_2 k e1) →
  R s1 s2 k e1
def tl_RStringLatin1_indexOf2_76_3 (c1 : Int32) (bs : List Int32) (a2_v : Nat → Int32) (s1 : Int32) (s2 : Int32) (k : Nat) (e1 : Int32) : Prop := ∀ R : (Int32) → (Int32) → Nat → (Int32) → Prop,
  (∀ (l10_2 : Int32) (l8_2 : Int32), gB l10_2 1 16777217 → gB l8_2 (-2147483644) 33554431 → c1.toInt ≤ l8_2.toInt → R l10_2 l8_2 103 l8_2) →
  (∀ (l10_2 : Int32) (l8_2 : Int32) (x1 : Int32) (x2 : Int32), gB l10_2 1 16777217 → gB l8_2 (-2147483644) 33554431 → l8_2.toInt < c1.toInt → x1 = bs.getD l8_2.toNatClampNeg 0 → x2 = a2_v l10_2.toNatClampNeg → gB x2 (-128) 127 → x1.toInt ≠ x2.toInt → R l10_2 l8_2 103 l8_2) →
  (∀ (l10_2 : Int32) (l8_2 : Int32) (x1 : Int32) (x2 : Int32) (x3 : Int32) (x4 : Int32) (k : Nat) (e1 : Int32), gB l10_2 1 16777217 → gB l8_2 (-2147483644) 33554431 → l8_2.toInt < c1.toInt → x1 = bs.getD l8_2.toNatClampNeg 0 → x2 = a2_v l10_2.toNatClampNeg → gB x2 (-128) 127 → x1.toInt = x2.toInt → x3.toInt = l8_2.toInt + 1 → x4.toInt = l10_2.toInt + 1 → R x4 x3 k e1 → R l10_2 l8_2 k e1) →
  R s1 s2 k e1
def tl_RStringLatin1_indexOf2_30 (c1 : Int32) (bs : List Int32) (c2 : Int32) (s1 : Int32) (k : Nat) (e1 : Int32) : Prop := ∀ R : (Int32) → Nat → (Int32) → Prop,
  (∀ (l7_2 : Int32) (x1 : Int32), gB l7_2 (-2147483646) 16777215 → x1.toInt = l7_2.toInt + 1 → c1.toInt < x1.toInt → R l7_2 52 x1) →
  (∀ (l7_2 : Int32) (x1 : Int32) (x2 : Int32), gB l7_2 (-2147483646) 16777215 → x1.toInt = l7_2.toInt + 1 → x1.toInt ≤ c1.toInt → x2 = bs.getD x1.toNatClampNeg 0 → x2.toInt = c2.toInt → R l7_2 52 x1) →
  (∀ (l7_2 : Int32) (x1 : Int32) (x2 : Int32) (k : Nat) (e1 : Int32), gB l7_2 (-2147483646) 16777215 → x1.toInt = l7_2.toInt + 1 → x1.toInt ≤ c1.toInt → x2 = bs.getD x1.toNatClampNeg 0 → x2.toInt ≠ c2.toInt → R x1 k e1 → R l7_2 k e1) →
  R s1 k e1
def tl_RStringLatin1_indexOf2_14 (c1 : Int32) (bs : List Int32) (c2 : Int32) (a3 : Int32) (a2_v : Nat → Int32) (s1 : Int32) (k : Nat) (e1 : Int32) : Prop := ∀ R : (Int32) → Nat → (Int32) → Prop,
  (∀ (l7_1 : Int32), gB l7_1 (-2147483646) 16777217 → c1.toInt < l7_1.toInt → R l7_1 119 (0 : Int32)) →
  (∀ (l7_1 : Int32) (x1 : Int32) (x2 : Int32) (k : Nat) (e1 : Int32), gB l7_1 (-2147483646) 16777217 → l7_1.toInt ≤ c1.toInt → x1 = bs.getD l7_1.toNatClampNeg 0 → x1.toInt = c2.toInt → c1.toInt < l7_1.toInt → x2.toInt = l7_1.toInt + 1 → R x2 k e1 → R l7_1 k e1) →
  (∀ (l7_1 : Int32) (x1 : Int32) (x2 : Int32) (x3 : Int32) (x4 : Int32) (x5 : Int32) (x6 : Int32) (k : Nat) (e1 : Int32), gB l7_1 (-2147483646) 16777217 → l7_1.toInt ≤ c1.toInt → x1 = bs.getD l7_1.toNatClampNeg 0 → x1.toInt = c2.toInt → l7_1.toInt ≤ c1.toInt → x2.toInt = l7_1.toInt + 1 → x3.toInt = x2.toInt + a3.toInt → x4.toInt = x3.toInt - 1 → tl_RStringLatin1_indexOf2_76 x4 bs a2_v (1 : Int32) x2 103 x5 → x5.toInt ≠ x4.toInt → x6.toInt = l7_1.toInt + 1 → R x6 k e1 → R l7_1 k e1) →
  (∀ (l7_1 : Int32) (x1 : Int32) (x2 : Int32) (x3 : Int32) (x4 : Int32) (x5 : Int32), gB l7_1 (-2147483646) 16777217 → l7_1.toInt ≤ c1.toInt → x1 = bs.getD l7_1.toNatClampNeg 0 → x1.toInt = c2.toInt → l7_1.toInt ≤ c1.toInt → x2.toInt = l7_1.toInt + 1 → x3.toInt = x2.toInt + a3.toInt → x4.toInt = x3.toInt - 1 → tl_RStringLatin1_indexOf2_76 x4 bs a2_v (1 : Int32) x2 103 x5 → x5.toInt = x4.toInt → R l7_1 110 l7_1) →
  (∀ (l7_1 : Int32) (x1 : Int32) (x2 : Int32) (x3 : Int32) (k : Nat) (e1 : Int32), gB l7_1 (-2147483646) 16777217 → l7_1.toInt ≤ c1.toInt → x1 = bs.getD l7_1.toNatClampNeg 0 → x1.toInt ≠ c2.toInt → tl_RStringLatin1_indexOf2_30 c1 bs c2 l7_1 52 x2 → c1.toInt < x2.toInt → x3.toInt = x2.toInt + 1 → R x3 k e1 → R l7_1 k e1) →
  (∀ (l7_1 : Int32) (x1 : Int32) (x2 : Int32) (x3 : Int32) (x4 : Int32) (x5 : Int32) (x6 : Int32) (x7 : Int32) (k : Nat) (e1 : Int32), gB l7_1 (-2147483646) 16777217 → l7_1.toInt ≤ c1.toInt → x1 = bs.getD l7_1.toNatClampNeg 0 → x1.toInt ≠ c2.toInt → tl_RStringLatin1_indexOf2_30 c1 bs c2 l7_1 52 x2 → x2.toInt ≤ c1.toInt → x3.toInt = x2.toInt + 1 → x4.toInt = x3.toInt + a3.toInt → x5.toInt = x4.toInt - 1 → tl_RStringLatin1_indexOf2_76_2 x5 bs a2_v (1 : Int32) x3 103 x6 → x6.toInt ≠ x5.toInt → x7.toInt = x2.toInt + 1 → R x7 k e1 → R l7_1 k e1) →
  (∀ (l7_1 : Int32) (x1 : Int32) (x2 : Int32) (x3 : Int32) (x4 : Int32) (x5 : Int32) (x6 : Int32), gB l7_1 (-2147483646) 16777217 → l7_1.toInt ≤ c1.toInt → x1 = bs.getD l7_1.toNatClampNeg 0 → x1.toInt ≠ c2.toInt → tl_RStringLatin1_indexOf2_30 c1 bs c2 l7_1 52 x2 → x2.toInt ≤ c1.toInt → x3.toInt = x2.toInt + 1 → x4.toInt = x3.toInt + a3.toInt → x5.toInt = x4.toInt - 1 → tl_RStringLatin1_indexOf2_76_2 x5 bs a2_v (1 : Int32) x3 103 x6 → x6.toInt = x5.toInt → R l7_1 110 x2) →
  (∀ (l7_1 : Int32) (x1 : Int32) (x2 : Int32) (x3 : Int32) (x4 : Int32) (x5 : Int32) (x6 : Int32) (x7 : Int32) (k : Nat) (e1 : Int32), gB l7_1 (-2147483646) 16777217 → l7_1.toInt ≤ c1.toInt → x1 = bs.getD l7_1.toNatClampNeg 0 → x1.toInt ≠ c2.toInt → tl_RStringLatin1_indexOf2_30 c1 bs c2 l7_1 52 x2 → x2.toInt ≤ c1.toInt → x3.toInt = x2.toInt + 1 → x4.toInt = x3.toInt + a3.toInt → x5.toInt = x4.toInt - 1 → tl_RStringLatin1_indexOf2_76_3 x5 bs a2_v (1 : Int32) x3 103 x6 → x6.toInt ≠ x5.toInt → x7.toInt = x2.toInt + 1 → R x7 k e1 → R l7_1 k e1) →
  (∀ (l7_1 : Int32) (x1 : Int32) (x2 : Int32) (x3 : Int32) (x4 : Int32) (x5 : Int32) (x6 : Int32), gB l7_1 (-2147483646) 16777217 → l7_1.toInt ≤ c1.toInt → x1 = bs.getD l7_1.toNatClampNeg 0 → x1.toInt ≠ c2.toInt → tl_RStringLatin1_indexOf2_30 c1 bs c2 l7_1 52 x2 → x2.toInt ≤ c1.toInt → x3.toInt = x2.toInt + 1 → x4.toInt = x3.toInt + a3.toInt → x5.toInt = x4.toInt - 1 → tl_RStringLatin1_indexOf2_76_3 x5 bs a2_v (1 : Int32) x3 103 x6 → x6.toInt = x5.toInt → R l7_1 110 x2) →
  R s1 k e1
def tr_RStringLatin1_indexOf2 (bs : List Int32) (a1 : Int32) (a3 : Int32) (a2_v : Nat → Int32) (o1 : Int32) : Prop := ∀ R : (Int32) → Prop,
  (∀ (x1 : Int32) (x2 : Int32), x1 = a2_v (0 : Int32).toNatClampNeg → gB x1 (-128) 127 → x2.toInt = a1.toInt - a3.toInt → tl_RStringLatin1_indexOf2_14 x2 bs x1 a3 a2_v (0 : Int32) 119 (0 : Int32) → R (-1 : Int32)) →
  (∀ (x1 : Int32) (x2 : Int32) (x3 : Int32), x1 = a2_v (0 : Int32).toNatClampNeg → gB x1 (-128) 127 → x2.toInt = a1.toInt - a3.toInt → tl_RStringLatin1_indexOf2_14 x2 bs x1 a3 a2_v (0 : Int32) 110 x3 → R x3) →
  R o1
def tr_RStringLatin1_indexOf (bs : List Int32) (a1_v : Nat → Int32) (a1_n : Nat) (o1 : Int32) : Prop := ∀ R : (Int32) → Prop,
  (∀ (x1 : Int32) (x2 : Int32) (x3 : Int32) (x4 : Int32) (x5 : Int32), x1.toInt = (a1_n : Nat) → x1.toInt ≠ 0 → x2.toInt = (bs.length : Int) → x2.toInt ≠ 0 → x3.toInt = (bs.length : Int) → x4.toInt = (a1_n : Nat) → gB x5 (-2147483646) 16777215 → tr_RStringLatin1_indexOf2 bs x3 x4 a1_v x5 → R x5) →
  (∀ (x1 : Int32) (x2 : Int32), x1.toInt = (a1_n : Nat) → x1.toInt ≠ 0 → x2.toInt = (bs.length : Int) → x2.toInt = 0 → R (-1 : Int32)) →
  R o1
def tr_RString_indexOf (bs : List Int32) (a1_value_v : Nat → Int32) (a1_value_n : Nat) (o1 : Int32) : Prop := ∀ R : (Int32) → Prop,
  (∀ (x1 : Int32), gB x1 (-2147483646) 16777215 → tr_RStringLatin1_indexOf bs a1_value_v a1_value_n x1 → R x1) →
  R o1
def tr_RStringLatin1_canEncode2 (a0 : Int32) (o1 : Int32) : Prop := ∀ R : (Int32) → Prop,
  (a0.toInt < 0 → R (0 : Int32)) →
  (0 ≤ a0.toInt → 255 < a0.toInt → R (0 : Int32)) →
  (0 ≤ a0.toInt → a0.toInt ≤ 255 → R (1 : Int32)) →
  R o1
def tl_RStringLatin1_indexOfChar_7 (a3 : Int32) (bs : List Int32) (c1 : Int32) (s1 : Int32) (k : Nat) (e1 : Int32) : Prop := ∀ R : (Int32) → Nat → (Int32) → Prop,
  (∀ (l5_1 : Int32), gB l5_1 0 65535 → a3.toInt ≤ l5_1.toInt → R l5_1 31 (0 : Int32)) →
  (∀ (l5_1 : Int32) (x1 : Int32) (x2 : Int32) (k : Nat) (e1 : Int32), gB l5_1 0 65535 → l5_1.toInt < a3.toInt → x1 = bs.getD l5_1.toNatClampNeg 0 → x1.toInt ≠ c1.toInt → x2.toInt = l5_1.toInt + 1 → R x2 k e1 → R l5_1 k e1) →
  (∀ (l5_1 : Int32) (x1 : Int32), gB l5_1 0 65535 → l5_1.toInt < a3.toInt → x1 = bs.getD l5_1.toNatClampNeg 0 → x1.toInt = c1.toInt → R l5_1 22 l5_1) →
  R s1 k e1
def tr_RStringLatin1_indexOfChar (bs : List Int32) (a1 : Int32) (a2 : Int32) (a3 : Int32) (o1 : Int32) : Prop := ∀ R : (Int32) → Prop,
  (∀ (x1 : Int32), x1 = a1.toInt8.toInt32 → tl_RStringLatin1_indexOfChar_7 a3 bs x1 a2 31 (0 : Int32) → R (-1 : Int32)) →
  (∀ (x1 : Int32) (x2 : Int32), x1 = a1.toInt8.toInt32 → tl_RStringLatin1_indexOfChar_7 a3 bs x1 a2 22 x2 → R x2) →
  R o1
def tr_RStringLatin1_indexOf3 (bs : List Int32) (a1 : Int32) (a2 : Int32) (a3 : Int32) (o1 : Int32) : Prop := ∀ R : (Int32) → Prop,
  (tr_RStringLatin1_canEncode2 a1 (0 : Int32) → R (-1 : Int32)) →
  (∀ (x1 : Int32) (x2 : Int32) (x3 : Int32) (x4 : Int32), tr_RStringLatin1_canEncode2 a1 (1 : Int32) → (a2.toInt ≤ x1.toInt ∧ 0 ≤ x1.toInt ∧ (x1.toInt = a2.toInt ∨ x1.toInt = 0)) → x2.toInt = (bs.length : Int) → (a3.toInt ≥ x3.toInt ∧ x2.toInt ≥ x3.toInt ∧ (x3.toInt = a3.toInt ∨ x3.toInt = x2.toInt)) → x1.toInt < x3.toInt → gB x4 (-1) 65534 → tr_RStringLatin1_indexOfChar bs a1 x1 x3 x4 → R x4) →
  (∀ (x1 : Int32) (x2 : Int32) (x3 : Int32), tr_RStringLatin1_canEncode2 a1 (1 : Int32) → (a2.toInt ≤ x1.toInt ∧ 0 ≤ x1.toInt ∧ (x1.toInt = a2.toInt ∨ x1.toInt = 0)) → x2.toInt = (bs.length : Int) → (a3.toInt ≥ x3.toInt ∧ x2.toInt ≥ x3.toInt ∧ (x3.toInt = a3.toInt ∨ x3.toInt = x2.toInt)) → x3.toInt ≤ x1.toInt → R (-1 : Int32)) →
  R o1
def tr_RString_indexOf3 (bs : List Int32) (a1 : Int32) (a2 : Int32) (o1 : Int32) : Prop := ∀ R : (Int32) → Prop,
  (∀ (x1 : Int32) (x2 : Int32), gB x1 0 65535 → tr_RString_length2 bs x1 → gB x2 (-1) 65534 → tr_RStringLatin1_indexOf3 bs a1 a2 x1 x2 → R x2) →
  R o1
def tr_RString_indexOf2 (bs : List Int32) (a1 : Int32) (o1 : Int32) : Prop := ∀ R : (Int32) → Prop,
  (∀ (x1 : Int32), gB x1 (-1) 65534 → tr_RString_indexOf3 bs a1 (0 : Int32) x1 → R x1) →
  R o1
def tl_RInteger_stringSize_16 (a0 : Int32) (s1 : Int32) (s2 : Int32) (k : Nat) (e1 : Int32) : Prop := ∀ R : (Int32) → (Int32) → Nat → (Int32) → Prop,
  (∀ (l3_1 : Int32) (l2_1 : Int32), gB l3_1 1 10 → 10 ≤ l3_1.toInt → R l3_1 l2_1 42 (0 : Int32)) →
  (∀ (l3_1 : Int32) (l2_1 : Int32) (x1 : Int32) (x2 : Int32) (k : Nat) (e1 : Int32), gB l3_1 1 10 → l3_1.toInt < 10 → a0.toInt ≤ l2_1.toInt → x1 = (10 : Int32) * l2_1 → x2.toInt = l3_1.toInt + 1 → R x2 x1 k e1 → R l3_1 l2_1 k e1) →
  (∀ (l3_1 : Int32) (l2_1 : Int32), gB l3_1 1 10 → l3_1.toInt < 10 → l2_1.toInt < a0.toInt → R l3_1 l2_1 27 l3_1) →
  R s1 s2 k e1
def tl_RInteger_stringSize_16_2 (c1 : Int32) (s1 : Int32) (s2 : Int32) (k : Nat) (e1 : Int32) : Prop := ∀ R : (Int32) → (Int32) → Nat → (Int32) → Prop,
  (∀ (l3_1 : Int32) (l2_1 : Int32), gB l3_1 1 10 → 10 ≤ l3_1.toInt → R l3_1 l2_1 42 (0 : Int32)) →
  (∀ (l3_1 : Int32) (l2_1 : Int32) (x1 : Int32) (x2 : Int32) (k : Nat) (e1 : Int32), gB l3_1 1 10 → l3_1.toInt < 10 → c1.toInt ≤ l2_1.toInt → x1 = (10 : Int32) * l2_1 → x2.toInt = l3_1.toInt + 1 → R x2 x1 k e1 → R l3_1 l2_1 k e1) →
  (∀ (l3_1 : Int32) (l2_1 : Int32), gB l3_1 1 10 → l3_1.toInt < 10 → l2_1.toInt < c1.toInt → R l3_1 l2_1 27 l3_1) →
  R s1 s2 k e1
def tr_RInteger_stringSize (a0 : Int32) (o1 : Int32) : Prop := ∀ R : (Int32) → Prop,
  (a0.toInt < 0 → tl_RInteger_stringSize_16 a0 (1 : Int32) (-10 : Int32) 42 (0 : Int32) → R (11 : Int32)) →
  (∀ (x1 : Int32) (x2 : Int32), a0.toInt < 0 → tl_RInteger_stringSize_16 a0 (1 : Int32) (-10 : Int32) 27 x1 → x2.toInt = x1.toInt + 1 → R x2) →
  (∀ (x1 : Int32), 0 ≤ a0.toInt → x1 = -a0 → tl_RInteger_stringSize_16_2 x1 (1 : Int32) (-10 : Int32) 42 (0 : Int32) → R (10 : Int32)) →
  (∀ (x1 : Int32) (x2 : Int32) (x3 : Int32), 0 ≤ a0.toInt → x1 = -a0 → tl_RInteger_stringSize_16_2 x1 (1 : Int32) (-10 : Int32) 27 x2 → x3.toInt = x2.toInt + 0 → R x3) →
  R o1
def tl_RInteger_getChars_22 (s1 : Int32) (s2 : Int32) (s3 : Nat → Int32) (k : Nat) (e1 : Int32) (e2 : Int32) (e3 : Nat → Int32) : Prop := ∀ R : (Int32) → (Int32) → (Nat → Int32) → Nat → (Int32) → (Int32) → (Nat → Int32) → Prop,
  (∀ (l0_1 : Int32) (l5_1 : Int32) (a2_v_1 : Nat → Int32), gB l0_1 (-2147483647) 0 → gB l5_1 0 16777216 → (-100) < l0_1.toInt → R l0_1 l5_1 a2_v_1 72 l0_1 l5_1 a2_v_1) →
  (∀ (l0_1 : Int32) (l5_1 : Int32) (a2_v_1 : Nat → Int32) (x1 : Int32) (x2 : Int32) (x3 : Int32) (x4 : Int32) (x5 : Int32) (x6 : Nat → Int32) (x7 : Int32) (x8 : Int32) (x9 : Nat → Int32) (k : Nat) (e1 : Int32) (e2 : Int32) (e3 : Nat → Int32), gB l0_1 (-2147483647) 0 → gB l5_1 0 16777216 → l0_1.toInt ≤ (-100) → x1.toInt = -((-l0_1.toInt) / 100) → x2.toInt = x1.toInt * 100 → x3.toInt = x2.toInt - l0_1.toInt → x4.toInt = l5_1.toInt + (-1) → x5 = dg_O x3.toNatClampNeg → x6 = upd a2_v_1 x4.toNatClampNeg (vp_nar .byte x5) → x7.toInt = x4.toInt + (-1) → x8 = dg_T x3.toNatClampNeg → x9 = upd x6 x7.toNatClampNeg (vp_nar .byte x8) → R x1 x7 x9 k e1 e2 e3 → R l0_1 l5_1 a2_v_1 k e1 e2 e3) →
  R s1 s2 s3 k e1 e2 e3
def tl_RInteger_getChars_22_2 (s1 : Int32) (s2 : Int32) (s3 : Nat → Int32) (k : Nat) (e1 : Int32) (e2 : Int32) (e3 : Nat → Int32) : Prop := ∀ R : (Int32) → (Int32) → (Nat → Int32) → Nat → (Int32) → (Int32) → (Nat → Int32) → Prop,
  (∀ (l5_1 : Int32) (l0_1 : Int32) (a2_v_1 : Nat → Int32), gB l5_1 0 16777216 → gB l0_1 (-2147483648) (-1) → (-100) < l0_1.toInt → R l5_1 l0_1 a2_v_1 72 l5_1 l0_1 a2_v_1) →
  (∀ (l5_1 : Int32) (l0_1 : Int32) (a2_v_1 : Nat → Int32) (x1 : Int32) (x2 : Int32) (x3 : Int32) (x4 : Int32) (x5 : Int32) (x6 : Nat → Int32) (x7 : Int32) (x8 : Int32) (x9 : Nat → Int32) (k : Nat) (e1 : Int32) (e2 : Int32) (e3 : Nat → Int32), gB l5_1 0 16777216 → gB l0_1 (-2147483648) (-1) → l0_1.toInt ≤ (-100) → x1.toInt = -((-l0_1.toInt) / 100) → x2.toInt = x1.toInt * 100 → x3.toInt = x2.toInt - l0_1.toInt → x4.toInt = l5_1.toInt + (-1) → x5 = dg_O x3.toNatClampNeg → x6 = upd a2_v_1 x4.toNatClampNeg (vp_nar .byte x5) → x7.toInt = x4.toInt + (-1) → x8 = dg_T x3.toNatClampNeg → x9 = upd x6 x7.toNatClampNeg (vp_nar .byte x8) → R x7 x1 x9 k e1 e2 e3 → R l5_1 l0_1 a2_v_1 k e1 e2 e3) →
  R s1 s2 s3 k e1 e2 e3
def tr_RInteger_getChars (a0 : Int32) (a1 : Int32) (a2_v : Nat → Int32) (o1 : Int32) (o2 : Nat → Int32) : Prop := ∀ R : (Int32) → (Nat → Int32) → Prop,
  (∀ (x1 : Int32) (x2 : Int32) (x3 : Int32) (x4 : Nat → Int32) (x5 : Int32) (x6 : Int32) (x7 : Int32) (x8 : Nat → Int32), 0 ≤ a0.toInt → x1 = -a0 → tl_RInteger_getChars_22 x1 a1 a2_v 72 x2 x3 x4 → x5.toInt = x3.toInt + (-1) → x6 = -x2 → x7 = dg_O x6.toNatClampNeg → x8 = upd x4 x5.toNatClampNeg (vp_nar .byte x7) → (-9) ≤ x2.toInt → R x5 x8) →
  (∀ (x1 : Int32) (x2 : Int32) (x3 : Int32) (x4 : Nat → Int32) (x5 : Int32) (x6 : Int32) (x7 : Int32) (x8 : Nat → Int32) (x9 : Int32) (x10 : Int32) (x11 : Int32) (x12 : Nat → Int32), 0 ≤ a0.toInt → x1 = -a0 → tl_RInteger_getChars_22 x1 a1 a2_v 72 x2 x3 x4 → x5.toInt = x3.toInt + (-1) → x6 = -x2 → x7 = dg_O x6.toNatClampNeg → x8 = upd x4 x5.toNatClampNeg (vp_nar .byte x7) → x2.toInt < (-9) → x9.toInt = x5.toInt + (-1) → x10 = -x2 → x11 = dg_T x10.toNatClampNeg → x12 = upd x8 x9.toNatClampNeg (vp_nar .byte x11) → R x9 x12) →
  (∀ (x1 : Int32) (x2 : Int32) (x3 : Nat → Int32) (x4 : Int32) (x5 : Int32) (x6 : Int32) (x7 : Nat → Int32) (x8 : Int32) (x9 : Nat → Int32), a0.toInt < 0 → tl_RInteger_getChars_22_2 a1 a0 a2_v 72 x1 x2 x3 → x4.toInt = x1.toInt + (-1) → x5 = -x2 → x6 = dg_O x5.toNatClampNeg → x7 = upd x3 x4.toNatClampNeg (vp_nar .byte x6) → (-9) ≤ x2.toInt → x8.toInt = x4.toInt + (-1) → x9 = upd x7 x8.toNatClampNeg (vp_nar .byte 45) → R x8 x9) →
  (∀ (x1 : Int32) (x2 : Int32) (x3 : Nat → Int32) (x4 : Int32) (x5 : Int32) (x6 : Int32) (x7 : Nat → Int32) (x8 : Int32) (x9 : Int32) (x10 : Int32) (x11 : Nat → Int32) (x12 : Int32) (x13 : Nat → Int32), a0.toInt < 0 → tl_RInteger_getChars_22_2 a1 a0 a2_v 72 x1 x2 x3 → x4.toInt = x1.toInt + (-1) → x5 = -x2 → x6 = dg_O x5.toNatClampNeg → x7 = upd x3 x4.toNatClampNeg (vp_nar .byte x6) → x2.toInt < (-9) → x8.toInt = x4.toInt + (-1) → x9 = -x2 → x10 = dg_T x9.toNatClampNeg → x11 = upd x7 x8.toNatClampNeg (vp_nar .byte x10) → x12.toInt = x8.toInt + (-1) → x13 = upd x11 x12.toNatClampNeg (vp_nar .byte 45) → R x12 x13) →
  R o1 o2
def tr_RAbstractStringBuilder_append7 (a1 : Int32) (a0_count : Int32) (a0_value_v : Nat → Int32) (a0_value_n : Nat) (o1 : Int32) (o2 : Nat) (o3 : Nat → Int32) : Prop := ∀ R : (Int32) → (Nat) → (Nat → Int32) → Prop,
  (∀ (x1 : Int32) (x2 : Int32) (x3 : Nat) (x4 : Nat → Int32) (x5 : Int32) (x6 : Nat → Int32), gB x1 1 11 → tr_RInteger_stringSize a1 x1 → x2.toInt = a0_count.toInt + x1.toInt → tr_RAbstractStringBuilder_ensureCapacityInternal2 x2 a0_value_v a0_value_n x3 x4 → gB x5 0 16777215 → tr_RInteger_getChars a1 x2 x4 x5 x6 → R x2 x3 x6) →
  R o1 o2 o3
def tr_RStringBuilder_append7 (a1 : Int32) (a0_count : Int32) (a0_value_v : Nat → Int32) (a0_value_n : Nat) (o1 : Int32) (o2 : Nat) (o3 : Nat → Int32) : Prop := ∀ R : (Int32) → (Nat) → (Nat → Int32) → Prop,
  (∀ (x1 : Int32) (x2 : Nat) (x3 : Nat → Int32), gB x1 1 16777216 → tr_RAbstractStringBuilder_append7 a1 a0_count a0_value_v a0_value_n x1 x2 x3 → R x1 x2 x3) →
  R o1 o2 o3
def tr_RReader_isDigit2 (a0 : Int32) (o1 : Int32) : Prop := ∀ R : (Int32) → Prop,
  (a0.toInt < 48 → R (0 : Int32)) →
  (48 ≤ a0.toInt → 57 < a0.toInt → R (0 : Int32)) →
  (48 ≤ a0.toInt → a0.toInt ≤ 57 → R (1 : Int32)) →
  R o1
def tr_RMath_min (a0 : Int64) (a1 : Int64) (o1 : Int64) : Prop := ∀ R : (Int64) → Prop,
  (∀ (x1 : Int32), x1 = lg_cmp a0 a1 → 0 < x1.toInt → R a1) →
  (∀ (x1 : Int32), x1 = lg_cmp a0 a1 → x1.toInt ≤ 0 → R a0) →
  R o1
def tl_RReader_number_16 (a0_n : Int32) (a0_t_v : Nat → Int32) (s1 : Int64) (s2 : Int32) (k : Nat) (e1 : Int64) (e2 : Int32) : Prop := ∀ R : (Int64) → (Int32) → Nat → (Int64) → (Int32) → Prop,
  (∀ (l2_1 : Int64) (a0_at_1 : Int32), gB a0_at_1 0 8192 → a0_n.toInt ≤ a0_at_1.toInt → R l2_1 a0_at_1 82 l2_1 a0_at_1) →
  (∀ (l2_1 : Int64) (a0_at_1 : Int32) (x1 : Int32) (x2 : Int32), gB a0_at_1 0 8192 → a0_at_1.toInt < a0_n.toInt → x1 = a0_t_v a0_at_1.toNatClampNeg → gB x1 (-128) 127 → gB x2 0 1 → tr_RReader_isDigit2 x1 x2 → x2.toInt = 0 → R l2_1 a0_at_1 82 l2_1 a0_at_1) →
  (∀ (l2_1 : Int64) (a0_at_1 : Int32) (x1 : Int32) (x2 : Int32) (x3 : Int64) (x4 : Int64) (x5 : Int64) (x6 : Int64) (x7 : Int64) (x8 : Int32) (k : Nat) (e1 : Int64) (e2 : Int32), gB a0_at_1 0 8192 → a0_at_1.toInt < a0_n.toInt → x1 = a0_t_v a0_at_1.toNatClampNeg → gB x1 (-128) 127 → gB x2 0 1 → tr_RReader_isDigit2 x1 x2 → x2.toInt ≠ 0 → x3 = l2_1 * (10 : Int64) → x4 = x1.toInt64 → x5 = x3 + x4 → x6 = x5 - (48 : Int64) → tr_RMath_min x6 (1099511627776 : Int64) x7 → x8.toInt = a0_at_1.toInt + 1 → R x7 x8 k e1 e2 → R l2_1 a0_at_1 k e1 e2) →
  R s1 s2 k e1 e2
def tl_RReader_number_16_2 (a0_n : Int32) (a0_t_v : Nat → Int32) (s1 : Int64) (s2 : Int32) (k : Nat) (e1 : Int64) (e2 : Int32) : Prop := ∀ R : (Int64) → (Int32) → Nat → (Int64) → (Int32) → Prop,
  (∀ (l2_1 : Int64) (a0_at_1 : Int32), gB a0_at_1 0 8192 → a0_n.toInt ≤ a0_at_1.toInt → R l2_1 a0_at_1 82 l2_1 a0_at_1) →
  (∀ (l2_1 : Int64) (a0_at_1 : Int32) (x1 : Int32) (x2 : Int32), gB a0_at_1 0 8192 → a0_at_1.toInt < a0_n.toInt → x1 = a0_t_v a0_at_1.toNatClampNeg → gB x1 (-128) 127 → gB x2 0 1 → tr_RReader_isDigit2 x1 x2 → x2.toInt = 0 → R l2_1 a0_at_1 82 l2_1 a0_at_1) →
  (∀ (l2_1 : Int64) (a0_at_1 : Int32) (x1 : Int32) (x2 : Int32) (x3 : Int64) (x4 : Int64) (x5 : Int64) (x6 : Int64) (x7 : Int64) (x8 : Int32) (k : Nat) (e1 : Int64) (e2 : Int32), gB a0_at_1 0 8192 → a0_at_1.toInt < a0_n.toInt → x1 = a0_t_v a0_at_1.toNatClampNeg → gB x1 (-128) 127 → gB x2 0 1 → tr_RReader_isDigit2 x1 x2 → x2.toInt ≠ 0 → x3 = l2_1 * (10 : Int64) → x4 = x1.toInt64 → x5 = x3 + x4 → x6 = x5 - (48 : Int64) → tr_RMath_min x6 (1099511627776 : Int64) x7 → x8.toInt = a0_at_1.toInt + 1 → R x7 x8 k e1 e2 → R l2_1 a0_at_1 k e1 e2) →
  R s1 s2 k e1 e2
def tr_RReader_number (a1 : Int32) (a0_n : Int32) (a0_at : Int32) (a0_t_v : Nat → Int32) (o1 : Int32) (o2 : Int32) (o3 : Int32) (o4 : gTx) : Prop := ∀ R : (Int32) → (Int32) → (Int32) → (gTx) → Prop,
  (∀ (x1 : Int64) (x2 : Int32) (x3 : Int32) (x4 : Int32) (x5 : Int64), a1.toInt = 0 → tl_RReader_number_16 a0_n a0_t_v (0 : Int64) a0_at 82 x1 x2 → x3 = x1.toInt32 → x4 = x1.toInt32 → x5 = x4.toInt64 → (¬ x1 = x5) → R x2 (6 : Int32) x3 (0, fun _ => 0)) →
  (∀ (x1 : Int64) (x2 : Int32) (x3 : Int32) (x4 : Int32) (x5 : Int64), a1.toInt = 0 → tl_RReader_number_16 a0_n a0_t_v (0 : Int64) a0_at 82 x1 x2 → x3 = x1.toInt32 → x4 = x1.toInt32 → x5 = x4.toInt64 → x1 = x5 → R x2 (4 : Int32) x3 (0, fun _ => 0)) →
  (∀ (x1 : Int32) (x2 : Int64) (x3 : Int32) (x4 : Int64) (x5 : Int32) (x6 : Int32) (x7 : Int64), a1.toInt ≠ 0 → x1.toInt = a0_at.toInt + 1 → tl_RReader_number_16_2 a0_n a0_t_v (0 : Int64) x1 82 x2 x3 → x4 = -x2 → x5 = x4.toInt32 → x6 = x4.toInt32 → x7 = x6.toInt64 → (¬ x4 = x7) → R x3 (6 : Int32) x5 (0, fun _ => 0)) →
  (∀ (x1 : Int32) (x2 : Int64) (x3 : Int32) (x4 : Int64) (x5 : Int32) (x6 : Int32) (x7 : Int64), a1.toInt ≠ 0 → x1.toInt = a0_at.toInt + 1 → tl_RReader_number_16_2 a0_n a0_t_v (0 : Int64) x1 82 x2 x3 → x4 = -x2 → x5 = x4.toInt32 → x6 = x4.toInt32 → x7 = x6.toInt64 → x4 = x7 → R x3 (4 : Int32) x5 (0, fun _ => 0)) →
  R o1 o2 o3 o4
def tr_RReader_symbol (a1 : Int32) (a0_n : Int32) (a0_at : Int32) (a0_t_v : Nat → Int32) (o1 : Int32) (o2 : Int32) (o3 : gTx) : Prop := ∀ R : (Int32) → (Int32) → (gTx) → Prop,
  (∀ (x1 : Int32) (x2 : Int32), (((∃ (y1 : Int32), y1.toInt = a0_at.toInt + 1 ∧ a0_n.toInt ≤ y1.toInt) ∨ (∃ (y1 : Int32) (y2 : Int32), y1.toInt = a0_at.toInt + 1 ∧ y1.toInt < a0_n.toInt ∧ y2 = a0_t_v y1.toNatClampNeg ∧ gB y2 (-128) 127 ∧ y2.toInt ≤ 32) ∨ (∃ (y1 : Int32) (y2 : Int32), y1.toInt = a0_at.toInt + 1 ∧ y1.toInt < a0_n.toInt ∧ y2 = a0_t_v y1.toNatClampNeg ∧ gB y2 (-128) 127 ∧ 32 < y2.toInt ∧ a1.toInt ≤ 32))) → gB x1 0 65535 → tr_RString_length2 sb_32 x1 → a1.toInt ≤ 32 → x2.toInt = a0_at.toInt + 1 → R x2 (6 : Int32) (0, fun _ => 0)) →
  (∀ (x1 : Int32) (x2 : Int32) (x3 : Int32) (x4 : Int32) (x5 : Nat → Int32) (x6 : Int32) (x7 : Int32) (x8 : Nat → Int32) (x9 : Nat) (x10 : Nat → Int32) (x11 : Int32), (((∃ (y1 : Int32), y1.toInt = a0_at.toInt + 1 ∧ a0_n.toInt ≤ y1.toInt) ∨ (∃ (y1 : Int32) (y2 : Int32), y1.toInt = a0_at.toInt + 1 ∧ y1.toInt < a0_n.toInt ∧ y2 = a0_t_v y1.toNatClampNeg ∧ gB y2 (-128) 127 ∧ y2.toInt ≤ 32) ∨ (∃ (y1 : Int32) (y2 : Int32), y1.toInt = a0_at.toInt + 1 ∧ y1.toInt < a0_n.toInt ∧ y2 = a0_t_v y1.toNatClampNeg ∧ gB y2 (-128) 127 ∧ 32 < y2.toInt ∧ a1.toInt ≤ 32))) → gB x1 0 65535 → tr_RString_length2 sb_32 x1 → 32 < a1.toInt → x2 = (a1.toUInt32 % 65536).toInt32 → gB x3 (-1) 65534 → tr_RString_indexOf2 sb_37 x2 x3 → x3.toInt < 0 → gB x4 0 16777216 → (tr_RStringBuilder_append4 sb_32 (0 : Int32) (fun _ => 0) 16 x4 x5) → x6 = (a1.toUInt32 % 65536).toInt32 → gB x7 1 16777216 → tr_RStringBuilder_append x6 x4 x5 16 x7 x8 → tr_RStringBuilder_toString x7 x8 16 x9 x10 → x11.toInt = a0_at.toInt + 1 → R x11 (6 : Int32) (0, fun _ => 0)) →
  (∀ (x1 : Int32) (x2 : Int32) (x3 : Int32) (x4 : Int32) (x5 : Nat → Int32) (x6 : Int32) (x7 : Int32) (x8 : Nat → Int32) (x9 : Nat) (x10 : Nat → Int32) (x11 : Int32), (((∃ (y1 : Int32), y1.toInt = a0_at.toInt + 1 ∧ a0_n.toInt ≤ y1.toInt) ∨ (∃ (y1 : Int32) (y2 : Int32), y1.toInt = a0_at.toInt + 1 ∧ y1.toInt < a0_n.toInt ∧ y2 = a0_t_v y1.toNatClampNeg ∧ gB y2 (-128) 127 ∧ y2.toInt ≤ 32) ∨ (∃ (y1 : Int32) (y2 : Int32), y1.toInt = a0_at.toInt + 1 ∧ y1.toInt < a0_n.toInt ∧ y2 = a0_t_v y1.toNatClampNeg ∧ gB y2 (-128) 127 ∧ 32 < y2.toInt ∧ a1.toInt ≤ 32))) → gB x1 0 65535 → tr_RString_length2 sb_32 x1 → 32 < a1.toInt → x2 = (a1.toUInt32 % 65536).toInt32 → gB x3 (-1) 65534 → tr_RString_indexOf2 sb_37 x2 x3 → 0 ≤ x3.toInt → gB x4 0 16777216 → (tr_RStringBuilder_append4 sb_32 (0 : Int32) (fun _ => 0) 16 x4 x5) → x6 = (a1.toUInt32 % 65536).toInt32 → gB x7 1 16777216 → tr_RStringBuilder_append x6 x4 x5 16 x7 x8 → tr_RStringBuilder_toString x7 x8 16 x9 x10 → x11.toInt = a0_at.toInt + 1 → R x11 (5 : Int32) (x9, x10)) →
  (∀ (x1 : Int32) (x2 : Int32) (x3 : Int32) (x4 : Nat → Int32) (x5 : Int32) (x6 : Int32) (x7 : Nat → Int32) (x8 : Int32) (x9 : Int32) (x10 : Nat → Int32) (x11 : Nat) (x12 : Nat → Int32) (x13 : Int32) (x14 : Int32) (x15 : Nat → Int32) (x16 : Int32) (x17 : Nat → Int32) (x18 : Int32) (x19 : Nat → Int32) (x20 : Nat) (x21 : Nat → Int32) (x22 : Int32) (x23 : Int32) (x24 : Int32) (x25 : Int32) (x26 : Nat → Int32) (x27 : Int32) (x28 : Int32) (x29 : Nat → Int32) (x30 : Nat) (x31 : Nat → Int32), x1.toInt = a0_at.toInt + 1 → x1.toInt < a0_n.toInt → x2 = a0_t_v x1.toNatClampNeg → gB x2 (-128) 127 → 32 < x2.toInt → 32 < a1.toInt → gB x3 0 16777216 → (tr_RStringBuilder_append4 sb_32 (0 : Int32) (fun _ => 0) 16 x3 x4) → x5 = (a1.toUInt32 % 65536).toInt32 → gB x6 1 16777216 → tr_RStringBuilder_append x5 x3 x4 16 x6 x7 → x8 = (x2.toUInt32 % 65536).toInt32 → gB x9 1 16777216 → tr_RStringBuilder_append x8 x6 x7 16 x9 x10 → tr_RStringBuilder_toString x9 x10 16 x11 x12 → gB x13 0 16777216 → tr_RString_length x11 x13 → gB x14 0 16777216 → (tr_RStringBuilder_append4 sb_35 (0 : Int32) (fun _ => 0) 16 x14 x15) → gB x16 0 16777216 → tr_RStringBuilder_append3 x14 x15 16 x12 x11 x16 x17 → gB x18 0 16777216 → tr_RStringBuilder_append4 sb_35 x16 x17 16 x18 x19 → tr_RStringBuilder_toString x18 x19 16 x20 x21 → gB x22 (-2147483646) 16777215 → tr_RString_indexOf sb_36 x21 x20 x22 → x22.toInt < 0 → x23 = (a1.toUInt32 % 65536).toInt32 → gB x24 (-1) 65534 → tr_RString_indexOf2 sb_37 x23 x24 → x24.toInt < 0 → gB x25 0 16777216 → (tr_RStringBuilder_append4 sb_32 (0 : Int32) (fun _ => 0) 16 x25 x26) → x27 = (a1.toUInt32 % 65536).toInt32 → gB x28 1 16777216 → tr_RStringBuilder_append x27 x25 x26 16 x28 x29 → tr_RStringBuilder_toString x28 x29 16 x30 x31 → R x1 (6 : Int32) (0, fun _ => 0)) →
  (∀ (x1 : Int32) (x2 : Int32) (x3 : Int32) (x4 : Nat → Int32) (x5 : Int32) (x6 : Int32) (x7 : Nat → Int32) (x8 : Int32) (x9 : Int32) (x10 : Nat → Int32) (x11 : Nat) (x12 : Nat → Int32) (x13 : Int32) (x14 : Int32) (x15 : Nat → Int32) (x16 : Int32) (x17 : Nat → Int32) (x18 : Int32) (x19 : Nat → Int32) (x20 : Nat) (x21 : Nat → Int32) (x22 : Int32) (x23 : Int32) (x24 : Int32) (x25 : Int32) (x26 : Nat → Int32) (x27 : Int32) (x28 : Int32) (x29 : Nat → Int32) (x30 : Nat) (x31 : Nat → Int32), x1.toInt = a0_at.toInt + 1 → x1.toInt < a0_n.toInt → x2 = a0_t_v x1.toNatClampNeg → gB x2 (-128) 127 → 32 < x2.toInt → 32 < a1.toInt → gB x3 0 16777216 → (tr_RStringBuilder_append4 sb_32 (0 : Int32) (fun _ => 0) 16 x3 x4) → x5 = (a1.toUInt32 % 65536).toInt32 → gB x6 1 16777216 → tr_RStringBuilder_append x5 x3 x4 16 x6 x7 → x8 = (x2.toUInt32 % 65536).toInt32 → gB x9 1 16777216 → tr_RStringBuilder_append x8 x6 x7 16 x9 x10 → tr_RStringBuilder_toString x9 x10 16 x11 x12 → gB x13 0 16777216 → tr_RString_length x11 x13 → gB x14 0 16777216 → (tr_RStringBuilder_append4 sb_35 (0 : Int32) (fun _ => 0) 16 x14 x15) → gB x16 0 16777216 → tr_RStringBuilder_append3 x14 x15 16 x12 x11 x16 x17 → gB x18 0 16777216 → tr_RStringBuilder_append4 sb_35 x16 x17 16 x18 x19 → tr_RStringBuilder_toString x18 x19 16 x20 x21 → gB x22 (-2147483646) 16777215 → tr_RString_indexOf sb_36 x21 x20 x22 → x22.toInt < 0 → x23 = (a1.toUInt32 % 65536).toInt32 → gB x24 (-1) 65534 → tr_RString_indexOf2 sb_37 x23 x24 → 0 ≤ x24.toInt → gB x25 0 16777216 → (tr_RStringBuilder_append4 sb_32 (0 : Int32) (fun _ => 0) 16 x25 x26) → x27 = (a1.toUInt32 % 65536).toInt32 → gB x28 1 16777216 → tr_RStringBuilder_append x27 x25 x26 16 x28 x29 → tr_RStringBuilder_toString x28 x29 16 x30 x31 → R x1 (5 : Int32) (x30, x31)) →
  (∀ (x1 : Int32) (x2 : Int32) (x3 : Int32) (x4 : Nat → Int32) (x5 : Int32) (x6 : Int32) (x7 : Nat → Int32) (x8 : Int32) (x9 : Int32) (x10 : Nat → Int32) (x11 : Nat) (x12 : Nat → Int32) (x13 : Int32) (x14 : Int32) (x15 : Nat → Int32) (x16 : Int32) (x17 : Nat → Int32) (x18 : Int32) (x19 : Nat → Int32) (x20 : Nat) (x21 : Nat → Int32) (x22 : Int32) (x23 : Int32), x1.toInt = a0_at.toInt + 1 → x1.toInt < a0_n.toInt → x2 = a0_t_v x1.toNatClampNeg → gB x2 (-128) 127 → 32 < x2.toInt → 32 < a1.toInt → gB x3 0 16777216 → (tr_RStringBuilder_append4 sb_32 (0 : Int32) (fun _ => 0) 16 x3 x4) → x5 = (a1.toUInt32 % 65536).toInt32 → gB x6 1 16777216 → tr_RStringBuilder_append x5 x3 x4 16 x6 x7 → x8 = (x2.toUInt32 % 65536).toInt32 → gB x9 1 16777216 → tr_RStringBuilder_append x8 x6 x7 16 x9 x10 → tr_RStringBuilder_toString x9 x10 16 x11 x12 → gB x13 0 16777216 → tr_RString_length x11 x13 → gB x14 0 16777216 → (tr_RStringBuilder_append4 sb_35 (0 : Int32) (fun _ => 0) 16 x14 x15) → gB x16 0 16777216 → tr_RStringBuilder_append3 x14 x15 16 x12 x11 x16 x17 → gB x18 0 16777216 → tr_RStringBuilder_append4 sb_35 x16 x17 16 x18 x19 → tr_RStringBuilder_toString x18 x19 16 x20 x21 → gB x22 (-2147483646) 16777215 → tr_RString_indexOf sb_36 x21 x20 x22 → 0 ≤ x22.toInt → x23.toInt = a0_at.toInt + 2 → R x23 (5 : Int32) (x11, x12)) →
  R o1 o2 o3
def tr_RReader_isLetter2 (a0 : Int32) (o1 : Int32) : Prop := ∀ R : (Int32) → Prop,
  (a0.toInt < 97 → R (0 : Int32)) →
  (97 ≤ a0.toInt → 122 < a0.toInt → R (0 : Int32)) →
  (97 ≤ a0.toInt → a0.toInt ≤ 122 → R (1 : Int32)) →
  R o1
def tr_RAbstractStringBuilder_append8 (a1 : Int32) (a0_count : Int32) (a0_value_v : Nat → Int32) (a0_value_n : Nat) (o1 : Int32) (o2 : Nat) (o3 : Nat → Int32) : Prop := ∀ R : (Int32) → (Nat) → (Nat → Int32) → Prop,
  (∀ (x1 : Int32) (x2 : Nat) (x3 : Nat → Int32) (x4 : Int32) (x5 : Int32) (x6 : Nat → Int32), x1.toInt = a0_count.toInt + 1 → tr_RAbstractStringBuilder_ensureCapacityInternal2 x1 a0_value_v a0_value_n x2 x3 → tr_RStringLatin1_canEncode a1 (1 : Int32) → x4.toInt = a0_count.toInt + 1 → x5 = a1.toInt8.toInt32 → x6 = upd x3 a0_count.toNatClampNeg (vp_nar .byte x5) → R x4 x2 x6) →
  R o1 o2 o3
def tr_RStringBuilder_append8 (a1 : Int32) (a0_count : Int32) (a0_value_v : Nat → Int32) (a0_value_n : Nat) (o1 : Int32) (o2 : Nat) (o3 : Nat → Int32) : Prop := ∀ R : (Int32) → (Nat) → (Nat → Int32) → Prop,
  (∀ (x1 : Int32) (x2 : Nat) (x3 : Nat → Int32), gB x1 1 16777216 → tr_RAbstractStringBuilder_append8 a1 a0_count a0_value_v a0_value_n x1 x2 x3 → R x1 x2 x3) →
  R o1 o2 o3
def tl_RReader_word_186 (a0_n : Int32) (a0_t_v : Nat → Int32) (s1 : Int32) (s2 : Int32) (s3 : Nat) (s4 : Nat → Int32) (k : Nat) (e1 : Int32) (e2 : Int32) (e3 : Nat) (e4 : Nat → Int32) : Prop := ∀ R : (Int32) → (Int32) → (Nat) → (Nat → Int32) → Nat → (Int32) → (Int32) → (Nat) → (Nat → Int32) → Prop,
  (∀ (a0_at_1 : Int32) (a3_count_1 : Int32) (a3_value_n_1 : Nat) (a3_value_v_1 : Nat → Int32), gB a0_at_1 0 8192 → gB a3_count_1 0 16777216 → a0_n.toInt ≤ a0_at_1.toInt → R a0_at_1 a3_count_1 a3_value_n_1 a3_value_v_1 240 a0_at_1 a3_count_1 a3_value_n_1 a3_value_v_1) →
  (∀ (a0_at_1 : Int32) (a3_count_1 : Int32) (a3_value_n_1 : Nat) (a3_value_v_1 : Nat → Int32) (x1 : Int32) (x2 : Int32), gB a0_at_1 0 8192 → gB a3_count_1 0 16777216 → a0_at_1.toInt < a0_n.toInt → x1 = a0_t_v a0_at_1.toNatClampNeg → gB x1 (-128) 127 → gB x2 0 1 → tr_RReader_isLetter2 x1 x2 → x2.toInt = 0 → R a0_at_1 a3_count_1 a3_value_n_1 a3_value_v_1 240 a0_at_1 a3_count_1 a3_value_n_1 a3_value_v_1) →
  (∀ (a0_at_1 : Int32) (a3_count_1 : Int32) (a3_value_n_1 : Nat) (a3_value_v_1 : Nat → Int32) (x1 : Int32) (x2 : Int32) (x3 : Int32) (x4 : Int32) (x5 : Nat) (x6 : Nat → Int32) (x7 : Int32) (k : Nat) (e1 : Int32) (e2 : Int32) (e3 : Nat) (e4 : Nat → Int32), gB a0_at_1 0 8192 → gB a3_count_1 0 16777216 → a0_at_1.toInt < a0_n.toInt → x1 = a0_t_v a0_at_1.toNatClampNeg → gB x1 (-128) 127 → gB x2 0 1 → tr_RReader_isLetter2 x1 x2 → x2.toInt ≠ 0 → x3 = (x1.toUInt32 % 65536).toInt32 → gB x4 1 16777216 → tr_RStringBuilder_append8 x3 a3_count_1 a3_value_v_1 a3_value_n_1 x4 x5 x6 → x7.toInt = a0_at_1.toInt + 1 → R x7 x4 x5 x6 k e1 e2 e3 e4 → R a0_at_1 a3_count_1 a3_value_n_1 a3_value_v_1 k e1 e2 e3 e4) →
  R s1 s2 s3 s4 k e1 e2 e3 e4
def tl_RReader_word_70 (a0_n : Int32) (a0_t_v : Nat → Int32) (s1 : Int64) (s2 : Int32) (k : Nat) (e1 : Int64) (e2 : Int32) : Prop := ∀ R : (Int64) → (Int32) → Nat → (Int64) → (Int32) → Prop,
  (∀ (l2_1 : Int64) (a0_at_1 : Int32), gB a0_at_1 0 8192 → a0_n.toInt ≤ a0_at_1.toInt → R l2_1 a0_at_1 136 l2_1 a0_at_1) →
  (∀ (l2_1 : Int64) (a0_at_1 : Int32) (x1 : Int32) (x2 : Int32), gB a0_at_1 0 8192 → a0_at_1.toInt < a0_n.toInt → x1 = a0_t_v a0_at_1.toNatClampNeg → gB x1 (-128) 127 → gB x2 0 1 → tr_RReader_isDigit2 x1 x2 → x2.toInt = 0 → R l2_1 a0_at_1 136 l2_1 a0_at_1) →
  (∀ (l2_1 : Int64) (a0_at_1 : Int32) (x1 : Int32) (x2 : Int32) (x3 : Int64) (x4 : Int64) (x5 : Int64) (x6 : Int64) (x7 : Int64) (x8 : Int32) (k : Nat) (e1 : Int64) (e2 : Int32), gB a0_at_1 0 8192 → a0_at_1.toInt < a0_n.toInt → x1 = a0_t_v a0_at_1.toNatClampNeg → gB x1 (-128) 127 → gB x2 0 1 → tr_RReader_isDigit2 x1 x2 → x2.toInt ≠ 0 → x3 = l2_1 * (10 : Int64) → x4 = x1.toInt64 → x5 = x3 + x4 → x6 = x5 - (48 : Int64) → tr_RMath_min x6 (1000000 : Int64) x7 → x8.toInt = a0_at_1.toInt + 1 → R x7 x8 k e1 e2 → R l2_1 a0_at_1 k e1 e2) →
  R s1 s2 k e1 e2
def tl_RReader_word_70_2 (a0_n : Int32) (a0_t_v : Nat → Int32) (s1 : Int64) (s2 : Int32) (k : Nat) (e1 : Int64) (e2 : Int32) : Prop := ∀ R : (Int64) → (Int32) → Nat → (Int64) → (Int32) → Prop,
  (∀ (l2_1 : Int64) (a0_at_1 : Int32), gB a0_at_1 0 8192 → a0_n.toInt ≤ a0_at_1.toInt → R l2_1 a0_at_1 136 l2_1 a0_at_1) →
  (∀ (l2_1 : Int64) (a0_at_1 : Int32) (x1 : Int32) (x2 : Int32), gB a0_at_1 0 8192 → a0_at_1.toInt < a0_n.toInt → x1 = a0_t_v a0_at_1.toNatClampNeg → gB x1 (-128) 127 → gB x2 0 1 → tr_RReader_isDigit2 x1 x2 → x2.toInt = 0 → R l2_1 a0_at_1 136 l2_1 a0_at_1) →
  (∀ (l2_1 : Int64) (a0_at_1 : Int32) (x1 : Int32) (x2 : Int32) (x3 : Int64) (x4 : Int64) (x5 : Int64) (x6 : Int64) (x7 : Int64) (x8 : Int32) (k : Nat) (e1 : Int64) (e2 : Int32), gB a0_at_1 0 8192 → a0_at_1.toInt < a0_n.toInt → x1 = a0_t_v a0_at_1.toNatClampNeg → gB x1 (-128) 127 → gB x2 0 1 → tr_RReader_isDigit2 x1 x2 → x2.toInt ≠ 0 → x3 = l2_1 * (10 : Int64) → x4 = x1.toInt64 → x5 = x3 + x4 → x6 = x5 - (48 : Int64) → tr_RMath_min x6 (1000000 : Int64) x7 → x8.toInt = a0_at_1.toInt + 1 → R x7 x8 k e1 e2 → R l2_1 a0_at_1 k e1 e2) →
  R s1 s2 k e1 e2
def tr_RReader_word (a0_n : Int32) (a0_at : Int32) (a0_value : Int32) (a0_t_v : Nat → Int32) (o1 : Int32) (o2 : Int32) (o3 : Int32) (o4 : gTx) : Prop := ∀ R : (Int32) → (Int32) → (Int32) → (gTx) → Prop,
  (∀ (x1 : Int32) (x2 : Int32) (x3 : Int32) (x4 : Nat) (x5 : Nat → Int32) (x6 : Nat) (x7 : Nat → Int32) (x8 : Int32) (x9 : Nat → Int32) (x10 : Int32) (x11 : Nat) (x12 : Nat → Int32) (x13 : Int32) (x14 : Nat) (x15 : Nat → Int32) (x16 : Nat) (x17 : Nat → Int32) (x18 : Int32), x1 = a0_t_v a0_at.toNatClampNeg → gB x1 (-128) 127 → (((∃ (y1 : Int32), x1.toInt = 118 ∧ y1.toInt = a0_at.toInt + 1 ∧ a0_n.toInt ≤ y1.toInt) ∨ (∃ (y1 : Int32) (y2 : Int32) (y3 : Int32), x1.toInt = 118 ∧ y1.toInt = a0_at.toInt + 1 ∧ y1.toInt < a0_n.toInt ∧ y2 = a0_t_v y1.toNatClampNeg ∧ gB y2 (-128) 127 ∧ gB y3 0 1 ∧ tr_RReader_isDigit2 y2 y3 ∧ y3.toInt = 0) ∨ (x1.toInt ≠ 118 ∧ x1.toInt ≠ 98) ∨ (∃ (y1 : Int32), x1.toInt ≠ 118 ∧ x1.toInt = 98 ∧ y1.toInt = a0_at.toInt + 1 ∧ a0_n.toInt ≤ y1.toInt) ∨ (∃ (y1 : Int32) (y2 : Int32) (y3 : Int32), x1.toInt ≠ 118 ∧ x1.toInt = 98 ∧ y1.toInt = a0_at.toInt + 1 ∧ y1.toInt < a0_n.toInt ∧ y2 = a0_t_v y1.toNatClampNeg ∧ gB y2 (-128) 127 ∧ gB y3 0 1 ∧ tr_RReader_isDigit2 y2 y3 ∧ y3.toInt = 0))) → (tl_RReader_word_186 a0_n a0_t_v a0_at (0 : Int32) 16 (fun _ => 0 : Nat → Int32) 240 x2 x3 x4 x5) → tr_RStringBuilder_toString x3 x5 x4 x6 x7 → gB x8 0 16777216 → (tr_RStringBuilder_append4 sb_35 (0 : Int32) (fun _ => 0) 16 x8 x9) → gB x10 0 16777216 → tr_RStringBuilder_append5 x8 x9 16 x7 x6 x10 x11 x12 → gB x13 0 16777216 → tr_RStringBuilder_append6 sb_35 x10 x12 x11 x13 x14 x15 → tr_RStringBuilder_toString x13 x15 x14 x16 x17 → gB x18 (-2147483646) 16777215 → tr_RString_indexOf sb_34 x17 x16 x18 → x18.toInt < 0 → R x2 (6 : Int32) a0_value (0, fun _ => 0)) →
  (∀ (x1 : Int32) (x2 : Int32) (x3 : Int32) (x4 : Nat) (x5 : Nat → Int32) (x6 : Nat) (x7 : Nat → Int32) (x8 : Int32) (x9 : Nat → Int32) (x10 : Int32) (x11 : Nat) (x12 : Nat → Int32) (x13 : Int32) (x14 : Nat) (x15 : Nat → Int32) (x16 : Nat) (x17 : Nat → Int32) (x18 : Int32), x1 = a0_t_v a0_at.toNatClampNeg → gB x1 (-128) 127 → (((∃ (y1 : Int32), x1.toInt = 118 ∧ y1.toInt = a0_at.toInt + 1 ∧ a0_n.toInt ≤ y1.toInt) ∨ (∃ (y1 : Int32) (y2 : Int32) (y3 : Int32), x1.toInt = 118 ∧ y1.toInt = a0_at.toInt + 1 ∧ y1.toInt < a0_n.toInt ∧ y2 = a0_t_v y1.toNatClampNeg ∧ gB y2 (-128) 127 ∧ gB y3 0 1 ∧ tr_RReader_isDigit2 y2 y3 ∧ y3.toInt = 0) ∨ (x1.toInt ≠ 118 ∧ x1.toInt ≠ 98) ∨ (∃ (y1 : Int32), x1.toInt ≠ 118 ∧ x1.toInt = 98 ∧ y1.toInt = a0_at.toInt + 1 ∧ a0_n.toInt ≤ y1.toInt) ∨ (∃ (y1 : Int32) (y2 : Int32) (y3 : Int32), x1.toInt ≠ 118 ∧ x1.toInt = 98 ∧ y1.toInt = a0_at.toInt + 1 ∧ y1.toInt < a0_n.toInt ∧ y2 = a0_t_v y1.toNatClampNeg ∧ gB y2 (-128) 127 ∧ gB y3 0 1 ∧ tr_RReader_isDigit2 y2 y3 ∧ y3.toInt = 0))) → (tl_RReader_word_186 a0_n a0_t_v a0_at (0 : Int32) 16 (fun _ => 0 : Nat → Int32) 240 x2 x3 x4 x5) → tr_RStringBuilder_toString x3 x5 x4 x6 x7 → gB x8 0 16777216 → (tr_RStringBuilder_append4 sb_35 (0 : Int32) (fun _ => 0) 16 x8 x9) → gB x10 0 16777216 → tr_RStringBuilder_append5 x8 x9 16 x7 x6 x10 x11 x12 → gB x13 0 16777216 → tr_RStringBuilder_append6 sb_35 x10 x12 x11 x13 x14 x15 → tr_RStringBuilder_toString x13 x15 x14 x16 x17 → gB x18 (-2147483646) 16777215 → tr_RString_indexOf sb_34 x17 x16 x18 → 0 ≤ x18.toInt → R x2 (1 : Int32) a0_value (x6, x7)) →
  (∀ (x1 : Int32) (x2 : Int32) (x3 : Int32) (x4 : Int32) (x5 : Int64) (x6 : Int32) (x7 : Int32) (x8 : Int32), x1 = a0_t_v a0_at.toNatClampNeg → gB x1 (-128) 127 → x1.toInt = 118 → x2.toInt = a0_at.toInt + 1 → x2.toInt < a0_n.toInt → x3 = a0_t_v x2.toNatClampNeg → gB x3 (-128) 127 → gB x4 0 1 → tr_RReader_isDigit2 x3 x4 → x4.toInt ≠ 0 → tl_RReader_word_70 a0_n a0_t_v (0 : Int64) x2 136 x5 x6 → x7 = x5.toInt32 → x8 = lg_cmp x5 (99 : Int64) → 0 < x8.toInt → R x6 (6 : Int32) x7 (0, fun _ => 0)) →
  (∀ (x1 : Int32) (x2 : Int32) (x3 : Int32) (x4 : Int32) (x5 : Int64) (x6 : Int32) (x7 : Int32) (x8 : Int32), x1 = a0_t_v a0_at.toNatClampNeg → gB x1 (-128) 127 → x1.toInt = 118 → x2.toInt = a0_at.toInt + 1 → x2.toInt < a0_n.toInt → x3 = a0_t_v x2.toNatClampNeg → gB x3 (-128) 127 → gB x4 0 1 → tr_RReader_isDigit2 x3 x4 → x4.toInt ≠ 0 → tl_RReader_word_70 a0_n a0_t_v (0 : Int64) x2 136 x5 x6 → x7 = x5.toInt32 → x8 = lg_cmp x5 (99 : Int64) → x8.toInt ≤ 0 → R x6 (2 : Int32) x7 (0, fun _ => 0)) →
  (∀ (x1 : Int32) (x2 : Int32) (x3 : Int32) (x4 : Int32) (x5 : Int64) (x6 : Int32) (x7 : Int32) (x8 : Int32), x1 = a0_t_v a0_at.toNatClampNeg → gB x1 (-128) 127 → x1.toInt ≠ 118 → x1.toInt = 98 → x2.toInt = a0_at.toInt + 1 → x2.toInt < a0_n.toInt → x3 = a0_t_v x2.toNatClampNeg → gB x3 (-128) 127 → gB x4 0 1 → tr_RReader_isDigit2 x3 x4 → x4.toInt ≠ 0 → tl_RReader_word_70_2 a0_n a0_t_v (0 : Int64) x2 136 x5 x6 → x7 = x5.toInt32 → x8 = lg_cmp x5 (39 : Int64) → 0 < x8.toInt → R x6 (6 : Int32) x7 (0, fun _ => 0)) →
  (∀ (x1 : Int32) (x2 : Int32) (x3 : Int32) (x4 : Int32) (x5 : Int64) (x6 : Int32) (x7 : Int32) (x8 : Int32), x1 = a0_t_v a0_at.toNatClampNeg → gB x1 (-128) 127 → x1.toInt ≠ 118 → x1.toInt = 98 → x2.toInt = a0_at.toInt + 1 → x2.toInt < a0_n.toInt → x3 = a0_t_v x2.toNatClampNeg → gB x3 (-128) 127 → gB x4 0 1 → tr_RReader_isDigit2 x3 x4 → x4.toInt ≠ 0 → tl_RReader_word_70_2 a0_n a0_t_v (0 : Int64) x2 136 x5 x6 → x7 = x5.toInt32 → x8 = lg_cmp x5 (39 : Int64) → x8.toInt ≤ 0 → R x6 (3 : Int32) x7 (0, fun _ => 0)) →
  R o1 o2 o3 o4
def tl_RReader_next_35 (a0_n : Int32) (a0_t_v : Nat → Int32) (s1 : Int32) (k : Nat) (e1 : Int32) : Prop := ∀ R : (Int32) → Nat → (Int32) → Prop,
  (∀ (a0_at_2 : Int32), gB a0_at_2 0 8192 → a0_n.toInt ≤ a0_at_2.toInt → R a0_at_2 107 a0_at_2) →
  (∀ (a0_at_2 : Int32) (x1 : Int32), gB a0_at_2 0 8192 → a0_at_2.toInt < a0_n.toInt → x1 = a0_t_v a0_at_2.toNatClampNeg → gB x1 (-128) 127 → x1.toInt = 10 → R a0_at_2 107 a0_at_2) →
  (∀ (a0_at_2 : Int32) (x1 : Int32) (x2 : Int32) (k : Nat) (e1 : Int32), gB a0_at_2 0 8192 → a0_at_2.toInt < a0_n.toInt → x1 = a0_t_v a0_at_2.toNatClampNeg → gB x1 (-128) 127 → x1.toInt ≠ 10 → x2.toInt = a0_at_2.toInt + 1 → R x2 k e1 → R a0_at_2 k e1) →
  R s1 k e1
def tl_RReader_next_8 (a0_n : Int32) (a0_t_v : Nat → Int32) (s1 : Int32) (k : Nat) (e1 : Int32) : Prop := ∀ R : (Int32) → Nat → (Int32) → Prop,
  (∀ (a0_at_1 : Int32), gB a0_at_1 0 8192 → a0_n.toInt ≤ a0_at_1.toInt → R a0_at_1 110 a0_at_1) →
  (∀ (a0_at_1 : Int32) (x1 : Int32) (x2 : Int32) (k : Nat) (e1 : Int32), gB a0_at_1 0 8192 → a0_at_1.toInt < a0_n.toInt → x1 = a0_t_v a0_at_1.toNatClampNeg → gB x1 (-128) 127 → x1.toInt ≠ 59 → x1.toInt = 9 → x2.toInt = a0_at_1.toInt + 1 → R x2 k e1 → R a0_at_1 k e1) →
  (∀ (a0_at_1 : Int32) (x1 : Int32) (x2 : Int32) (k : Nat) (e1 : Int32), gB a0_at_1 0 8192 → a0_at_1.toInt < a0_n.toInt → x1 = a0_t_v a0_at_1.toNatClampNeg → gB x1 (-128) 127 → x1.toInt ≠ 59 → x1.toInt ≠ 9 → x1.toInt = 10 → x2.toInt = a0_at_1.toInt + 1 → R x2 k e1 → R a0_at_1 k e1) →
  (∀ (a0_at_1 : Int32) (x1 : Int32) (x2 : Int32) (k : Nat) (e1 : Int32), gB a0_at_1 0 8192 → a0_at_1.toInt < a0_n.toInt → x1 = a0_t_v a0_at_1.toNatClampNeg → gB x1 (-128) 127 → x1.toInt ≠ 59 → x1.toInt ≠ 9 → x1.toInt ≠ 10 → x1.toInt = 13 → x2.toInt = a0_at_1.toInt + 1 → R x2 k e1 → R a0_at_1 k e1) →
  (∀ (a0_at_1 : Int32) (x1 : Int32), gB a0_at_1 0 8192 → a0_at_1.toInt < a0_n.toInt → x1 = a0_t_v a0_at_1.toNatClampNeg → gB x1 (-128) 127 → x1.toInt ≠ 59 → x1.toInt ≠ 9 → x1.toInt ≠ 10 → x1.toInt ≠ 13 → x1.toInt ≠ 32 → R a0_at_1 110 a0_at_1) →
  (∀ (a0_at_1 : Int32) (x1 : Int32) (x2 : Int32) (k : Nat) (e1 : Int32), gB a0_at_1 0 8192 → a0_at_1.toInt < a0_n.toInt → x1 = a0_t_v a0_at_1.toNatClampNeg → gB x1 (-128) 127 → x1.toInt ≠ 59 → x1.toInt ≠ 9 → x1.toInt ≠ 10 → x1.toInt ≠ 13 → x1.toInt = 32 → x2.toInt = a0_at_1.toInt + 1 → R x2 k e1 → R a0_at_1 k e1) →
  (∀ (a0_at_1 : Int32) (x1 : Int32) (x2 : Int32) (k : Nat) (e1 : Int32), gB a0_at_1 0 8192 → a0_at_1.toInt < a0_n.toInt → x1 = a0_t_v a0_at_1.toNatClampNeg → gB x1 (-128) 127 → x1.toInt = 59 → tl_RReader_next_35 a0_n a0_t_v a0_at_1 107 x2 → R x2 k e1 → R a0_at_1 k e1) →
  R s1 k e1
def tr_RReader_next (a0_n : Int32) (a0_at : Int32) (a0_kind : Int32) (a0_value : Int32) (a0_t_v : Nat → Int32) (o1 : Int32) (o2 : Int32) (o3 : Int32) (o4 : Int32) (o5 : gTx) : Prop := ∀ R : (Int32) → (Int32) → (Int32) → (Int32) → (gTx) → Prop,
  (∀ (x1 : Int32) (x2 : Int32) (x3 : Int32) (x4 : Int32) (x5 : gTx) (x6 : Int32) (x7 : Int32) (x8 : Int32), tl_RReader_next_8 a0_n a0_t_v a0_at 110 x1 → x1.toInt ≠ a0_n.toInt → x2 = a0_t_v x1.toNatClampNeg → gB x2 (-128) 127 → (((x2.toInt ≠ 45) ∨ (∃ (y1 : Int32), x2.toInt = 45 ∧ y1.toInt = x1.toInt + 1 ∧ a0_n.toInt ≤ y1.toInt) ∨ (∃ (y1 : Int32) (y2 : Int32) (y3 : Int32), x2.toInt = 45 ∧ y1.toInt = x1.toInt + 1 ∧ y1.toInt < a0_n.toInt ∧ y2 = a0_t_v y1.toNatClampNeg ∧ gB y2 (-128) 127 ∧ gB y3 0 1 ∧ tr_RReader_isDigit2 y2 y3 ∧ y3.toInt = 0) ∨ (∃ (y1 : Int32) (y2 : Int32) (y3 : Int32), x2.toInt = 45 ∧ y1.toInt = x1.toInt + 1 ∧ y1.toInt < a0_n.toInt ∧ y2 = a0_t_v y1.toNatClampNeg ∧ gB y2 (-128) 127 ∧ gB y3 0 1 ∧ tr_RReader_isDigit2 y2 y3 ∧ y3.toInt ≠ 0 ∧ a0_kind.toInt = 2) ∨ (∃ (y1 : Int32) (y2 : Int32) (y3 : Int32), x2.toInt = 45 ∧ y1.toInt = x1.toInt + 1 ∧ y1.toInt < a0_n.toInt ∧ y2 = a0_t_v y1.toNatClampNeg ∧ gB y2 (-128) 127 ∧ gB y3 0 1 ∧ tr_RReader_isDigit2 y2 y3 ∧ y3.toInt ≠ 0 ∧ a0_kind.toInt ≠ 2 ∧ a0_kind.toInt = 4))) → gB x3 0 1 → tr_RReader_isLetter2 x2 x3 → x3.toInt = 0 → gB x4 0 1 → tr_RReader_isDigit2 x2 x4 → x4.toInt ≠ 0 → gB x6 0 8192 → gB x7 4 6 → tr_RReader_number (0 : Int32) a0_n x1 a0_t_v x6 x7 x8 x5 → R x6 x7 x1 x8 x5) →
  (∀ (x1 : Int32) (x2 : Int32) (x3 : Int32) (x4 : Int32) (x5 : gTx) (x6 : Int32) (x7 : Int32), tl_RReader_next_8 a0_n a0_t_v a0_at 110 x1 → x1.toInt ≠ a0_n.toInt → x2 = a0_t_v x1.toNatClampNeg → gB x2 (-128) 127 → (((x2.toInt ≠ 45) ∨ (∃ (y1 : Int32), x2.toInt = 45 ∧ y1.toInt = x1.toInt + 1 ∧ a0_n.toInt ≤ y1.toInt) ∨ (∃ (y1 : Int32) (y2 : Int32) (y3 : Int32), x2.toInt = 45 ∧ y1.toInt = x1.toInt + 1 ∧ y1.toInt < a0_n.toInt ∧ y2 = a0_t_v y1.toNatClampNeg ∧ gB y2 (-128) 127 ∧ gB y3 0 1 ∧ tr_RReader_isDigit2 y2 y3 ∧ y3.toInt = 0) ∨ (∃ (y1 : Int32) (y2 : Int32) (y3 : Int32), x2.toInt = 45 ∧ y1.toInt = x1.toInt + 1 ∧ y1.toInt < a0_n.toInt ∧ y2 = a0_t_v y1.toNatClampNeg ∧ gB y2 (-128) 127 ∧ gB y3 0 1 ∧ tr_RReader_isDigit2 y2 y3 ∧ y3.toInt ≠ 0 ∧ a0_kind.toInt = 2) ∨ (∃ (y1 : Int32) (y2 : Int32) (y3 : Int32), x2.toInt = 45 ∧ y1.toInt = x1.toInt + 1 ∧ y1.toInt < a0_n.toInt ∧ y2 = a0_t_v y1.toNatClampNeg ∧ gB y2 (-128) 127 ∧ gB y3 0 1 ∧ tr_RReader_isDigit2 y2 y3 ∧ y3.toInt ≠ 0 ∧ a0_kind.toInt ≠ 2 ∧ a0_kind.toInt = 4))) → gB x3 0 1 → tr_RReader_isLetter2 x2 x3 → x3.toInt = 0 → gB x4 0 1 → tr_RReader_isDigit2 x2 x4 → x4.toInt = 0 → gB x6 1 8192 → gB x7 5 6 → tr_RReader_symbol x2 a0_n x1 a0_t_v x6 x7 x5 → R x6 x7 x1 a0_value x5) →
  (∀ (x1 : Int32) (x2 : Int32) (x3 : Int32) (x4 : gTx) (x5 : Int32) (x6 : Int32) (x7 : Int32), tl_RReader_next_8 a0_n a0_t_v a0_at 110 x1 → x1.toInt ≠ a0_n.toInt → x2 = a0_t_v x1.toNatClampNeg → gB x2 (-128) 127 → (((x2.toInt ≠ 45) ∨ (∃ (y1 : Int32), x2.toInt = 45 ∧ y1.toInt = x1.toInt + 1 ∧ a0_n.toInt ≤ y1.toInt) ∨ (∃ (y1 : Int32) (y2 : Int32) (y3 : Int32), x2.toInt = 45 ∧ y1.toInt = x1.toInt + 1 ∧ y1.toInt < a0_n.toInt ∧ y2 = a0_t_v y1.toNatClampNeg ∧ gB y2 (-128) 127 ∧ gB y3 0 1 ∧ tr_RReader_isDigit2 y2 y3 ∧ y3.toInt = 0) ∨ (∃ (y1 : Int32) (y2 : Int32) (y3 : Int32), x2.toInt = 45 ∧ y1.toInt = x1.toInt + 1 ∧ y1.toInt < a0_n.toInt ∧ y2 = a0_t_v y1.toNatClampNeg ∧ gB y2 (-128) 127 ∧ gB y3 0 1 ∧ tr_RReader_isDigit2 y2 y3 ∧ y3.toInt ≠ 0 ∧ a0_kind.toInt = 2) ∨ (∃ (y1 : Int32) (y2 : Int32) (y3 : Int32), x2.toInt = 45 ∧ y1.toInt = x1.toInt + 1 ∧ y1.toInt < a0_n.toInt ∧ y2 = a0_t_v y1.toNatClampNeg ∧ gB y2 (-128) 127 ∧ gB y3 0 1 ∧ tr_RReader_isDigit2 y2 y3 ∧ y3.toInt ≠ 0 ∧ a0_kind.toInt ≠ 2 ∧ a0_kind.toInt = 4))) → gB x3 0 1 → tr_RReader_isLetter2 x2 x3 → x3.toInt ≠ 0 → gB x5 0 8192 → gB x6 1 6 → tr_RReader_word a0_n x1 a0_value a0_t_v x5 x6 x7 x4 → R x5 x6 x1 x7 x4) →
  (∀ (x1 : Int32) (x2 : Int32) (x3 : Int32) (x4 : Int32) (x5 : Int32) (x6 : Int32) (x7 : Int32) (x8 : gTx) (x9 : Int32) (x10 : Int32) (x11 : Int32), tl_RReader_next_8 a0_n a0_t_v a0_at 110 x1 → x1.toInt ≠ a0_n.toInt → x2 = a0_t_v x1.toNatClampNeg → gB x2 (-128) 127 → x2.toInt = 45 → x3.toInt = x1.toInt + 1 → x3.toInt < a0_n.toInt → x4 = a0_t_v x3.toNatClampNeg → gB x4 (-128) 127 → gB x5 0 1 → tr_RReader_isDigit2 x4 x5 → x5.toInt ≠ 0 → a0_kind.toInt ≠ 2 → a0_kind.toInt ≠ 4 → gB x6 0 1 → tr_RReader_isLetter2 x2 x6 → x6.toInt = 0 → gB x7 0 1 → tr_RReader_isDigit2 x2 x7 → x7.toInt ≠ 0 → gB x9 0 8192 → gB x10 4 6 → tr_RReader_number (1 : Int32) a0_n x1 a0_t_v x9 x10 x11 x8 → R x9 x10 x1 x11 x8) →
  (∀ (x1 : Int32) (x2 : Int32) (x3 : Int32) (x4 : Int32) (x5 : Int32) (x6 : Int32) (x7 : Int32) (x8 : gTx) (x9 : Int32) (x10 : Int32) (x11 : Int32), tl_RReader_next_8 a0_n a0_t_v a0_at 110 x1 → x1.toInt ≠ a0_n.toInt → x2 = a0_t_v x1.toNatClampNeg → gB x2 (-128) 127 → x2.toInt = 45 → x3.toInt = x1.toInt + 1 → x3.toInt < a0_n.toInt → x4 = a0_t_v x3.toNatClampNeg → gB x4 (-128) 127 → gB x5 0 1 → tr_RReader_isDigit2 x4 x5 → x5.toInt ≠ 0 → a0_kind.toInt ≠ 2 → a0_kind.toInt ≠ 4 → gB x6 0 1 → tr_RReader_isLetter2 x2 x6 → x6.toInt = 0 → gB x7 0 1 → tr_RReader_isDigit2 x2 x7 → x7.toInt = 0 → gB x9 0 8192 → gB x10 4 6 → tr_RReader_number (1 : Int32) a0_n x1 a0_t_v x9 x10 x11 x8 → R x9 x10 x1 x11 x8) →
  (∀ (x1 : Int32) (x2 : Int32) (x3 : Int32) (x4 : Int32) (x5 : Int32) (x6 : Int32) (x7 : gTx) (x8 : Int32) (x9 : Int32) (x10 : Int32), tl_RReader_next_8 a0_n a0_t_v a0_at 110 x1 → x1.toInt ≠ a0_n.toInt → x2 = a0_t_v x1.toNatClampNeg → gB x2 (-128) 127 → x2.toInt = 45 → x3.toInt = x1.toInt + 1 → x3.toInt < a0_n.toInt → x4 = a0_t_v x3.toNatClampNeg → gB x4 (-128) 127 → gB x5 0 1 → tr_RReader_isDigit2 x4 x5 → x5.toInt ≠ 0 → a0_kind.toInt ≠ 2 → a0_kind.toInt ≠ 4 → gB x6 0 1 → tr_RReader_isLetter2 x2 x6 → x6.toInt ≠ 0 → gB x8 0 8192 → gB x9 1 6 → tr_RReader_word a0_n x1 a0_value a0_t_v x8 x9 x10 x7 → R x8 x9 x1 x10 x7) →
  (∀ (x1 : Int32), tl_RReader_next_8 a0_n a0_t_v a0_at 110 x1 → x1.toInt = a0_n.toInt → R x1 (0 : Int32) x1 a0_value (0, fun _ => 0)) →
  (∀ (x1 : Int32) (x2 : Int32) (x3 : Int32) (x4 : Int32) (x5 : gTx) (x6 : Int32) (x7 : Int32) (x8 : Int32), tl_RReader_next_8 a0_n a0_t_v a0_at 110 x1 → x1.toInt ≠ a0_n.toInt → x2 = a0_t_v x1.toNatClampNeg → (((x2.toInt ≠ 45) ∨ (∃ (y1 : Int32), x2.toInt = 45 ∧ y1.toInt = x1.toInt + 1 ∧ a0_n.toInt ≤ y1.toInt) ∨ (∃ (y1 : Int32) (y2 : Int32) (y3 : Int32), x2.toInt = 45 ∧ y1.toInt = x1.toInt + 1 ∧ y1.toInt < a0_n.toInt ∧ y2 = a0_t_v y1.toNatClampNeg ∧ gB y2 (-128) 127 ∧ gB y3 0 1 ∧ tr_RReader_isDigit2 y2 y3 ∧ y3.toInt = 0) ∨ (∃ (y1 : Int32) (y2 : Int32) (y3 : Int32), x2.toInt = 45 ∧ y1.toInt = x1.toInt + 1 ∧ y1.toInt < a0_n.toInt ∧ y2 = a0_t_v y1.toNatClampNeg ∧ gB y2 (-128) 127 ∧ gB y3 0 1 ∧ tr_RReader_isDigit2 y2 y3 ∧ y3.toInt ≠ 0 ∧ a0_kind.toInt = 2) ∨ (∃ (y1 : Int32) (y2 : Int32) (y3 : Int32), x2.toInt = 45 ∧ y1.toInt = x1.toInt + 1 ∧ y1.toInt < a0_n.toInt ∧ y2 = a0_t_v y1.toNatClampNeg ∧ gB y2 (-128) 127 ∧ gB y3 0 1 ∧ tr_RReader_isDigit2 y2 y3 ∧ y3.toInt ≠ 0 ∧ a0_kind.toInt ≠ 2 ∧ a0_kind.toInt = 4))) → gB x3 0 1 → tr_RReader_isLetter2 x2 x3 → x3.toInt = 0 → gB x4 0 1 → tr_RReader_isDigit2 x2 x4 → x4.toInt ≠ 0 → gB x6 0 8192 → gB x7 4 6 → tr_RReader_number (0 : Int32) a0_n x1 a0_t_v x6 x7 x8 x5 → R x6 x7 x1 x8 x5) →
  (∀ (x1 : Int32) (x2 : Int32) (x3 : Int32) (x4 : Int32) (x5 : gTx) (x6 : Int32) (x7 : Int32), tl_RReader_next_8 a0_n a0_t_v a0_at 110 x1 → x1.toInt ≠ a0_n.toInt → x2 = a0_t_v x1.toNatClampNeg → (((x2.toInt ≠ 45) ∨ (∃ (y1 : Int32), x2.toInt = 45 ∧ y1.toInt = x1.toInt + 1 ∧ a0_n.toInt ≤ y1.toInt) ∨ (∃ (y1 : Int32) (y2 : Int32) (y3 : Int32), x2.toInt = 45 ∧ y1.toInt = x1.toInt + 1 ∧ y1.toInt < a0_n.toInt ∧ y2 = a0_t_v y1.toNatClampNeg ∧ gB y2 (-128) 127 ∧ gB y3 0 1 ∧ tr_RReader_isDigit2 y2 y3 ∧ y3.toInt = 0) ∨ (∃ (y1 : Int32) (y2 : Int32) (y3 : Int32), x2.toInt = 45 ∧ y1.toInt = x1.toInt + 1 ∧ y1.toInt < a0_n.toInt ∧ y2 = a0_t_v y1.toNatClampNeg ∧ gB y2 (-128) 127 ∧ gB y3 0 1 ∧ tr_RReader_isDigit2 y2 y3 ∧ y3.toInt ≠ 0 ∧ a0_kind.toInt = 2) ∨ (∃ (y1 : Int32) (y2 : Int32) (y3 : Int32), x2.toInt = 45 ∧ y1.toInt = x1.toInt + 1 ∧ y1.toInt < a0_n.toInt ∧ y2 = a0_t_v y1.toNatClampNeg ∧ gB y2 (-128) 127 ∧ gB y3 0 1 ∧ tr_RReader_isDigit2 y2 y3 ∧ y3.toInt ≠ 0 ∧ a0_kind.toInt ≠ 2 ∧ a0_kind.toInt = 4))) → gB x3 0 1 → tr_RReader_isLetter2 x2 x3 → x3.toInt = 0 → gB x4 0 1 → tr_RReader_isDigit2 x2 x4 → x4.toInt = 0 → gB x6 1 8192 → gB x7 5 6 → tr_RReader_symbol x2 a0_n x1 a0_t_v x6 x7 x5 → R x6 x7 x1 a0_value x5) →
  (∀ (x1 : Int32) (x2 : Int32) (x3 : Int32) (x4 : gTx) (x5 : Int32) (x6 : Int32) (x7 : Int32), tl_RReader_next_8 a0_n a0_t_v a0_at 110 x1 → x1.toInt ≠ a0_n.toInt → x2 = a0_t_v x1.toNatClampNeg → (((x2.toInt ≠ 45) ∨ (∃ (y1 : Int32), x2.toInt = 45 ∧ y1.toInt = x1.toInt + 1 ∧ a0_n.toInt ≤ y1.toInt) ∨ (∃ (y1 : Int32) (y2 : Int32) (y3 : Int32), x2.toInt = 45 ∧ y1.toInt = x1.toInt + 1 ∧ y1.toInt < a0_n.toInt ∧ y2 = a0_t_v y1.toNatClampNeg ∧ gB y2 (-128) 127 ∧ gB y3 0 1 ∧ tr_RReader_isDigit2 y2 y3 ∧ y3.toInt = 0) ∨ (∃ (y1 : Int32) (y2 : Int32) (y3 : Int32), x2.toInt = 45 ∧ y1.toInt = x1.toInt + 1 ∧ y1.toInt < a0_n.toInt ∧ y2 = a0_t_v y1.toNatClampNeg ∧ gB y2 (-128) 127 ∧ gB y3 0 1 ∧ tr_RReader_isDigit2 y2 y3 ∧ y3.toInt ≠ 0 ∧ a0_kind.toInt = 2) ∨ (∃ (y1 : Int32) (y2 : Int32) (y3 : Int32), x2.toInt = 45 ∧ y1.toInt = x1.toInt + 1 ∧ y1.toInt < a0_n.toInt ∧ y2 = a0_t_v y1.toNatClampNeg ∧ gB y2 (-128) 127 ∧ gB y3 0 1 ∧ tr_RReader_isDigit2 y2 y3 ∧ y3.toInt ≠ 0 ∧ a0_kind.toInt ≠ 2 ∧ a0_kind.toInt = 4))) → gB x3 0 1 → tr_RReader_isLetter2 x2 x3 → x3.toInt ≠ 0 → gB x5 0 8192 → gB x6 1 6 → tr_RReader_word a0_n x1 a0_value a0_t_v x5 x6 x7 x4 → R x5 x6 x1 x7 x4) →
  (∀ (x1 : Int32) (x2 : Int32) (x3 : Int32) (x4 : Int32) (x5 : Int32) (x6 : Int32) (x7 : Int32) (x8 : gTx) (x9 : Int32) (x10 : Int32) (x11 : Int32), tl_RReader_next_8 a0_n a0_t_v a0_at 110 x1 → x1.toInt ≠ a0_n.toInt → x2 = a0_t_v x1.toNatClampNeg → x2.toInt = 45 → x3.toInt = x1.toInt + 1 → x3.toInt < a0_n.toInt → x4 = a0_t_v x3.toNatClampNeg → gB x4 (-128) 127 → gB x5 0 1 → tr_RReader_isDigit2 x4 x5 → x5.toInt ≠ 0 → a0_kind.toInt ≠ 2 → a0_kind.toInt ≠ 4 → gB x6 0 1 → tr_RReader_isLetter2 x2 x6 → x6.toInt = 0 → gB x7 0 1 → tr_RReader_isDigit2 x2 x7 → x7.toInt ≠ 0 → gB x9 0 8192 → gB x10 4 6 → tr_RReader_number (1 : Int32) a0_n x1 a0_t_v x9 x10 x11 x8 → R x9 x10 x1 x11 x8) →
  (∀ (x1 : Int32) (x2 : Int32) (x3 : Int32) (x4 : Int32) (x5 : Int32) (x6 : Int32) (x7 : Int32) (x8 : gTx) (x9 : Int32) (x10 : Int32) (x11 : Int32), tl_RReader_next_8 a0_n a0_t_v a0_at 110 x1 → x1.toInt ≠ a0_n.toInt → x2 = a0_t_v x1.toNatClampNeg → x2.toInt = 45 → x3.toInt = x1.toInt + 1 → x3.toInt < a0_n.toInt → x4 = a0_t_v x3.toNatClampNeg → gB x4 (-128) 127 → gB x5 0 1 → tr_RReader_isDigit2 x4 x5 → x5.toInt ≠ 0 → a0_kind.toInt ≠ 2 → a0_kind.toInt ≠ 4 → gB x6 0 1 → tr_RReader_isLetter2 x2 x6 → x6.toInt = 0 → gB x7 0 1 → tr_RReader_isDigit2 x2 x7 → x7.toInt = 0 → gB x9 0 8192 → gB x10 4 6 → tr_RReader_number (1 : Int32) a0_n x1 a0_t_v x9 x10 x11 x8 → R x9 x10 x1 x11 x8) →
  (∀ (x1 : Int32) (x2 : Int32) (x3 : Int32) (x4 : Int32) (x5 : Int32) (x6 : Int32) (x7 : gTx) (x8 : Int32) (x9 : Int32) (x10 : Int32), tl_RReader_next_8 a0_n a0_t_v a0_at 110 x1 → x1.toInt ≠ a0_n.toInt → x2 = a0_t_v x1.toNatClampNeg → x2.toInt = 45 → x3.toInt = x1.toInt + 1 → x3.toInt < a0_n.toInt → x4 = a0_t_v x3.toNatClampNeg → gB x4 (-128) 127 → gB x5 0 1 → tr_RReader_isDigit2 x4 x5 → x5.toInt ≠ 0 → a0_kind.toInt ≠ 2 → a0_kind.toInt ≠ 4 → gB x6 0 1 → tr_RReader_isLetter2 x2 x6 → x6.toInt ≠ 0 → gB x8 0 8192 → gB x9 1 6 → tr_RReader_word a0_n x1 a0_value a0_t_v x8 x9 x10 x7 → R x8 x9 x1 x10 x7) →
  R o1 o2 o3 o4 o5
def tr_RReader_is (bs : List Int32) (a0_kind : Int32) (xt : gTx) (o1 : Int32) : Prop := ∀ R : (Int32) → Prop,
  (a0_kind.toInt = 5 → tr_RString_equals bs xt.2 xt.1 (0 : Int32) → R (0 : Int32)) →
  (a0_kind.toInt = 5 → tr_RString_equals bs xt.2 xt.1 (1 : Int32) → R (1 : Int32)) →
  (a0_kind.toInt ≠ 5 → a0_kind.toInt ≠ 1 → R (0 : Int32)) →
  (a0_kind.toInt ≠ 5 → a0_kind.toInt = 1 → tr_RString_equals bs xt.2 xt.1 (0 : Int32) → R (0 : Int32)) →
  (a0_kind.toInt ≠ 5 → a0_kind.toInt = 1 → tr_RString_equals bs xt.2 xt.1 (1 : Int32) → R (1 : Int32)) →
  R o1
def tr_RReader_want (bs : List Int32) (a0_n : Int32) (a0_at : Int32) (a0_kind : Int32) (a0_value : Int32) (a0_t_v : Nat → Int32) (xt : gTx) (o1 : Int32) (o2 : Int32) (o3 : Int32) (o4 : Int32) (o5 : gTx) : Prop := ∀ R : (Int32) → (Int32) → (Int32) → (Int32) → (gTx) → Prop,
  (∀ (x1 : Int32) (x2 : gTx) (x3 : Int32) (x4 : Int32) (x5 : Int32) (x6 : Int32), gB x1 0 1 → tr_RReader_is bs a0_kind xt x1 → x1.toInt ≠ 0 → gB x3 0 8192 → gB x4 0 6 → gB x5 0 8192 → tr_RReader_next a0_n a0_at a0_kind a0_value a0_t_v x3 x4 x5 x6 x2 → R x3 x4 x5 x6 x2) →
  R o1 o2 o3 o4 o5
def tx_RReader_want (bs : List Int32) (a0_kind : Int32) (xt : gTx) : Prop := ∀ R : Prop,
  (∀ (x1 : Int32), gB x1 0 1 → tr_RReader_is bs a0_kind xt x1 → x1.toInt = 0 → R) →
  R
def tr_RReader_want2 (a1 : Int32) (a0_n : Int32) (a0_at : Int32) (a0_kind : Int32) (a0_value : Int32) (a0_t_v : Nat → Int32) (o1 : Int32) (o2 : Int32) (o3 : Int32) (o4 : Int32) (o5 : gTx) : Prop := ∀ R : (Int32) → (Int32) → (Int32) → (Int32) → (gTx) → Prop,
  (∀ (x1 : gTx) (x2 : Int32) (x3 : Int32) (x4 : Int32) (x5 : Int32), a0_kind.toInt = a1.toInt → gB x2 0 8192 → gB x3 0 6 → gB x4 0 8192 → tr_RReader_next a0_n a0_at a0_kind a0_value a0_t_v x2 x3 x4 x5 x1 → R x2 x3 x4 x5 x1) →
  R o1 o2 o3 o4 o5
def tx_RReader_want2 (a1 : Int32) (a0_kind : Int32) : Prop := ∀ R : Prop,
  (a0_kind.toInt ≠ a1.toInt → R) →
  R
def tr_RReader_breaks (a1 : Int32) (a2 : Int32) (a0_rulePlace : Int32) (a0_rule : Int32) (o1 : Int32) (o2 : Int32) : Prop := ∀ R : (Int32) → (Int32) → Prop,
  (a0_rulePlace.toInt < 0 → R a2 a1) →
  (0 ≤ a0_rulePlace.toInt → a2.toInt < a0_rulePlace.toInt → R a2 a1) →
  (0 ≤ a0_rulePlace.toInt → a0_rulePlace.toInt ≤ a2.toInt → a2.toInt ≠ a0_rulePlace.toInt → R a0_rulePlace a0_rule) →
  (0 ≤ a0_rulePlace.toInt → a0_rulePlace.toInt ≤ a2.toInt → a2.toInt = a0_rulePlace.toInt → a0_rule.toInt ≤ a1.toInt → R a0_rulePlace a0_rule) →
  (0 ≤ a0_rulePlace.toInt → a0_rulePlace.toInt ≤ a2.toInt → a2.toInt = a0_rulePlace.toInt → a1.toInt < a0_rule.toInt → R a2 a1) →
  R o1 o2
def tr_RReader_operand (a2 : Int32) (a0_n : Int32) (a0_at : Int32) (a0_kind : Int32) (a0_value : Int32) (a1_a : Int32) (a1_b : Int32) (a1_regA : Int32) (a1_regB : Int32) (a0_t_v : Nat → Int32) (o1 : Int32) (o2 : Int32) (o3 : Int32) (o4 : Int32) (o5 : Int32) (o6 : Int32) (o7 : Int32) (o8 : Int32) (o9 : gTx) : Prop := ∀ R : (Int32) → (Int32) → (Int32) → (Int32) → (Int32) → (Int32) → (Int32) → (Int32) → (gTx) → Prop,
  (∀ (x1 : gTx) (x2 : Int32) (x3 : Int32) (x4 : Int32) (x5 : Int32), a0_kind.toInt ≠ 2 → a0_kind.toInt = 4 → a2.toInt = 0 → gB x2 0 8192 → gB x3 0 6 → gB x4 0 8192 → tr_RReader_next a0_n a0_at a0_kind a0_value a0_t_v x2 x3 x4 x5 x1 → R x2 x3 x4 x5 a0_value a1_b (0 : Int32) a1_regB x1) →
  (∀ (x1 : gTx) (x2 : Int32) (x3 : Int32) (x4 : Int32) (x5 : Int32), a0_kind.toInt ≠ 2 → a0_kind.toInt = 4 → a2.toInt ≠ 0 → gB x2 0 8192 → gB x3 0 6 → gB x4 0 8192 → tr_RReader_next a0_n a0_at a0_kind a0_value a0_t_v x2 x3 x4 x5 x1 → R x2 x3 x4 x5 a1_a a0_value a1_regA (0 : Int32) x1) →
  (∀ (x1 : gTx) (x2 : Int32) (x3 : Int32) (x4 : Int32) (x5 : Int32), a0_kind.toInt = 2 → a2.toInt = 0 → gB x2 0 8192 → gB x3 0 6 → gB x4 0 8192 → tr_RReader_next a0_n a0_at a0_kind a0_value a0_t_v x2 x3 x4 x5 x1 → R x2 x3 x4 x5 a0_value a1_b (1 : Int32) a1_regB x1) →
  (∀ (x1 : gTx) (x2 : Int32) (x3 : Int32) (x4 : Int32) (x5 : Int32), a0_kind.toInt = 2 → a2.toInt ≠ 0 → gB x2 0 8192 → gB x3 0 6 → gB x4 0 8192 → tr_RReader_next a0_n a0_at a0_kind a0_value a0_t_v x2 x3 x4 x5 x1 → R x2 x3 x4 x5 a1_a a0_value a1_regA (1 : Int32) x1) →
  R o1 o2 o3 o4 o5 o6 o7 o8 o9
def tx_RReader_operand (a0_kind : Int32) : Prop := ∀ R : Prop,
  (a0_kind.toInt ≠ 2 → a0_kind.toInt ≠ 4 → R) →
  R
def tr_RStringLatin1_charAt2 (bs : List Int32) (a1 : Int32) (o1 : Int32) : Prop := ∀ R : (Int32) → Prop,
  (∀ (x1 : Int32) (x2 : Int32) (x3 : Int32) (x4 : Int32), x1.toInt = (bs.length : Int) → tr_RString_checkIndex a1 x1 → x2 = bs.getD a1.toNatClampNeg 0 → x3 = x2 &&& (255 : Int32) → x4 = (x3.toUInt32 % 65536).toInt32 → R x4) →
  R o1
def tr_RString_charAt2 (bs : List Int32) (a1 : Int32) (o1 : Int32) : Prop := ∀ R : (Int32) → Prop,
  (∀ (x1 : Int32), gB x1 0 255 → tr_RStringLatin1_charAt2 bs a1 x1 → R x1) →
  R o1
def tl_RModel_operation_40 (c1 : Int32) (s1 : Int32) (s2 : Int32) (k : Nat) (e1 : Int32) : Prop := ∀ R : (Int32) → (Int32) → Nat → (Int32) → Prop,
  (∀ (l3_1 : Int32) (l2_1 : Int32), gB l3_1 0 16777215 → c1.toInt ≤ l3_1.toInt → R l3_1 l2_1 70 l2_1) →
  (∀ (l3_1 : Int32) (l2_1 : Int32) (x1 : Int32) (x2 : Int32) (x3 : Int32) (k : Nat) (e1 : Int32), gB l3_1 0 16777215 → l3_1.toInt < c1.toInt → gB x1 0 255 → tr_RString_charAt2 sb_42 l3_1 x1 → x1.toInt ≠ 32 → x2.toInt = l2_1.toInt + 0 → x3.toInt = l3_1.toInt + 1 → R x3 x2 k e1 → R l3_1 l2_1 k e1) →
  (∀ (l3_1 : Int32) (l2_1 : Int32) (x1 : Int32) (x2 : Int32) (x3 : Int32) (k : Nat) (e1 : Int32), gB l3_1 0 16777215 → l3_1.toInt < c1.toInt → gB x1 0 255 → tr_RString_charAt2 sb_42 l3_1 x1 → x1.toInt = 32 → x2.toInt = l2_1.toInt + 1 → x3.toInt = l3_1.toInt + 1 → R x3 x2 k e1 → R l3_1 l2_1 k e1) →
  R s1 s2 k e1
def tr_RModel_operation (a0_value_v : Nat → Int32) (a0_value_n : Nat) (o1 : Int32) : Prop := ∀ R : (Int32) → Prop,
  (∀ (x1 : Int32) (x2 : Nat → Int32) (x3 : Int32) (x4 : Nat → Int32) (x5 : Int32) (x6 : Nat → Int32) (x7 : Nat) (x8 : Nat → Int32) (x9 : Int32) (x10 : Int32), gB x1 0 16777216 → (tr_RStringBuilder_append4 sb_43 (0 : Int32) (fun _ => 0) 16 x1 x2) → gB x3 0 16777216 → tr_RStringBuilder_append3 x1 x2 16 a0_value_v a0_value_n x3 x4 → gB x5 0 16777216 → tr_RStringBuilder_append4 sb_43 x3 x4 16 x5 x6 → tr_RStringBuilder_toString x5 x6 16 x7 x8 → gB x9 (-2147483646) 16777215 → tr_RString_indexOf sb_42 x8 x7 x9 → 0 ≤ x9.toInt → tl_RModel_operation_40 x9 (0 : Int32) (1 : Int32) 70 x10 → R x10) →
  (∀ (x1 : Int32) (x2 : Nat → Int32) (x3 : Int32) (x4 : Nat → Int32) (x5 : Int32) (x6 : Nat → Int32) (x7 : Nat) (x8 : Nat → Int32) (x9 : Int32), gB x1 0 16777216 → (tr_RStringBuilder_append4 sb_43 (0 : Int32) (fun _ => 0) 16 x1 x2) → gB x3 0 16777216 → tr_RStringBuilder_append3 x1 x2 16 a0_value_v a0_value_n x3 x4 → gB x5 0 16777216 → tr_RStringBuilder_append4 sb_43 x3 x4 16 x5 x6 → tr_RStringBuilder_toString x5 x6 16 x7 x8 → gB x9 (-2147483646) 16777215 → tr_RString_indexOf sb_42 x8 x7 x9 → x9.toInt < 0 → R (0 : Int32)) →
  R o1
def tr_RArrays_copyOf4 (a1 : Int32) (a0_v : Nat → Int32) (a0_n : Nat) (o1 : Nat → Int32) : Prop := ∀ R : (Nat → Int32) → Prop,
  (∀ (x1 : Int32) (x2 : Int32) (x3 : Int32) (x4 : Nat → Int32), x1.toInt = (a0_n : Nat) → a1.toInt ≠ x1.toInt → x2.toInt = (a0_n : Nat) → (x2.toInt ≥ x3.toInt ∧ a1.toInt ≥ x3.toInt ∧ (x3.toInt = x2.toInt ∨ x3.toInt = a1.toInt)) → (x4 = va_cpy a0_v (fun _ => 0) (0 : Int32).toNatClampNeg (0 : Int32).toNatClampNeg x3.toNatClampNeg) → R x4) →
  R o1
def tr_RReader_goal (a0_n : Int32) (a0_at : Int32) (a0_kind : Int32) (a0_place : Int32) (a0_value : Int32) (a0_goalN : Int32) (a0_t_v : Nat → Int32) (p : Nat → Int32) (p2 : Nat) (p3 : Nat → Int32) (p4 : Nat) (o1 : Int32) (o2 : Int32) (o3 : Int32) (o4 : Int32) (o5 : Int32) (o6 : Nat) (o7 : Nat → Int32) (o8 : Nat) (o9 : Nat → Int32) (o10 : gTx) : Prop := ∀ R : (Int32) → (Int32) → (Int32) → (Int32) → (Int32) → (Nat) → (Nat → Int32) → (Nat) → (Nat → Int32) → (gTx) → Prop,
  (∀ (x1 : Int32) (x2 : Nat → Int32) (x3 : gTx) (x4 : Int32) (x5 : Int32) (x6 : Int32) (x7 : Int32) (x8 : Nat → Int32) (x9 : Int32), x1.toInt = (p4 : Nat) → a0_goalN.toInt ≠ x1.toInt → x2 = upd p a0_goalN.toNatClampNeg a0_place → gB x4 0 8192 → gB x5 0 6 → gB x6 0 8192 → tr_RReader_want2 (3 : Int32) a0_n a0_at a0_kind a0_value a0_t_v x4 x5 x6 x7 x3 → x8 = upd p3 a0_goalN.toNatClampNeg a0_value → x9.toInt = a0_goalN.toInt + 1 → R x4 x5 x6 x7 x9 p2 x2 p4 x8 x3) →
  (∀ (x1 : Int32) (x2 : Int32) (x3 : Nat → Int32) (x4 : Int32) (x5 : Nat → Int32) (x6 : Nat → Int32) (x7 : gTx) (x8 : Int32) (x9 : Int32) (x10 : Int32) (x11 : Int32) (x12 : Nat → Int32) (x13 : Int32), x1.toInt = (p4 : Nat) → a0_goalN.toInt = x1.toInt → x2.toInt = 2 * a0_goalN.toInt → tr_RArrays_copyOf4 x2 p3 p4 x3 → x4.toInt = 2 * a0_goalN.toInt → tr_RArrays_copyOf4 x4 p p2 x5 → x6 = upd x5 a0_goalN.toNatClampNeg a0_place → gB x8 0 8192 → gB x9 0 6 → gB x10 0 8192 → tr_RReader_want2 (3 : Int32) a0_n a0_at a0_kind a0_value a0_t_v x8 x9 x10 x11 x7 → x12 = upd x3 a0_goalN.toNatClampNeg a0_value → x13.toInt = a0_goalN.toInt + 1 → R x8 x9 x10 x11 x13 x4.toInt.toNat x6 x2.toInt.toNat x12 x7) →
  R o1 o2 o3 o4 o5 o6 o7 o8 o9 o10
def tx_RReader_goal (a0_kind : Int32) (a0_goalN : Int32) (p : Nat → Int32) (p2 : Nat) (p3 : Nat → Int32) (p4 : Nat) : Prop := ∀ R : Prop,
  (∀ (x1 : Int32), x1.toInt = (p4 : Nat) → a0_goalN.toInt ≠ x1.toInt → tx_RReader_want2 (3 : Int32) a0_kind → R) →
  (∀ (x1 : Int32) (x2 : Int32) (x3 : Nat → Int32) (x4 : Int32) (x5 : Nat → Int32), x1.toInt = (p4 : Nat) → a0_goalN.toInt = x1.toInt → x2.toInt = 2 * a0_goalN.toInt → tr_RArrays_copyOf4 x2 p3 p4 x3 → x4.toInt = 2 * a0_goalN.toInt → tr_RArrays_copyOf4 x4 p p2 x5 → tx_RReader_want2 (3 : Int32) a0_kind → R) →
  R
def tr_RReader_row (a0_n : Int32) (a0_at : Int32) (a0_kind : Int32) (a0_value : Int32) (a1_t : Int32) (a1_a : Int32) (a1_b : Int32) (a1_regA : Int32) (a1_regB : Int32) (a0_t_v : Nat → Int32) (xt : gTx) (o1 : Int32) (o2 : Int32) (o3 : Int32) (o4 : Int32) (o5 : Int32) (o6 : Int32) (o7 : Int32) (o8 : Int32) (o9 : Int32) (o10 : Int32) (o11 : Int32) (o12 : gTx) : Prop := ∀ R : (Int32) → (Int32) → (Int32) → (Int32) → (Int32) → (Int32) → (Int32) → (Int32) → (Int32) → (Int32) → (Int32) → (gTx) → Prop,
  (∀ (x1 : Int32) (x2 : gTx) (x3 : Int32) (x4 : Int32) (x5 : Int32) (x6 : Int32) (x7 : gTx) (x8 : Int32) (x9 : Int32) (x10 : Int32) (x11 : Int32) (x12 : Int32) (x13 : gTx) (x14 : Int32) (x15 : Int32) (x16 : Int32) (x17 : Int32) (x18 : Int32) (x19 : Int32) (x20 : Int32) (x21 : Int32), gB x1 0 1 → tr_RReader_is sb_39 a0_kind xt x1 → x1.toInt = 0 → gB x3 0 8192 → gB x4 0 6 → gB x5 0 8192 → tr_RReader_want2 (2 : Int32) a0_n a0_at a0_kind a0_value a0_t_v x3 x4 x5 x6 x2 → gB x8 0 8192 → gB x9 0 6 → gB x10 0 8192 → tr_RReader_want sb_40 a0_n x3 x4 x6 a0_t_v x2 x8 x9 x10 x11 x7 → gB x12 0 1 → tr_RReader_is sb_41 x9 x7 x12 → x12.toInt = 0 → gB x14 0 8192 → gB x15 0 6 → gB x16 0 8192 → gB x20 0 1 → gB x21 0 1 → tr_RReader_operand (0 : Int32) a0_n x8 x9 x11 a1_a a1_b a1_regA a1_regB a0_t_v x14 x15 x16 x17 x18 x19 x20 x21 x13 → x15.toInt ≠ 5 → R x14 x15 x16 x17 x9 (0 : Int32) a0_value x18 x19 x20 x21 x13) →
  (∀ (x1 : Int32) (x2 : gTx) (x3 : Int32) (x4 : Int32) (x5 : Int32) (x6 : Int32) (x7 : gTx) (x8 : Int32) (x9 : Int32) (x10 : Int32) (x11 : Int32) (x12 : Int32) (x13 : gTx) (x14 : Int32) (x15 : Int32) (x16 : Int32) (x17 : Int32) (x18 : Int32) (x19 : Int32) (x20 : Int32) (x21 : Int32) (x22 : Int32) (x23 : gTx) (x24 : Int32) (x25 : Int32) (x26 : Int32) (x27 : Int32) (x28 : gTx) (x29 : Int32) (x30 : Int32) (x31 : Int32) (x32 : Int32) (x33 : Int32) (x34 : Int32) (x35 : Int32) (x36 : Int32), gB x1 0 1 → tr_RReader_is sb_39 a0_kind xt x1 → x1.toInt = 0 → gB x3 0 8192 → gB x4 0 6 → gB x5 0 8192 → tr_RReader_want2 (2 : Int32) a0_n a0_at a0_kind a0_value a0_t_v x3 x4 x5 x6 x2 → gB x8 0 8192 → gB x9 0 6 → gB x10 0 8192 → tr_RReader_want sb_40 a0_n x3 x4 x6 a0_t_v x2 x8 x9 x10 x11 x7 → gB x12 0 1 → tr_RReader_is sb_41 x9 x7 x12 → x12.toInt = 0 → gB x14 0 8192 → gB x15 0 6 → gB x16 0 8192 → gB x20 0 1 → gB x21 0 1 → tr_RReader_operand (0 : Int32) a0_n x8 x9 x11 a1_a a1_b a1_regA a1_regB a0_t_v x14 x15 x16 x17 x18 x19 x20 x21 x13 → x15.toInt = 5 → gB x22 0 14 → tr_RModel_operation x13.2 x13.1 x22 → x22.toInt ≠ 0 → gB x24 0 8192 → gB x25 0 6 → gB x26 0 8192 → tr_RReader_next a0_n x14 x15 x17 a0_t_v x24 x25 x26 x27 x23 → gB x29 0 8192 → gB x30 0 6 → gB x31 0 8192 → gB x35 0 1 → gB x36 0 1 → tr_RReader_operand (1 : Int32) a0_n x24 x25 x27 x18 x19 x20 x21 a0_t_v x29 x30 x31 x32 x33 x34 x35 x36 x28 → R x29 x30 x31 x32 x25 x22 a0_value x33 x34 x35 x36 x28) →
  (∀ (x1 : Int32) (x2 : gTx) (x3 : Int32) (x4 : Int32) (x5 : Int32) (x6 : Int32) (x7 : gTx) (x8 : Int32) (x9 : Int32) (x10 : Int32) (x11 : Int32) (x12 : Int32) (x13 : gTx) (x14 : Int32) (x15 : Int32) (x16 : Int32) (x17 : Int32) (x18 : Int32) (x19 : Int32) (x20 : Int32) (x21 : Int32) (x22 : Int32), gB x1 0 1 → tr_RReader_is sb_39 a0_kind xt x1 → x1.toInt = 0 → gB x3 0 8192 → gB x4 0 6 → gB x5 0 8192 → tr_RReader_want2 (2 : Int32) a0_n a0_at a0_kind a0_value a0_t_v x3 x4 x5 x6 x2 → gB x8 0 8192 → gB x9 0 6 → gB x10 0 8192 → tr_RReader_want sb_40 a0_n x3 x4 x6 a0_t_v x2 x8 x9 x10 x11 x7 → gB x12 0 1 → tr_RReader_is sb_41 x9 x7 x12 → x12.toInt = 0 → gB x14 0 8192 → gB x15 0 6 → gB x16 0 8192 → gB x20 0 1 → gB x21 0 1 → tr_RReader_operand (0 : Int32) a0_n x8 x9 x11 a1_a a1_b a1_regA a1_regB a0_t_v x14 x15 x16 x17 x18 x19 x20 x21 x13 → x15.toInt = 5 → gB x22 0 14 → tr_RModel_operation x13.2 x13.1 x22 → x22.toInt = 0 → R x14 x15 x16 x17 x9 x22 a0_value x18 x19 x20 x21 (x13.1, x13.2)) →
  (∀ (x1 : Int32) (x2 : gTx) (x3 : Int32) (x4 : Int32) (x5 : Int32) (x6 : Int32) (x7 : gTx) (x8 : Int32) (x9 : Int32) (x10 : Int32) (x11 : Int32) (x12 : Int32) (x13 : gTx) (x14 : Int32) (x15 : Int32) (x16 : Int32) (x17 : Int32), gB x1 0 1 → tr_RReader_is sb_39 a0_kind xt x1 → x1.toInt = 0 → gB x3 0 8192 → gB x4 0 6 → gB x5 0 8192 → tr_RReader_want2 (2 : Int32) a0_n a0_at a0_kind a0_value a0_t_v x3 x4 x5 x6 x2 → gB x8 0 8192 → gB x9 0 6 → gB x10 0 8192 → tr_RReader_want sb_40 a0_n x3 x4 x6 a0_t_v x2 x8 x9 x10 x11 x7 → gB x12 0 1 → tr_RReader_is sb_41 x9 x7 x12 → x12.toInt ≠ 0 → gB x14 0 8192 → gB x15 0 6 → gB x16 0 8192 → tr_RReader_next a0_n x8 x9 x11 a0_t_v x14 x15 x16 x17 x13 → R x14 x15 x16 x17 x9 (20 : Int32) a0_value a1_a a1_b a1_regA a1_regB x13) →
  (∀ (x1 : Int32) (x2 : gTx) (x3 : Int32) (x4 : Int32) (x5 : Int32) (x6 : Int32) (x7 : gTx) (x8 : Int32) (x9 : Int32) (x10 : Int32) (x11 : Int32) (x12 : Int32) (x13 : Int32) (x14 : Int32) (x15 : Int32), gB x1 0 1 → tr_RReader_is sb_39 a0_kind xt x1 → x1.toInt ≠ 0 → gB x3 0 8192 → gB x4 0 6 → gB x5 0 8192 → tr_RReader_next a0_n a0_at a0_kind a0_value a0_t_v x3 x4 x5 x6 x2 → gB x8 0 8192 → gB x9 0 6 → gB x10 0 8192 → gB x14 0 1 → gB x15 0 1 → tr_RReader_operand (0 : Int32) a0_n x3 x4 x6 a1_a a1_b a1_regA a1_regB a0_t_v x8 x9 x10 x11 x12 x13 x14 x15 x7 → R x8 x9 x10 x11 x4 (22 : Int32) a1_t x12 x13 x14 x15 x7) →
  R o1 o2 o3 o4 o5 o6 o7 o8 o9 o10 o11 o12
def tx_RReader_row (a0_n : Int32) (a0_at : Int32) (a0_kind : Int32) (a0_value : Int32) (a1_a : Int32) (a1_b : Int32) (a1_regA : Int32) (a1_regB : Int32) (a0_t_v : Nat → Int32) (xt : gTx) : Prop := ∀ R : Prop,
  (∀ (x1 : Int32), gB x1 0 1 → tr_RReader_is sb_39 a0_kind xt x1 → x1.toInt = 0 → tx_RReader_want2 (2 : Int32) a0_kind → R) →
  (∀ (x1 : Int32) (x2 : gTx) (x3 : Int32) (x4 : Int32) (x5 : Int32) (x6 : Int32), gB x1 0 1 → tr_RReader_is sb_39 a0_kind xt x1 → x1.toInt = 0 → gB x3 0 8192 → gB x4 0 6 → gB x5 0 8192 → tr_RReader_want2 (2 : Int32) a0_n a0_at a0_kind a0_value a0_t_v x3 x4 x5 x6 x2 → tx_RReader_want sb_40 x4 x2 → R) →
  (∀ (x1 : Int32) (x2 : gTx) (x3 : Int32) (x4 : Int32) (x5 : Int32) (x6 : Int32) (x7 : gTx) (x8 : Int32) (x9 : Int32) (x10 : Int32) (x11 : Int32) (x12 : Int32), gB x1 0 1 → tr_RReader_is sb_39 a0_kind xt x1 → x1.toInt = 0 → gB x3 0 8192 → gB x4 0 6 → gB x5 0 8192 → tr_RReader_want2 (2 : Int32) a0_n a0_at a0_kind a0_value a0_t_v x3 x4 x5 x6 x2 → gB x8 0 8192 → gB x9 0 6 → gB x10 0 8192 → tr_RReader_want sb_40 a0_n x3 x4 x6 a0_t_v x2 x8 x9 x10 x11 x7 → gB x12 0 1 → tr_RReader_is sb_41 x9 x7 x12 → x12.toInt = 0 → tx_RReader_operand x9 → R) →
  (∀ (x1 : Int32) (x2 : gTx) (x3 : Int32) (x4 : Int32) (x5 : Int32) (x6 : Int32) (x7 : gTx) (x8 : Int32) (x9 : Int32) (x10 : Int32) (x11 : Int32) (x12 : Int32) (x13 : gTx) (x14 : Int32) (x15 : Int32) (x16 : Int32) (x17 : Int32) (x18 : Int32) (x19 : Int32) (x20 : Int32) (x21 : Int32) (x22 : Int32) (x23 : gTx) (x24 : Int32) (x25 : Int32) (x26 : Int32) (x27 : Int32), gB x1 0 1 → tr_RReader_is sb_39 a0_kind xt x1 → x1.toInt = 0 → gB x3 0 8192 → gB x4 0 6 → gB x5 0 8192 → tr_RReader_want2 (2 : Int32) a0_n a0_at a0_kind a0_value a0_t_v x3 x4 x5 x6 x2 → gB x8 0 8192 → gB x9 0 6 → gB x10 0 8192 → tr_RReader_want sb_40 a0_n x3 x4 x6 a0_t_v x2 x8 x9 x10 x11 x7 → gB x12 0 1 → tr_RReader_is sb_41 x9 x7 x12 → x12.toInt = 0 → gB x14 0 8192 → gB x15 0 6 → gB x16 0 8192 → gB x20 0 1 → gB x21 0 1 → tr_RReader_operand (0 : Int32) a0_n x8 x9 x11 a1_a a1_b a1_regA a1_regB a0_t_v x14 x15 x16 x17 x18 x19 x20 x21 x13 → x15.toInt = 5 → gB x22 0 14 → tr_RModel_operation x13.2 x13.1 x22 → x22.toInt ≠ 0 → gB x24 0 8192 → gB x25 0 6 → gB x26 0 8192 → tr_RReader_next a0_n x14 x15 x17 a0_t_v x24 x25 x26 x27 x23 → tx_RReader_operand x25 → R) →
  (∀ (x1 : Int32) (x2 : gTx) (x3 : Int32) (x4 : Int32) (x5 : Int32) (x6 : Int32), gB x1 0 1 → tr_RReader_is sb_39 a0_kind xt x1 → x1.toInt ≠ 0 → gB x3 0 8192 → gB x4 0 6 → gB x5 0 8192 → tr_RReader_next a0_n a0_at a0_kind a0_value a0_t_v x3 x4 x5 x6 x2 → tx_RReader_operand x4 → R) →
  R
def tr_RReader_end (a0_n : Int32) (a0_at : Int32) (a0_kind : Int32) (a0_value : Int32) (a0_goalN : Int32) (a0_t_v : Nat → Int32) (p : Nat → Int32) (p2 : Nat) (p3 : Nat → Int32) (p4 : Nat) (a1_end_b : Int32) (a1_end_regB : Int32) (xt : gTx) (o1 : Int32) (o2 : Int32) (o3 : Int32) (o4 : Int32) (o5 : Int32) (o6 : Int32) (o7 : Int32) (o8 : Int32) (o9 : Nat) (o10 : Nat → Int32) (o11 : Nat) (o12 : Nat → Int32) (o13 : Int32) (o14 : Int32) (o15 : Int32) (o16 : Int32) (o17 : Int32) (o18 : gTx) : Prop := ∀ R : (Int32) → (Int32) → (Int32) → (Int32) → (Int32) → (Int32) → (Int32) → (Int32) → (Nat) → (Nat → Int32) → (Nat) → (Nat → Int32) → (Int32) → (Int32) → (Int32) → (Int32) → (Int32) → (gTx) → Prop,
  (∀ (x1 : Int32) (x2 : Int32) (x3 : Int32) (x4 : gTx) (x5 : Int32) (x6 : Int32) (x7 : Int32) (x8 : Int32) (x9 : gTx) (x10 : Int32) (x11 : Int32) (x12 : Int32) (x13 : Int32) (x14 : Int32) (x15 : Int32) (x16 : Int32) (x17 : Int32), gB x1 0 1 → tr_RReader_is sb_44 a0_kind xt x1 → x1.toInt = 0 → gB x2 0 1 → tr_RReader_is sb_45 a0_kind xt x2 → x2.toInt = 0 → gB x3 0 1 → tr_RReader_is sb_46 a0_kind xt x3 → x3.toInt ≠ 0 → gB x5 0 8192 → gB x6 0 6 → gB x7 0 8192 → tr_RReader_next a0_n a0_at a0_kind a0_value a0_t_v x5 x6 x7 x8 x4 → gB x10 0 8192 → gB x11 0 6 → gB x12 0 8192 → gB x16 0 1 → gB x17 0 1 → tr_RReader_operand (0 : Int32) a0_n x5 x6 x8 (0 : Int32) a1_end_b (0 : Int32) a1_end_regB a0_t_v x10 x11 x12 x13 x14 x15 x16 x17 x9 → R x10 x11 x12 x13 x6 a0_goalN (0 : Int32) (0 : Int32) p2 p p4 p3 (32 : Int32) x14 x15 x16 x17 x9) →
  (∀ (x1 : Int32) (x2 : Int32) (x3 : gTx) (x4 : Int32) (x5 : Int32) (x6 : Int32) (x7 : Int32) (x8 : gTx) (x9 : Int32) (x10 : Int32) (x11 : Int32) (x12 : Int32) (x13 : Int32) (x14 : Int32) (x15 : Int32) (x16 : Int32) (x17 : gTx) (x18 : Int32) (x19 : Int32) (x20 : Int32) (x21 : Int32) (x22 : Int32) (x23 : Nat) (x24 : Nat → Int32) (x25 : Nat) (x26 : Nat → Int32) (x27 : gTx) (x28 : Int32) (x29 : Int32) (x30 : Int32) (x31 : Int32) (x32 : Int32) (x33 : Nat) (x34 : Nat → Int32) (x35 : Nat) (x36 : Nat → Int32), gB x1 0 1 → tr_RReader_is sb_44 a0_kind xt x1 → x1.toInt = 0 → gB x2 0 1 → tr_RReader_is sb_45 a0_kind xt x2 → x2.toInt ≠ 0 → gB x4 0 8192 → gB x5 0 6 → gB x6 0 8192 → tr_RReader_next a0_n a0_at a0_kind a0_value a0_t_v x4 x5 x6 x7 x3 → gB x9 0 8192 → gB x10 0 6 → gB x11 0 8192 → gB x15 0 1 → gB x16 0 1 → tr_RReader_operand (0 : Int32) a0_n x4 x5 x7 (0 : Int32) a1_end_b (0 : Int32) a1_end_regB a0_t_v x9 x10 x11 x12 x13 x14 x15 x16 x8 → gB x18 0 8192 → gB x19 0 6 → gB x20 0 8192 → gB x22 1 1000000 → tr_RReader_goal a0_n x9 x10 x11 x12 a0_goalN a0_t_v p p2 p3 p4 x18 x19 x20 x21 x22 x23 x24 x25 x26 x17 → gB x28 0 8192 → gB x29 0 6 → gB x30 0 8192 → gB x32 1 1000000 → tr_RReader_goal a0_n x18 x19 x20 x21 x22 a0_t_v x24 x23 x26 x25 x28 x29 x30 x31 x32 x33 x34 x35 x36 x27 → R x28 x29 x30 x31 x19 x32 x12 x21 x33 x34 x35 x36 (31 : Int32) x13 x14 x15 x16 x27) →
  (∀ (x1 : Int32) (x2 : gTx) (x3 : Int32) (x4 : Int32) (x5 : Int32) (x6 : Int32) (x7 : gTx) (x8 : Int32) (x9 : Int32) (x10 : Int32) (x11 : Int32) (x12 : Int32) (x13 : Nat) (x14 : Nat → Int32) (x15 : Nat) (x16 : Nat → Int32), gB x1 0 1 → tr_RReader_is sb_44 a0_kind xt x1 → x1.toInt ≠ 0 → gB x3 0 8192 → gB x4 0 6 → gB x5 0 8192 → tr_RReader_next a0_n a0_at a0_kind a0_value a0_t_v x3 x4 x5 x6 x2 → gB x8 0 8192 → gB x9 0 6 → gB x10 0 8192 → gB x12 1 1000000 → tr_RReader_goal a0_n x3 x4 x5 x6 a0_goalN a0_t_v p p2 p3 p4 x8 x9 x10 x11 x12 x13 x14 x15 x16 x7 → R x8 x9 x10 x11 x4 x12 x6 x6 x13 x14 x15 x16 (30 : Int32) (0 : Int32) a1_end_b (0 : Int32) a1_end_regB x7) →
  R o1 o2 o3 o4 o5 o6 o7 o8 o9 o10 o11 o12 o13 o14 o15 o16 o17 o18
def tx_RReader_end (a0_n : Int32) (a0_at : Int32) (a0_kind : Int32) (a0_value : Int32) (a0_goalN : Int32) (a0_t_v : Nat → Int32) (p : Nat → Int32) (p2 : Nat) (p3 : Nat → Int32) (p4 : Nat) (a1_end_b : Int32) (a1_end_regB : Int32) (xt : gTx) : Prop := ∀ R : Prop,
  (∀ (x1 : Int32) (x2 : Int32) (x3 : Int32), gB x1 0 1 → tr_RReader_is sb_44 a0_kind xt x1 → x1.toInt = 0 → gB x2 0 1 → tr_RReader_is sb_45 a0_kind xt x2 → x2.toInt = 0 → gB x3 0 1 → tr_RReader_is sb_46 a0_kind xt x3 → x3.toInt = 0 → R) →
  (∀ (x1 : Int32) (x2 : Int32) (x3 : Int32) (x4 : gTx) (x5 : Int32) (x6 : Int32) (x7 : Int32) (x8 : Int32), gB x1 0 1 → tr_RReader_is sb_44 a0_kind xt x1 → x1.toInt = 0 → gB x2 0 1 → tr_RReader_is sb_45 a0_kind xt x2 → x2.toInt = 0 → gB x3 0 1 → tr_RReader_is sb_46 a0_kind xt x3 → x3.toInt ≠ 0 → gB x5 0 8192 → gB x6 0 6 → gB x7 0 8192 → tr_RReader_next a0_n a0_at a0_kind a0_value a0_t_v x5 x6 x7 x8 x4 → tx_RReader_operand x6 → R) →
  (∀ (x1 : Int32) (x2 : Int32) (x3 : gTx) (x4 : Int32) (x5 : Int32) (x6 : Int32) (x7 : Int32), gB x1 0 1 → tr_RReader_is sb_44 a0_kind xt x1 → x1.toInt = 0 → gB x2 0 1 → tr_RReader_is sb_45 a0_kind xt x2 → x2.toInt ≠ 0 → gB x4 0 8192 → gB x5 0 6 → gB x6 0 8192 → tr_RReader_next a0_n a0_at a0_kind a0_value a0_t_v x4 x5 x6 x7 x3 → tx_RReader_operand x5 → R) →
  (∀ (x1 : Int32) (x2 : Int32) (x3 : gTx) (x4 : Int32) (x5 : Int32) (x6 : Int32) (x7 : Int32) (x8 : gTx) (x9 : Int32) (x10 : Int32) (x11 : Int32) (x12 : Int32) (x13 : Int32) (x14 : Int32) (x15 : Int32) (x16 : Int32), gB x1 0 1 → tr_RReader_is sb_44 a0_kind xt x1 → x1.toInt = 0 → gB x2 0 1 → tr_RReader_is sb_45 a0_kind xt x2 → x2.toInt ≠ 0 → gB x4 0 8192 → gB x5 0 6 → gB x6 0 8192 → tr_RReader_next a0_n a0_at a0_kind a0_value a0_t_v x4 x5 x6 x7 x3 → gB x9 0 8192 → gB x10 0 6 → gB x11 0 8192 → gB x15 0 1 → gB x16 0 1 → tr_RReader_operand (0 : Int32) a0_n x4 x5 x7 (0 : Int32) a1_end_b (0 : Int32) a1_end_regB a0_t_v x9 x10 x11 x12 x13 x14 x15 x16 x8 → tx_RReader_goal x10 a0_goalN p p2 p3 p4 → R) →
  (∀ (x1 : Int32) (x2 : Int32) (x3 : gTx) (x4 : Int32) (x5 : Int32) (x6 : Int32) (x7 : Int32) (x8 : gTx) (x9 : Int32) (x10 : Int32) (x11 : Int32) (x12 : Int32) (x13 : Int32) (x14 : Int32) (x15 : Int32) (x16 : Int32) (x17 : gTx) (x18 : Int32) (x19 : Int32) (x20 : Int32) (x21 : Int32) (x22 : Int32) (x23 : Nat) (x24 : Nat → Int32) (x25 : Nat) (x26 : Nat → Int32), gB x1 0 1 → tr_RReader_is sb_44 a0_kind xt x1 → x1.toInt = 0 → gB x2 0 1 → tr_RReader_is sb_45 a0_kind xt x2 → x2.toInt ≠ 0 → gB x4 0 8192 → gB x5 0 6 → gB x6 0 8192 → tr_RReader_next a0_n a0_at a0_kind a0_value a0_t_v x4 x5 x6 x7 x3 → gB x9 0 8192 → gB x10 0 6 → gB x11 0 8192 → gB x15 0 1 → gB x16 0 1 → tr_RReader_operand (0 : Int32) a0_n x4 x5 x7 (0 : Int32) a1_end_b (0 : Int32) a1_end_regB a0_t_v x9 x10 x11 x12 x13 x14 x15 x16 x8 → gB x18 0 8192 → gB x19 0 6 → gB x20 0 8192 → gB x22 1 1000000 → tr_RReader_goal a0_n x9 x10 x11 x12 a0_goalN a0_t_v p p2 p3 p4 x18 x19 x20 x21 x22 x23 x24 x25 x26 x17 → tx_RReader_goal x19 x22 x24 x23 x26 x25 → R) →
  (∀ (x1 : Int32) (x2 : gTx) (x3 : Int32) (x4 : Int32) (x5 : Int32) (x6 : Int32), gB x1 0 1 → tr_RReader_is sb_44 a0_kind xt x1 → x1.toInt ≠ 0 → gB x3 0 8192 → gB x4 0 6 → gB x5 0 8192 → tr_RReader_next a0_n a0_at a0_kind a0_value a0_t_v x3 x4 x5 x6 x2 → tx_RReader_goal x4 a0_goalN p p2 p3 p4 → R) →
  R
def tr_RReader_init (a2 : Int32) (a1_v : Nat → Int32) (o1 : Int32) (o2 : Int32) (o3 : Int32) (o4 : Int32) (o5 : gTx) : Prop := ∀ R : (Int32) → (Int32) → (Int32) → (Int32) → (gTx) → Prop,
  (∀ (x1 : gTx) (x2 : Int32) (x3 : Int32) (x4 : Int32) (x5 : Int32), gB x2 0 8192 → gB x3 0 6 → gB x4 0 8192 → tr_RReader_next a2 (0 : Int32) (0 : Int32) (0 : Int32) a1_v x2 x3 x4 x5 x1 → R x2 x3 x4 x5 x1) →
  R o1 o2 o3 o4 o5
