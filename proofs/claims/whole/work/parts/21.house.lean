/-! House: small methods -/
set_option maxRecDepth 20000 in
set_option maxHeartbeats 4000000 in
theorem c_isRoom (E : EG) (a : Nat → Nat) (b : Nat) (se sn be so lo he inn al go : FN) (ro cr gn gu gr : Int32) (x : Int32) : Ctr E mX3_isRoom (1, 0, 0) [.ref (a b), .int x] (wH E a b se sn be so lo he inn al go ro cr gn gu gr) (fun v w => v = some (.int (bI (¬ x < 0 ∧ x < ro))) ∧ w = wH E a b se sn be so lo he inn al go ro cr gn gu gr) := by
  refine Ctr.of (by decide) (Nat.le_of_ble_eq_true rfl) ?_
  intro Z hO hn C
  have hlen : zn Z ≤ 10 := by rw [hn]; exact Nat.le_of_ble_eq_true rfl
  refine mr_iload_n C 1 dX3_isRoom_0 rfl rfl ?_
  refine mr_iflt C 16 4 dX3_isRoom_1 (by decide) rfl (fun c_1 => ?_) (fun c_1 => ?_)
  · refine mr_iconst C (nI 0) 17 dX3_isRoom_16 rfl rfl ?_
    refine mr_iret C dX3_isRoom_17 rfl rfl (by decide) (by decide) hlen ?_
    rw [hO]
    exact ⟨congrArg (fun z => some (Value.int z)) (bI_f (fun h => by first | exact absurd h.1 (fun k => k c_1) | exact absurd h.2 (Int32.not_lt.mpr c_9))), rfl⟩
  · refine mr_iload_n C 5 dX3_isRoom_4 rfl rfl ?_
    refine mr_aload_n C 6 dX3_isRoom_5 rfl rfl ?_
    refine mr_get C 0 9 dX3_isRoom_6 rfl fl_X3_39 rfl rfl ?_
    refine mr_icmpge C 16 12 dX3_isRoom_9 (by decide) rfl (fun c_9 => ?_) (fun c_9 => ?_)
    · refine mr_iconst C (nI 0) 17 dX3_isRoom_16 rfl rfl ?_
      refine mr_iret C dX3_isRoom_17 rfl rfl (by decide) (by decide) hlen ?_
      rw [hO]
      exact ⟨congrArg (fun z => some (Value.int z)) (bI_f (fun h => by first | exact absurd h.1 (fun k => k c_1) | exact absurd h.2 (Int32.not_lt.mpr c_9))), rfl⟩
    · refine mr_iconst C (nI 1) 13 dX3_isRoom_12 rfl rfl ?_
      refine mr_goto C 17 dX3_isRoom_13 (by decide) ?_
      refine mr_iret C dX3_isRoom_17 rfl rfl (by decide) (by decide) hlen ?_
      rw [hO]
      exact ⟨congrArg (fun z => some (Value.int z)) (bI_t ⟨c_1, Int32.not_le.mp c_9⟩), rfl⟩

set_option maxRecDepth 20000 in
set_option maxHeartbeats 4000000 in
theorem c_isCrowd (E : EG) (a : Nat → Nat) (b : Nat) (se sn be so lo he inn al go : FN) (ro cr gn gu gr : Int32) (x : Int32) : Ctr E mX3_isCrowd (1, 0, 0) [.ref (a b), .int x] (wH E a b se sn be so lo he inn al go ro cr gn gu gr) (fun v w => v = some (.int (bI (¬ x < 0 ∧ x < cr))) ∧ w = wH E a b se sn be so lo he inn al go ro cr gn gu gr) := by
  refine Ctr.of (by decide) (Nat.le_of_ble_eq_true rfl) ?_
  intro Z hO hn C
  have hlen : zn Z ≤ 10 := by rw [hn]; exact Nat.le_of_ble_eq_true rfl
  refine mr_iload_n C 1 dX3_isCrowd_0 rfl rfl ?_
  refine mr_iflt C 16 4 dX3_isCrowd_1 (by decide) rfl (fun c_1 => ?_) (fun c_1 => ?_)
  · refine mr_iconst C (nI 0) 17 dX3_isCrowd_16 rfl rfl ?_
    refine mr_iret C dX3_isCrowd_17 rfl rfl (by decide) (by decide) hlen ?_
    rw [hO]
    exact ⟨congrArg (fun z => some (Value.int z)) (bI_f (fun h => by first | exact absurd h.1 (fun k => k c_1) | exact absurd h.2 (Int32.not_lt.mpr c_9))), rfl⟩
  · refine mr_iload_n C 5 dX3_isCrowd_4 rfl rfl ?_
    refine mr_aload_n C 6 dX3_isCrowd_5 rfl rfl ?_
    refine mr_get C 0 9 dX3_isCrowd_6 rfl fl_X3_43 rfl rfl ?_
    refine mr_icmpge C 16 12 dX3_isCrowd_9 (by decide) rfl (fun c_9 => ?_) (fun c_9 => ?_)
    · refine mr_iconst C (nI 0) 17 dX3_isCrowd_16 rfl rfl ?_
      refine mr_iret C dX3_isCrowd_17 rfl rfl (by decide) (by decide) hlen ?_
      rw [hO]
      exact ⟨congrArg (fun z => some (Value.int z)) (bI_f (fun h => by first | exact absurd h.1 (fun k => k c_1) | exact absurd h.2 (Int32.not_lt.mpr c_9))), rfl⟩
    · refine mr_iconst C (nI 1) 13 dX3_isCrowd_12 rfl rfl ?_
      refine mr_goto C 17 dX3_isCrowd_13 (by decide) ?_
      refine mr_iret C dX3_isCrowd_17 rfl rfl (by decide) (by decide) hlen ?_
      rw [hO]
      exact ⟨congrArg (fun z => some (Value.int z)) (bI_t ⟨c_1, Int32.not_le.mp c_9⟩), rfl⟩

set_option maxRecDepth 20000 in
set_option maxHeartbeats 4000000 in
theorem c_doorBetween (E : EG) (a : Nat → Nat) (b : Nat) (se sn be so lo he inn al go : FN) (ro cr gn gu gr : Int32) (x y : Nat) (hx : x < 6) : Ctr E mX3_doorBetween (1, 0, 0) [.ref (a b), .int (nI x), .int (nI y)] (wH E a b se sn be so lo he inn al go ro cr gn gu gr) (fun v w => v = some (.int ((sn x >>> (nI y &&& 31)) &&& nI 1)) ∧ w = wH E a b se sn be so lo he inn al go ro cr gn gu gr) := by
  refine Ctr.of (by decide) (Nat.le_of_ble_eq_true rfl) ?_
  intro Z hO hn C
  have hlen : zn Z ≤ 10 := by rw [hn]; exact Nat.le_of_ble_eq_true rfl
  refine mr_aload_n C 1 dX3_doorBetween_0 rfl rfl ?_
  refine mr_get C 0 4 dX3_doorBetween_1 rfl fl_X3_15 rfl rfl ?_
  refine mr_iload_n C 5 dX3_doorBetween_4 rfl rfl ?_
  refine mr_iald C 2 x 6 dX3_doorBetween_5 rfl rfl rfl (by omega) (by decide) ?_
  refine mr_iload_n C 7 dX3_doorBetween_6 rfl rfl ?_
  refine mr_ishr C _ 8 dX3_doorBetween_7 rfl rfl ?_
  refine mr_iconst C (nI 1) 9 dX3_doorBetween_8 rfl rfl ?_
  refine mr_iand C _ 10 dX3_doorBetween_9 rfl rfl ?_
  refine mr_iret C dX3_doorBetween_10 rfl rfl (by decide) (by decide) hlen ?_
  rw [hO]
  exact ⟨rfl, rfl⟩

/-- a door put into the masks -/
def dr1 (sn : FN) (x y : Nat) (z : Int32) : FN := upd sn x ((sn x &&& ((nI 1 <<< (nI y &&& 31)) ^^^ (-1))) ||| (z <<< (nI y &&& 31)))
def drS (sn : FN) (x y : Nat) (z : Int32) : FN := dr1 (dr1 sn x y z) y x z
set_option maxRecDepth 20000 in
set_option maxHeartbeats 4000000 in
theorem c_putDoor (E : EG) (a : Nat → Nat) (b : Nat) (se sn be so lo he inn al go : FN) (ro cr gn gu gr : Int32) (x y : Nat) (z : Int32) (hx : x < 6) (hy : y < 6) : Ctr E mX3_putDoor (1, 0, 0) [.ref (a b), .int (nI x), .int (nI y), .int z] (wH E a b se sn be so lo he inn al go ro cr gn gu gr) (fun v w => v = none ∧ w = wH E a b se (drS sn x y z) be so lo he inn al go ro cr gn gu gr) := by
  refine Ctr.of (by decide) (Nat.le_of_ble_eq_true rfl) ?_
  intro Z hO hn C
  have hlen : zn Z ≤ 10 := by rw [hn]; exact Nat.le_of_ble_eq_true rfl
  refine mr_aload_n C 1 dX3_putDoor_0 rfl rfl ?_
  refine mr_get C 0 4 dX3_putDoor_1 rfl fl_X3_15 rfl rfl ?_
  refine mr_iload_n C 5 dX3_putDoor_4 rfl rfl ?_
  refine mr_aload_n C 6 dX3_putDoor_5 rfl rfl ?_
  refine mr_get C 0 9 dX3_putDoor_6 rfl fl_X3_15 rfl rfl ?_
  refine mr_iload_n C 10 dX3_putDoor_9 rfl rfl ?_
  refine mr_iald C 2 x 11 dX3_putDoor_10 rfl rfl rfl (by omega) (by decide) ?_
  refine mr_iconst C (nI 1) 12 dX3_putDoor_11 rfl rfl ?_
  refine mr_iload_n C 13 dX3_putDoor_12 rfl rfl ?_
  refine mr_ishl C _ 14 dX3_putDoor_13 rfl rfl ?_
  refine mr_iconst C (-1) 15 dX3_putDoor_14 rfl rfl ?_
  refine mr_ixor C _ 16 dX3_putDoor_15 rfl rfl ?_
  refine mr_iand C _ 17 dX3_putDoor_16 rfl rfl ?_
  refine mr_iload_n C 18 dX3_putDoor_17 rfl rfl ?_
  refine mr_iload_n C 19 dX3_putDoor_18 rfl rfl ?_
  refine mr_ishl C _ 20 dX3_putDoor_19 rfl rfl ?_
  refine mr_ior C _ 21 dX3_putDoor_20 rfl rfl ?_
  refine mr_iast C 2 x 22 dX3_putDoor_21 rfl rfl rfl (by omega) (by decide) ?_
  refine mr_aload_n C 23 dX3_putDoor_22 rfl rfl ?_
  refine mr_get C 0 26 dX3_putDoor_23 rfl fl_X3_15 rfl rfl ?_
  refine mr_iload_n C 27 dX3_putDoor_26 rfl rfl ?_
  refine mr_aload_n C 28 dX3_putDoor_27 rfl rfl ?_
  refine mr_get C 0 31 dX3_putDoor_28 rfl fl_X3_15 rfl rfl ?_
  refine mr_iload_n C 32 dX3_putDoor_31 rfl rfl ?_
  refine mr_iald C 2 y 33 dX3_putDoor_32 rfl rfl rfl (by omega) (by decide) ?_
  refine mr_iconst C (nI 1) 34 dX3_putDoor_33 rfl rfl ?_
  refine mr_iload_n C 35 dX3_putDoor_34 rfl rfl ?_
  refine mr_ishl C _ 36 dX3_putDoor_35 rfl rfl ?_
  refine mr_iconst C (-1) 37 dX3_putDoor_36 rfl rfl ?_
  refine mr_ixor C _ 38 dX3_putDoor_37 rfl rfl ?_
  refine mr_iand C _ 39 dX3_putDoor_38 rfl rfl ?_
  refine mr_iload_n C 40 dX3_putDoor_39 rfl rfl ?_
  refine mr_iload_n C 41 dX3_putDoor_40 rfl rfl ?_
  refine mr_ishl C _ 42 dX3_putDoor_41 rfl rfl ?_
  refine mr_ior C _ 43 dX3_putDoor_42 rfl rfl ?_
  refine mr_iast C 2 y 44 dX3_putDoor_43 rfl rfl rfl (by omega) (by decide) ?_
  refine mr_vret C dX3_putDoor_44 rfl (by decide) (by decide) hlen ?_
  rw [hO]
  exact ⟨rfl, rfl⟩

set_option maxRecDepth 20000 in
set_option maxHeartbeats 4000000 in
theorem c_headsIn (E : EG) (a : Nat → Nat) (b : Nat) (se sn be so lo he inn al go : FN) (ro gn gu gr : Int32) (K : Nat) (hK : K ≤ 5) (x : Int32) : Ctr E mX3_headsIn (1, 0, 0) [.ref (a b), .int x] (wH E a b se sn be so lo he inn al go ro (nI K) gn gu gr) (fun v w => v = some (.int (sumH lo he x K)) ∧ w = wH E a b se sn be so lo he inn al go ro (nI K) gn gu gr) := by
  refine Ctr.of (by decide) (Nat.le_of_ble_eq_true rfl) ?_
  intro Z hO hn C
  have hlen : zn Z ≤ 10 := by rw [hn]; exact Nat.le_of_ble_eq_true rfl
  have L : ∀ i, i ≤ K → V E mX3_headsIn (1, 0, 0) Z 0 0 (wH E a b se sn be so lo he inn al go ro (nI K) gn gu gr) [(0, .ref (a b)), (1, .int x), (2, .int (sumH lo he x i)), (3, .int (nI i))] [] 4 := by
    refine lp_up K ?_
    intro i hi ih
    refine mr_iload_n C 5 dX3_headsIn_4 rfl rfl ?_
    refine mr_aload_n C 6 dX3_headsIn_5 rfl rfl ?_
    refine mr_get C 0 9 dX3_headsIn_6 rfl fl_X3_43 rfl rfl ?_
    refine mr_icmpge C 37 12 dX3_headsIn_9 (by decide) rfl (fun c_9 => ?_) (fun c_9 => ?_)
    · rw [nI_leI (by omega) (by omega)] at c_9
      refine mr_iload_n C 38 dX3_headsIn_37 rfl rfl ?_
      refine mr_iret C dX3_headsIn_38 rfl rfl (by decide) (by decide) hlen ?_
      rw [hO]
      obtain rfl : i = K := by omega
      exact ⟨rfl, rfl⟩
    · rw [nI_leI (by omega) (by omega)] at c_9
      refine mr_aload_n C 13 dX3_headsIn_12 rfl rfl ?_
      refine mr_get C 0 16 dX3_headsIn_13 rfl fl_X3_24 rfl rfl ?_
      refine mr_iload_n C 17 dX3_headsIn_16 rfl rfl ?_
      refine mr_iald C 5 i 18 dX3_headsIn_17 rfl rfl rfl (by omega) (by decide) ?_
      refine mr_iload_n C 19 dX3_headsIn_18 rfl rfl ?_
      refine mr_icmpne C 31 22 dX3_headsIn_19 (by decide) rfl (fun c_19 => ?_) (fun c_19 => ?_)
      · have e : sumH lo he x (i + 1) = sumH lo he x i := if_neg c_19
        rw [e] at ih
        refine mr_iinc C (nI (i + 1)) 34 dX3_headsIn_31 rfl rfl (by decide) (nI_add i 1) ?_
        refine mr_goto C 4 dX3_headsIn_34 (by decide) ?_
        exact mr_at (ih (by omega)) rfl rfl rfl
      · have e : sumH lo he x (i + 1) = sumH lo he x i + he i := if_pos c_19
        rw [e] at ih
        refine mr_iload_n C 23 dX3_headsIn_22 rfl rfl ?_
        refine mr_aload_n C 24 dX3_headsIn_23 rfl rfl ?_
        refine mr_get C 0 27 dX3_headsIn_24 rfl fl_X3_27 rfl rfl ?_
        refine mr_iload_n C 28 dX3_headsIn_27 rfl rfl ?_
        refine mr_iald C 6 i 29 dX3_headsIn_28 rfl rfl rfl (by omega) (by decide) ?_
        refine mr_iadd C _ 30 dX3_headsIn_29 rfl rfl ?_
        refine mr_istore_n C 31 dX3_headsIn_30 rfl rfl (by decide) ?_
        refine mr_iinc C (nI (i + 1)) 34 dX3_headsIn_31 rfl rfl (by decide) (nI_add i 1) ?_
        refine mr_goto C 4 dX3_headsIn_34 (by decide) ?_
        exact mr_at (ih (by omega)) rfl rfl rfl
  refine mr_iconst C (nI 0) 1 dX3_headsIn_0 rfl rfl ?_
  refine mr_istore_n C 2 dX3_headsIn_1 rfl rfl (by decide) ?_
  refine mr_iconst C (nI 0) 3 dX3_headsIn_2 rfl rfl ?_
  refine mr_istore_n C 4 dX3_headsIn_3 rfl rfl (by decide) ?_
  exact mr_at (L 0 (Nat.zero_le _)) rfl rfl rfl

set_option maxRecDepth 20000 in
set_option maxHeartbeats 4000000 in
theorem c_allHeads (E : EG) (a : Nat → Nat) (b : Nat) (se sn be so lo he inn al go : FN) (ro gn gu gr : Int32) (K : Nat) (hK : K ≤ 5) : Ctr E mX3_allHeads (1, 0, 0) [.ref (a b)] (wH E a b se sn be so lo he inn al go ro (nI K) gn gu gr) (fun v w => v = some (.int (sumA he K)) ∧ w = wH E a b se sn be so lo he inn al go ro (nI K) gn gu gr) := by
  refine Ctr.of (by decide) (Nat.le_of_ble_eq_true rfl) ?_
  intro Z hO hn C
  have hlen : zn Z ≤ 10 := by rw [hn]; exact Nat.le_of_ble_eq_true rfl
  have L : ∀ i, i ≤ K → V E mX3_allHeads (1, 0, 0) Z 0 0 (wH E a b se sn be so lo he inn al go ro (nI K) gn gu gr) [(0, .ref (a b)), (1, .int (sumA he i)), (2, .int (nI i))] [] 4 := by
    refine lp_up K ?_
    intro i hi ih
    refine mr_iload_n C 5 dX3_allHeads_4 rfl rfl ?_
    refine mr_aload_n C 6 dX3_allHeads_5 rfl rfl ?_
    refine mr_get C 0 9 dX3_allHeads_6 rfl fl_X3_43 rfl rfl ?_
    refine mr_icmpge C 27 12 dX3_allHeads_9 (by decide) rfl (fun c_9 => ?_) (fun c_9 => ?_)
    · rw [nI_leI (by omega) (by omega)] at c_9
      refine mr_iload_n C 28 dX3_allHeads_27 rfl rfl ?_
      refine mr_iret C dX3_allHeads_28 rfl rfl (by decide) (by decide) hlen ?_
      rw [hO]
      obtain rfl : i = K := by omega
      exact ⟨rfl, rfl⟩
    · rw [nI_leI (by omega) (by omega)] at c_9
      refine mr_iload_n C 13 dX3_allHeads_12 rfl rfl ?_
      refine mr_aload_n C 14 dX3_allHeads_13 rfl rfl ?_
      refine mr_get C 0 17 dX3_allHeads_14 rfl fl_X3_27 rfl rfl ?_
      refine mr_iload_n C 18 dX3_allHeads_17 rfl rfl ?_
      refine mr_iald C 6 i 19 dX3_allHeads_18 rfl rfl rfl (by omega) (by decide) ?_
      refine mr_iadd C _ 20 dX3_allHeads_19 rfl rfl ?_
      refine mr_istore_n C 21 dX3_allHeads_20 rfl rfl (by decide) ?_
      refine mr_iinc C (nI (i + 1)) 24 dX3_allHeads_21 rfl rfl (by decide) (nI_add i 1) ?_
      refine mr_goto C 4 dX3_allHeads_24 (by decide) ?_
      exact mr_at (ih (by omega)) rfl rfl rfl
  refine mr_iconst C (nI 0) 1 dX3_allHeads_0 rfl rfl ?_
  refine mr_istore_n C 2 dX3_allHeads_1 rfl rfl (by decide) ?_
  refine mr_iconst C (nI 0) 3 dX3_allHeads_2 rfl rfl ?_
  refine mr_istore_n C 4 dX3_allHeads_3 rfl rfl (by decide) ?_
  exact mr_at (L 0 (Nat.zero_le _)) rfl rfl rfl

