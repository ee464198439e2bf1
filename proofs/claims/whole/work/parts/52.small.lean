/-! the class' calls: small ones -/
set_option maxRecDepth 100000 in
theorem fg_X7_269 : Cond.fieldLink RX7 269 RX7 (namP 0) "[I" ∈ gw := gw_mem (List.mem_of_getElem? (i := 776) rfl) rfl
set_option maxRecDepth 20000 in
set_option maxHeartbeats 4000000 in
theorem c_isRow (E : EG) (x : Int32) : Ctr E mX7_isRow (0, 0, 0) [.int x] ([]) (fun v w => v = some (.int (bI (0 ≤ x.toInt ∧ x.toInt < 8))) ∧ w = []) := by
  refine Ctr.of (by decide) (Nat.le_of_ble_eq_true rfl) ?_
  intro Z hO hn C
  have hlen : zn Z ≤ 0 := by rw [hn]; exact Nat.le_of_ble_eq_true rfl
  refine mr_iload_n C 1 dX7_isRow_0 rfl rfl ?_
  refine mr_iflt C 14 4 dX7_isRow_1 (by decide) rfl (fun c_1 => ?_) (fun c_1 => ?_)
  · rw [tI_lt0] at c_1
    refine mr_iconst C (nI 0) 15 dX7_isRow_14 rfl rfl ?_
    refine mr_iret C dX7_isRow_15 rfl rfl (by decide) (by decide) hlen ?_
    rw [hO]
    exact ⟨congrArg (fun z => some (Value.int z)) (bI_f (by omega)), rfl⟩
  · rw [tI_lt0] at c_1
    refine mr_iload_n C 5 dX7_isRow_4 rfl rfl ?_
    refine mr_bipush C (nI 8) 7 dX7_isRow_5 rfl rfl ?_
    refine mr_icmpge C 14 10 dX7_isRow_7 (by decide) rfl (fun c_7 => ?_) (fun c_7 => ?_)
    · rw [tI_ge (by omega)] at c_7
      refine mr_iconst C (nI 0) 15 dX7_isRow_14 rfl rfl ?_
      refine mr_iret C dX7_isRow_15 rfl rfl (by decide) (by decide) hlen ?_
      rw [hO]
      exact ⟨congrArg (fun z => some (Value.int z)) (bI_f (by omega)), rfl⟩
    · rw [tI_ge (by omega)] at c_7
      refine mr_iconst C (nI 1) 11 dX7_isRow_10 rfl rfl ?_
      refine mr_goto C 15 dX7_isRow_11 (by decide) ?_
      refine mr_iret C dX7_isRow_15 rfl rfl (by decide) (by decide) hlen ?_
      rw [hO]
      exact ⟨congrArg (fun z => some (Value.int z)) (bI_t ⟨by omega, by omega⟩), rfl⟩

set_option maxRecDepth 20000 in
set_option maxHeartbeats 4000000 in
theorem c_found (E : EG) (a : Nat → Nat) (fn fd : Int32) (n : Nat) : Ctr E mX7_found (1, 0, 0) [.ref (a 0), .int (nI n)] (w0 E a fn fd) (fun v w => v = some (.int (-1000010 - nI n)) ∧ w = w0 E a fn (nI n)) := by
  refine Ctr.of (by decide) (Nat.le_of_ble_eq_true rfl) ?_
  intro Z hO hn C
  have hlen : zn Z ≤ 1 := by rw [hn]; exact Nat.le_of_ble_eq_true rfl
  refine mr_aload_n C 1 dX7_found_0 rfl rfl ?_
  refine mr_iload_n C 2 dX7_found_1 rfl rfl ?_
  refine mr_put C 0 5 dX7_found_2 rfl fs_X7_79 rfl rfl rfl (Nat.le_of_ble_eq_true rfl) ?_
  refine mr_ldc C 7 dX7_found_5 rfl kc_X7_255 ?_
  refine mr_iload_n C 8 dX7_found_7 rfl rfl ?_
  refine mr_isub C (-1000010 - nI n) 9 dX7_found_8 rfl rfl ?_
  refine mr_iret C dX7_found_9 rfl rfl (by decide) (by decide) hlen ?_
  rw [hO]
  exact ⟨rfl, rfl⟩

set_option maxRecDepth 20000 in
set_option maxHeartbeats 4000000 in
theorem c_isA_1_0 (E : EG)  : Ctr E mX7_isA (0, 0, 0) [.int (nI 1), .int (nI 0)] ([]) (fun v w => v = some (.int (nI 1)) ∧ w = []) := by
  refine Ctr.of (by decide) (Nat.le_of_ble_eq_true rfl) ?_
  intro Z hO hn C
  have hlen : zn Z ≤ 0 := by rw [hn]; exact Nat.le_of_ble_eq_true rfl
  refine mr_iload_n C 1 dX7_isA_0 rfl rfl ?_
  refine mr_istore_n C 2 dX7_isA_1 rfl rfl (by decide) ?_
  refine mr_iconst C (nI 0) 3 dX7_isA_2 rfl rfl ?_
  refine mr_istore_n C 4 dX7_isA_3 rfl rfl (by decide) ?_
  refine mr_iload_n C 5 dX7_isA_4 rfl rfl ?_
  refine mr_gets C 8 dX7_isA_5 rfl (C.2.2.2.2.2.2.2.2.1.2.2.1 0 (by decide)).1 fg_X7_269 ?_
  refine mr_tlen C 9 dX7_isA_8 rfl (C.2.2.2.2.2.2.2.2.1.2.2.1 0 (by decide)).2 ?_
  refine mr_icmpge C 33 12 dX7_isA_9 (by decide) rfl (fun c_ => absurd c_ (by decide)) (fun _ => ?_)
  refine mr_iload_n C 13 dX7_isA_12 rfl rfl ?_
  refine mr_iload_n C 14 dX7_isA_13 rfl rfl ?_
  refine mr_icmpeq C 33 17 dX7_isA_14 (by decide) rfl (fun c_ => absurd c_ (by decide)) (fun _ => ?_)
  refine mr_iload_n C 18 dX7_isA_17 rfl rfl ?_
  refine mr_ifle C 33 21 dX7_isA_18 (by decide) rfl (fun c_ => absurd c_ (by decide)) (fun _ => ?_)
  refine mr_gets C 24 dX7_isA_21 rfl (C.2.2.2.2.2.2.2.2.1.2.2.1 0 (by decide)).1 fg_X7_269 ?_
  refine mr_iload_n C 25 dX7_isA_24 rfl rfl ?_
  refine mr_tint C 1 (v := .int (nI 0)) 26 dX7_isA_25 rfl (C.2.2.2.2.2.2.2.2.1.2.2.1 0 (by decide)).2 rfl (by decide) (by decide) rfl ?_
  refine mr_istore_n C 27 dX7_isA_26 rfl rfl (by decide) ?_
  refine mr_iinc C (nI 1) 30 dX7_isA_27 rfl rfl (by decide) rfl ?_
  refine mr_goto C 4 dX7_isA_30 (by decide) ?_
  refine mr_iload_n C 5 dX7_isA_4 rfl rfl ?_
  refine mr_gets C 8 dX7_isA_5 rfl (C.2.2.2.2.2.2.2.2.1.2.2.1 0 (by decide)).1 fg_X7_269 ?_
  refine mr_tlen C 9 dX7_isA_8 rfl (C.2.2.2.2.2.2.2.2.1.2.2.1 0 (by decide)).2 ?_
  refine mr_icmpge C 33 12 dX7_isA_9 (by decide) rfl (fun c_ => absurd c_ (by decide)) (fun _ => ?_)
  refine mr_iload_n C 13 dX7_isA_12 rfl rfl ?_
  refine mr_iload_n C 14 dX7_isA_13 rfl rfl ?_
  refine mr_icmpeq C 33 17 dX7_isA_14 (by decide) rfl (fun _ => ?_) (fun c_ => absurd (by decide) c_)
  refine mr_iload_n C 34 dX7_isA_33 rfl rfl ?_
  refine mr_iload_n C 35 dX7_isA_34 rfl rfl ?_
  refine mr_icmpne C 42 38 dX7_isA_35 (by decide) rfl (fun c_ => absurd (by decide) c_) (fun _ => ?_)
  refine mr_iconst C (nI 1) 39 dX7_isA_38 rfl rfl ?_
  refine mr_goto C 43 dX7_isA_39 (by decide) ?_
  refine mr_iret C dX7_isA_43 rfl rfl (by decide) (by decide) hlen ?_
  rw [hO]
  exact ⟨rfl, rfl⟩

set_option maxRecDepth 20000 in
set_option maxHeartbeats 4000000 in
theorem c_isA_1_1 (E : EG)  : Ctr E mX7_isA (0, 0, 0) [.int (nI 1), .int (nI 1)] ([]) (fun v w => v = some (.int (nI 1)) ∧ w = []) := by
  refine Ctr.of (by decide) (Nat.le_of_ble_eq_true rfl) ?_
  intro Z hO hn C
  have hlen : zn Z ≤ 0 := by rw [hn]; exact Nat.le_of_ble_eq_true rfl
  refine mr_iload_n C 1 dX7_isA_0 rfl rfl ?_
  refine mr_istore_n C 2 dX7_isA_1 rfl rfl (by decide) ?_
  refine mr_iconst C (nI 0) 3 dX7_isA_2 rfl rfl ?_
  refine mr_istore_n C 4 dX7_isA_3 rfl rfl (by decide) ?_
  refine mr_iload_n C 5 dX7_isA_4 rfl rfl ?_
  refine mr_gets C 8 dX7_isA_5 rfl (C.2.2.2.2.2.2.2.2.1.2.2.1 0 (by decide)).1 fg_X7_269 ?_
  refine mr_tlen C 9 dX7_isA_8 rfl (C.2.2.2.2.2.2.2.2.1.2.2.1 0 (by decide)).2 ?_
  refine mr_icmpge C 33 12 dX7_isA_9 (by decide) rfl (fun c_ => absurd c_ (by decide)) (fun _ => ?_)
  refine mr_iload_n C 13 dX7_isA_12 rfl rfl ?_
  refine mr_iload_n C 14 dX7_isA_13 rfl rfl ?_
  refine mr_icmpeq C 33 17 dX7_isA_14 (by decide) rfl (fun _ => ?_) (fun c_ => absurd (by decide) c_)
  refine mr_iload_n C 34 dX7_isA_33 rfl rfl ?_
  refine mr_iload_n C 35 dX7_isA_34 rfl rfl ?_
  refine mr_icmpne C 42 38 dX7_isA_35 (by decide) rfl (fun c_ => absurd (by decide) c_) (fun _ => ?_)
  refine mr_iconst C (nI 1) 39 dX7_isA_38 rfl rfl ?_
  refine mr_goto C 43 dX7_isA_39 (by decide) ?_
  refine mr_iret C dX7_isA_43 rfl rfl (by decide) (by decide) hlen ?_
  rw [hO]
  exact ⟨rfl, rfl⟩

set_option maxRecDepth 20000 in
set_option maxHeartbeats 4000000 in
theorem c_isA_1_2 (E : EG)  : Ctr E mX7_isA (0, 0, 0) [.int (nI 1), .int (nI 2)] ([]) (fun v w => v = some (.int (nI 0)) ∧ w = []) := by
  refine Ctr.of (by decide) (Nat.le_of_ble_eq_true rfl) ?_
  intro Z hO hn C
  have hlen : zn Z ≤ 0 := by rw [hn]; exact Nat.le_of_ble_eq_true rfl
  refine mr_iload_n C 1 dX7_isA_0 rfl rfl ?_
  refine mr_istore_n C 2 dX7_isA_1 rfl rfl (by decide) ?_
  refine mr_iconst C (nI 0) 3 dX7_isA_2 rfl rfl ?_
  refine mr_istore_n C 4 dX7_isA_3 rfl rfl (by decide) ?_
  refine mr_iload_n C 5 dX7_isA_4 rfl rfl ?_
  refine mr_gets C 8 dX7_isA_5 rfl (C.2.2.2.2.2.2.2.2.1.2.2.1 0 (by decide)).1 fg_X7_269 ?_
  refine mr_tlen C 9 dX7_isA_8 rfl (C.2.2.2.2.2.2.2.2.1.2.2.1 0 (by decide)).2 ?_
  refine mr_icmpge C 33 12 dX7_isA_9 (by decide) rfl (fun c_ => absurd c_ (by decide)) (fun _ => ?_)
  refine mr_iload_n C 13 dX7_isA_12 rfl rfl ?_
  refine mr_iload_n C 14 dX7_isA_13 rfl rfl ?_
  refine mr_icmpeq C 33 17 dX7_isA_14 (by decide) rfl (fun c_ => absurd c_ (by decide)) (fun _ => ?_)
  refine mr_iload_n C 18 dX7_isA_17 rfl rfl ?_
  refine mr_ifle C 33 21 dX7_isA_18 (by decide) rfl (fun c_ => absurd c_ (by decide)) (fun _ => ?_)
  refine mr_gets C 24 dX7_isA_21 rfl (C.2.2.2.2.2.2.2.2.1.2.2.1 0 (by decide)).1 fg_X7_269 ?_
  refine mr_iload_n C 25 dX7_isA_24 rfl rfl ?_
  refine mr_tint C 1 (v := .int (nI 0)) 26 dX7_isA_25 rfl (C.2.2.2.2.2.2.2.2.1.2.2.1 0 (by decide)).2 rfl (by decide) (by decide) rfl ?_
  refine mr_istore_n C 27 dX7_isA_26 rfl rfl (by decide) ?_
  refine mr_iinc C (nI 1) 30 dX7_isA_27 rfl rfl (by decide) rfl ?_
  refine mr_goto C 4 dX7_isA_30 (by decide) ?_
  refine mr_iload_n C 5 dX7_isA_4 rfl rfl ?_
  refine mr_gets C 8 dX7_isA_5 rfl (C.2.2.2.2.2.2.2.2.1.2.2.1 0 (by decide)).1 fg_X7_269 ?_
  refine mr_tlen C 9 dX7_isA_8 rfl (C.2.2.2.2.2.2.2.2.1.2.2.1 0 (by decide)).2 ?_
  refine mr_icmpge C 33 12 dX7_isA_9 (by decide) rfl (fun c_ => absurd c_ (by decide)) (fun _ => ?_)
  refine mr_iload_n C 13 dX7_isA_12 rfl rfl ?_
  refine mr_iload_n C 14 dX7_isA_13 rfl rfl ?_
  refine mr_icmpeq C 33 17 dX7_isA_14 (by decide) rfl (fun c_ => absurd c_ (by decide)) (fun _ => ?_)
  refine mr_iload_n C 18 dX7_isA_17 rfl rfl ?_
  refine mr_ifle C 33 21 dX7_isA_18 (by decide) rfl (fun _ => ?_) (fun c_ => absurd (by decide) c_)
  refine mr_iload_n C 34 dX7_isA_33 rfl rfl ?_
  refine mr_iload_n C 35 dX7_isA_34 rfl rfl ?_
  refine mr_icmpne C 42 38 dX7_isA_35 (by decide) rfl (fun _ => ?_) (fun c_ => absurd c_ (by decide))
  refine mr_iconst C (nI 0) 43 dX7_isA_42 rfl rfl ?_
  refine mr_iret C dX7_isA_43 rfl rfl (by decide) (by decide) hlen ?_
  rw [hO]
  exact ⟨rfl, rfl⟩

set_option maxRecDepth 20000 in
set_option maxHeartbeats 4000000 in
theorem c_isA_1_3 (E : EG)  : Ctr E mX7_isA (0, 0, 0) [.int (nI 1), .int (nI 3)] ([]) (fun v w => v = some (.int (nI 0)) ∧ w = []) := by
  refine Ctr.of (by decide) (Nat.le_of_ble_eq_true rfl) ?_
  intro Z hO hn C
  have hlen : zn Z ≤ 0 := by rw [hn]; exact Nat.le_of_ble_eq_true rfl
  refine mr_iload_n C 1 dX7_isA_0 rfl rfl ?_
  refine mr_istore_n C 2 dX7_isA_1 rfl rfl (by decide) ?_
  refine mr_iconst C (nI 0) 3 dX7_isA_2 rfl rfl ?_
  refine mr_istore_n C 4 dX7_isA_3 rfl rfl (by decide) ?_
  refine mr_iload_n C 5 dX7_isA_4 rfl rfl ?_
  refine mr_gets C 8 dX7_isA_5 rfl (C.2.2.2.2.2.2.2.2.1.2.2.1 0 (by decide)).1 fg_X7_269 ?_
  refine mr_tlen C 9 dX7_isA_8 rfl (C.2.2.2.2.2.2.2.2.1.2.2.1 0 (by decide)).2 ?_
  refine mr_icmpge C 33 12 dX7_isA_9 (by decide) rfl (fun c_ => absurd c_ (by decide)) (fun _ => ?_)
  refine mr_iload_n C 13 dX7_isA_12 rfl rfl ?_
  refine mr_iload_n C 14 dX7_isA_13 rfl rfl ?_
  refine mr_icmpeq C 33 17 dX7_isA_14 (by decide) rfl (fun c_ => absurd c_ (by decide)) (fun _ => ?_)
  refine mr_iload_n C 18 dX7_isA_17 rfl rfl ?_
  refine mr_ifle C 33 21 dX7_isA_18 (by decide) rfl (fun c_ => absurd c_ (by decide)) (fun _ => ?_)
  refine mr_gets C 24 dX7_isA_21 rfl (C.2.2.2.2.2.2.2.2.1.2.2.1 0 (by decide)).1 fg_X7_269 ?_
  refine mr_iload_n C 25 dX7_isA_24 rfl rfl ?_
  refine mr_tint C 1 (v := .int (nI 0)) 26 dX7_isA_25 rfl (C.2.2.2.2.2.2.2.2.1.2.2.1 0 (by decide)).2 rfl (by decide) (by decide) rfl ?_
  refine mr_istore_n C 27 dX7_isA_26 rfl rfl (by decide) ?_
  refine mr_iinc C (nI 1) 30 dX7_isA_27 rfl rfl (by decide) rfl ?_
  refine mr_goto C 4 dX7_isA_30 (by decide) ?_
  refine mr_iload_n C 5 dX7_isA_4 rfl rfl ?_
  refine mr_gets C 8 dX7_isA_5 rfl (C.2.2.2.2.2.2.2.2.1.2.2.1 0 (by decide)).1 fg_X7_269 ?_
  refine mr_tlen C 9 dX7_isA_8 rfl (C.2.2.2.2.2.2.2.2.1.2.2.1 0 (by decide)).2 ?_
  refine mr_icmpge C 33 12 dX7_isA_9 (by decide) rfl (fun c_ => absurd c_ (by decide)) (fun _ => ?_)
  refine mr_iload_n C 13 dX7_isA_12 rfl rfl ?_
  refine mr_iload_n C 14 dX7_isA_13 rfl rfl ?_
  refine mr_icmpeq C 33 17 dX7_isA_14 (by decide) rfl (fun c_ => absurd c_ (by decide)) (fun _ => ?_)
  refine mr_iload_n C 18 dX7_isA_17 rfl rfl ?_
  refine mr_ifle C 33 21 dX7_isA_18 (by decide) rfl (fun _ => ?_) (fun c_ => absurd (by decide) c_)
  refine mr_iload_n C 34 dX7_isA_33 rfl rfl ?_
  refine mr_iload_n C 35 dX7_isA_34 rfl rfl ?_
  refine mr_icmpne C 42 38 dX7_isA_35 (by decide) rfl (fun _ => ?_) (fun c_ => absurd c_ (by decide))
  refine mr_iconst C (nI 0) 43 dX7_isA_42 rfl rfl ?_
  refine mr_iret C dX7_isA_43 rfl rfl (by decide) (by decide) hlen ?_
  rw [hO]
  exact ⟨rfl, rfl⟩

set_option maxRecDepth 20000 in
set_option maxHeartbeats 4000000 in
theorem c_isA_1_4 (E : EG)  : Ctr E mX7_isA (0, 0, 0) [.int (nI 1), .int (nI 4)] ([]) (fun v w => v = some (.int (nI 0)) ∧ w = []) := by
  refine Ctr.of (by decide) (Nat.le_of_ble_eq_true rfl) ?_
  intro Z hO hn C
  have hlen : zn Z ≤ 0 := by rw [hn]; exact Nat.le_of_ble_eq_true rfl
  refine mr_iload_n C 1 dX7_isA_0 rfl rfl ?_
  refine mr_istore_n C 2 dX7_isA_1 rfl rfl (by decide) ?_
  refine mr_iconst C (nI 0) 3 dX7_isA_2 rfl rfl ?_
  refine mr_istore_n C 4 dX7_isA_3 rfl rfl (by decide) ?_
  refine mr_iload_n C 5 dX7_isA_4 rfl rfl ?_
  refine mr_gets C 8 dX7_isA_5 rfl (C.2.2.2.2.2.2.2.2.1.2.2.1 0 (by decide)).1 fg_X7_269 ?_
  refine mr_tlen C 9 dX7_isA_8 rfl (C.2.2.2.2.2.2.2.2.1.2.2.1 0 (by decide)).2 ?_
  refine mr_icmpge C 33 12 dX7_isA_9 (by decide) rfl (fun c_ => absurd c_ (by decide)) (fun _ => ?_)
  refine mr_iload_n C 13 dX7_isA_12 rfl rfl ?_
  refine mr_iload_n C 14 dX7_isA_13 rfl rfl ?_
  refine mr_icmpeq C 33 17 dX7_isA_14 (by decide) rfl (fun c_ => absurd c_ (by decide)) (fun _ => ?_)
  refine mr_iload_n C 18 dX7_isA_17 rfl rfl ?_
  refine mr_ifle C 33 21 dX7_isA_18 (by decide) rfl (fun c_ => absurd c_ (by decide)) (fun _ => ?_)
  refine mr_gets C 24 dX7_isA_21 rfl (C.2.2.2.2.2.2.2.2.1.2.2.1 0 (by decide)).1 fg_X7_269 ?_
  refine mr_iload_n C 25 dX7_isA_24 rfl rfl ?_
  refine mr_tint C 1 (v := .int (nI 0)) 26 dX7_isA_25 rfl (C.2.2.2.2.2.2.2.2.1.2.2.1 0 (by decide)).2 rfl (by decide) (by decide) rfl ?_
  refine mr_istore_n C 27 dX7_isA_26 rfl rfl (by decide) ?_
  refine mr_iinc C (nI 1) 30 dX7_isA_27 rfl rfl (by decide) rfl ?_
  refine mr_goto C 4 dX7_isA_30 (by decide) ?_
  refine mr_iload_n C 5 dX7_isA_4 rfl rfl ?_
  refine mr_gets C 8 dX7_isA_5 rfl (C.2.2.2.2.2.2.2.2.1.2.2.1 0 (by decide)).1 fg_X7_269 ?_
  refine mr_tlen C 9 dX7_isA_8 rfl (C.2.2.2.2.2.2.2.2.1.2.2.1 0 (by decide)).2 ?_
  refine mr_icmpge C 33 12 dX7_isA_9 (by decide) rfl (fun c_ => absurd c_ (by decide)) (fun _ => ?_)
  refine mr_iload_n C 13 dX7_isA_12 rfl rfl ?_
  refine mr_iload_n C 14 dX7_isA_13 rfl rfl ?_
  refine mr_icmpeq C 33 17 dX7_isA_14 (by decide) rfl (fun c_ => absurd c_ (by decide)) (fun _ => ?_)
  refine mr_iload_n C 18 dX7_isA_17 rfl rfl ?_
  refine mr_ifle C 33 21 dX7_isA_18 (by decide) rfl (fun _ => ?_) (fun c_ => absurd (by decide) c_)
  refine mr_iload_n C 34 dX7_isA_33 rfl rfl ?_
  refine mr_iload_n C 35 dX7_isA_34 rfl rfl ?_
  refine mr_icmpne C 42 38 dX7_isA_35 (by decide) rfl (fun _ => ?_) (fun c_ => absurd c_ (by decide))
  refine mr_iconst C (nI 0) 43 dX7_isA_42 rfl rfl ?_
  refine mr_iret C dX7_isA_43 rfl rfl (by decide) (by decide) hlen ?_
  rw [hO]
  exact ⟨rfl, rfl⟩

set_option maxRecDepth 20000 in
set_option maxHeartbeats 4000000 in
theorem c_isA_1_5 (E : EG)  : Ctr E mX7_isA (0, 0, 0) [.int (nI 1), .int (nI 5)] ([]) (fun v w => v = some (.int (nI 0)) ∧ w = []) := by
  refine Ctr.of (by decide) (Nat.le_of_ble_eq_true rfl) ?_
  intro Z hO hn C
  have hlen : zn Z ≤ 0 := by rw [hn]; exact Nat.le_of_ble_eq_true rfl
  refine mr_iload_n C 1 dX7_isA_0 rfl rfl ?_
  refine mr_istore_n C 2 dX7_isA_1 rfl rfl (by decide) ?_
  refine mr_iconst C (nI 0) 3 dX7_isA_2 rfl rfl ?_
  refine mr_istore_n C 4 dX7_isA_3 rfl rfl (by decide) ?_
  refine mr_iload_n C 5 dX7_isA_4 rfl rfl ?_
  refine mr_gets C 8 dX7_isA_5 rfl (C.2.2.2.2.2.2.2.2.1.2.2.1 0 (by decide)).1 fg_X7_269 ?_
  refine mr_tlen C 9 dX7_isA_8 rfl (C.2.2.2.2.2.2.2.2.1.2.2.1 0 (by decide)).2 ?_
  refine mr_icmpge C 33 12 dX7_isA_9 (by decide) rfl (fun c_ => absurd c_ (by decide)) (fun _ => ?_)
  refine mr_iload_n C 13 dX7_isA_12 rfl rfl ?_
  refine mr_iload_n C 14 dX7_isA_13 rfl rfl ?_
  refine mr_icmpeq C 33 17 dX7_isA_14 (by decide) rfl (fun c_ => absurd c_ (by decide)) (fun _ => ?_)
  refine mr_iload_n C 18 dX7_isA_17 rfl rfl ?_
  refine mr_ifle C 33 21 dX7_isA_18 (by decide) rfl (fun c_ => absurd c_ (by decide)) (fun _ => ?_)
  refine mr_gets C 24 dX7_isA_21 rfl (C.2.2.2.2.2.2.2.2.1.2.2.1 0 (by decide)).1 fg_X7_269 ?_
  refine mr_iload_n C 25 dX7_isA_24 rfl rfl ?_
  refine mr_tint C 1 (v := .int (nI 0)) 26 dX7_isA_25 rfl (C.2.2.2.2.2.2.2.2.1.2.2.1 0 (by decide)).2 rfl (by decide) (by decide) rfl ?_
  refine mr_istore_n C 27 dX7_isA_26 rfl rfl (by decide) ?_
  refine mr_iinc C (nI 1) 30 dX7_isA_27 rfl rfl (by decide) rfl ?_
  refine mr_goto C 4 dX7_isA_30 (by decide) ?_
  refine mr_iload_n C 5 dX7_isA_4 rfl rfl ?_
  refine mr_gets C 8 dX7_isA_5 rfl (C.2.2.2.2.2.2.2.2.1.2.2.1 0 (by decide)).1 fg_X7_269 ?_
  refine mr_tlen C 9 dX7_isA_8 rfl (C.2.2.2.2.2.2.2.2.1.2.2.1 0 (by decide)).2 ?_
  refine mr_icmpge C 33 12 dX7_isA_9 (by decide) rfl (fun c_ => absurd c_ (by decide)) (fun _ => ?_)
  refine mr_iload_n C 13 dX7_isA_12 rfl rfl ?_
  refine mr_iload_n C 14 dX7_isA_13 rfl rfl ?_
  refine mr_icmpeq C 33 17 dX7_isA_14 (by decide) rfl (fun c_ => absurd c_ (by decide)) (fun _ => ?_)
  refine mr_iload_n C 18 dX7_isA_17 rfl rfl ?_
  refine mr_ifle C 33 21 dX7_isA_18 (by decide) rfl (fun _ => ?_) (fun c_ => absurd (by decide) c_)
  refine mr_iload_n C 34 dX7_isA_33 rfl rfl ?_
  refine mr_iload_n C 35 dX7_isA_34 rfl rfl ?_
  refine mr_icmpne C 42 38 dX7_isA_35 (by decide) rfl (fun _ => ?_) (fun c_ => absurd c_ (by decide))
  refine mr_iconst C (nI 0) 43 dX7_isA_42 rfl rfl ?_
  refine mr_iret C dX7_isA_43 rfl rfl (by decide) (by decide) hlen ?_
  rw [hO]
  exact ⟨rfl, rfl⟩

set_option maxRecDepth 20000 in
set_option maxHeartbeats 4000000 in
theorem c_isA_2_0 (E : EG)  : Ctr E mX7_isA (0, 0, 0) [.int (nI 2), .int (nI 0)] ([]) (fun v w => v = some (.int (nI 1)) ∧ w = []) := by
  refine Ctr.of (by decide) (Nat.le_of_ble_eq_true rfl) ?_
  intro Z hO hn C
  have hlen : zn Z ≤ 0 := by rw [hn]; exact Nat.le_of_ble_eq_true rfl
  refine mr_iload_n C 1 dX7_isA_0 rfl rfl ?_
  refine mr_istore_n C 2 dX7_isA_1 rfl rfl (by decide) ?_
  refine mr_iconst C (nI 0) 3 dX7_isA_2 rfl rfl ?_
  refine mr_istore_n C 4 dX7_isA_3 rfl rfl (by decide) ?_
  refine mr_iload_n C 5 dX7_isA_4 rfl rfl ?_
  refine mr_gets C 8 dX7_isA_5 rfl (C.2.2.2.2.2.2.2.2.1.2.2.1 0 (by decide)).1 fg_X7_269 ?_
  refine mr_tlen C 9 dX7_isA_8 rfl (C.2.2.2.2.2.2.2.2.1.2.2.1 0 (by decide)).2 ?_
  refine mr_icmpge C 33 12 dX7_isA_9 (by decide) rfl (fun c_ => absurd c_ (by decide)) (fun _ => ?_)
  refine mr_iload_n C 13 dX7_isA_12 rfl rfl ?_
  refine mr_iload_n C 14 dX7_isA_13 rfl rfl ?_
  refine mr_icmpeq C 33 17 dX7_isA_14 (by decide) rfl (fun c_ => absurd c_ (by decide)) (fun _ => ?_)
  refine mr_iload_n C 18 dX7_isA_17 rfl rfl ?_
  refine mr_ifle C 33 21 dX7_isA_18 (by decide) rfl (fun c_ => absurd c_ (by decide)) (fun _ => ?_)
  refine mr_gets C 24 dX7_isA_21 rfl (C.2.2.2.2.2.2.2.2.1.2.2.1 0 (by decide)).1 fg_X7_269 ?_
  refine mr_iload_n C 25 dX7_isA_24 rfl rfl ?_
  refine mr_tint C 2 (v := .int (nI 1)) 26 dX7_isA_25 rfl (C.2.2.2.2.2.2.2.2.1.2.2.1 0 (by decide)).2 rfl (by decide) (by decide) rfl ?_
  refine mr_istore_n C 27 dX7_isA_26 rfl rfl (by decide) ?_
  refine mr_iinc C (nI 1) 30 dX7_isA_27 rfl rfl (by decide) rfl ?_
  refine mr_goto C 4 dX7_isA_30 (by decide) ?_
  refine mr_iload_n C 5 dX7_isA_4 rfl rfl ?_
  refine mr_gets C 8 dX7_isA_5 rfl (C.2.2.2.2.2.2.2.2.1.2.2.1 0 (by decide)).1 fg_X7_269 ?_
  refine mr_tlen C 9 dX7_isA_8 rfl (C.2.2.2.2.2.2.2.2.1.2.2.1 0 (by decide)).2 ?_
  refine mr_icmpge C 33 12 dX7_isA_9 (by decide) rfl (fun c_ => absurd c_ (by decide)) (fun _ => ?_)
  refine mr_iload_n C 13 dX7_isA_12 rfl rfl ?_
  refine mr_iload_n C 14 dX7_isA_13 rfl rfl ?_
  refine mr_icmpeq C 33 17 dX7_isA_14 (by decide) rfl (fun c_ => absurd c_ (by decide)) (fun _ => ?_)
  refine mr_iload_n C 18 dX7_isA_17 rfl rfl ?_
  refine mr_ifle C 33 21 dX7_isA_18 (by decide) rfl (fun c_ => absurd c_ (by decide)) (fun _ => ?_)
  refine mr_gets C 24 dX7_isA_21 rfl (C.2.2.2.2.2.2.2.2.1.2.2.1 0 (by decide)).1 fg_X7_269 ?_
  refine mr_iload_n C 25 dX7_isA_24 rfl rfl ?_
  refine mr_tint C 1 (v := .int (nI 0)) 26 dX7_isA_25 rfl (C.2.2.2.2.2.2.2.2.1.2.2.1 0 (by decide)).2 rfl (by decide) (by decide) rfl ?_
  refine mr_istore_n C 27 dX7_isA_26 rfl rfl (by decide) ?_
  refine mr_iinc C (nI 2) 30 dX7_isA_27 rfl rfl (by decide) rfl ?_
  refine mr_goto C 4 dX7_isA_30 (by decide) ?_
  refine mr_iload_n C 5 dX7_isA_4 rfl rfl ?_
  refine mr_gets C 8 dX7_isA_5 rfl (C.2.2.2.2.2.2.2.2.1.2.2.1 0 (by decide)).1 fg_X7_269 ?_
  refine mr_tlen C 9 dX7_isA_8 rfl (C.2.2.2.2.2.2.2.2.1.2.2.1 0 (by decide)).2 ?_
  refine mr_icmpge C 33 12 dX7_isA_9 (by decide) rfl (fun c_ => absurd c_ (by decide)) (fun _ => ?_)
  refine mr_iload_n C 13 dX7_isA_12 rfl rfl ?_
  refine mr_iload_n C 14 dX7_isA_13 rfl rfl ?_
  refine mr_icmpeq C 33 17 dX7_isA_14 (by decide) rfl (fun _ => ?_) (fun c_ => absurd (by decide) c_)
  refine mr_iload_n C 34 dX7_isA_33 rfl rfl ?_
  refine mr_iload_n C 35 dX7_isA_34 rfl rfl ?_
  refine mr_icmpne C 42 38 dX7_isA_35 (by decide) rfl (fun c_ => absurd (by decide) c_) (fun _ => ?_)
  refine mr_iconst C (nI 1) 39 dX7_isA_38 rfl rfl ?_
  refine mr_goto C 43 dX7_isA_39 (by decide) ?_
  refine mr_iret C dX7_isA_43 rfl rfl (by decide) (by decide) hlen ?_
  rw [hO]
  exact ⟨rfl, rfl⟩

set_option maxRecDepth 20000 in
set_option maxHeartbeats 4000000 in
theorem c_isA_2_1 (E : EG)  : Ctr E mX7_isA (0, 0, 0) [.int (nI 2), .int (nI 1)] ([]) (fun v w => v = some (.int (nI 1)) ∧ w = []) := by
  refine Ctr.of (by decide) (Nat.le_of_ble_eq_true rfl) ?_
  intro Z hO hn C
  have hlen : zn Z ≤ 0 := by rw [hn]; exact Nat.le_of_ble_eq_true rfl
  refine mr_iload_n C 1 dX7_isA_0 rfl rfl ?_
  refine mr_istore_n C 2 dX7_isA_1 rfl rfl (by decide) ?_
  refine mr_iconst C (nI 0) 3 dX7_isA_2 rfl rfl ?_
  refine mr_istore_n C 4 dX7_isA_3 rfl rfl (by decide) ?_
  refine mr_iload_n C 5 dX7_isA_4 rfl rfl ?_
  refine mr_gets C 8 dX7_isA_5 rfl (C.2.2.2.2.2.2.2.2.1.2.2.1 0 (by decide)).1 fg_X7_269 ?_
  refine mr_tlen C 9 dX7_isA_8 rfl (C.2.2.2.2.2.2.2.2.1.2.2.1 0 (by decide)).2 ?_
  refine mr_icmpge C 33 12 dX7_isA_9 (by decide) rfl (fun c_ => absurd c_ (by decide)) (fun _ => ?_)
  refine mr_iload_n C 13 dX7_isA_12 rfl rfl ?_
  refine mr_iload_n C 14 dX7_isA_13 rfl rfl ?_
  refine mr_icmpeq C 33 17 dX7_isA_14 (by decide) rfl (fun c_ => absurd c_ (by decide)) (fun _ => ?_)
  refine mr_iload_n C 18 dX7_isA_17 rfl rfl ?_
  refine mr_ifle C 33 21 dX7_isA_18 (by decide) rfl (fun c_ => absurd c_ (by decide)) (fun _ => ?_)
  refine mr_gets C 24 dX7_isA_21 rfl (C.2.2.2.2.2.2.2.2.1.2.2.1 0 (by decide)).1 fg_X7_269 ?_
  refine mr_iload_n C 25 dX7_isA_24 rfl rfl ?_
  refine mr_tint C 2 (v := .int (nI 1)) 26 dX7_isA_25 rfl (C.2.2.2.2.2.2.2.2.1.2.2.1 0 (by decide)).2 rfl (by decide) (by decide) rfl ?_
  refine mr_istore_n C 27 dX7_isA_26 rfl rfl (by decide) ?_
  refine mr_iinc C (nI 1) 30 dX7_isA_27 rfl rfl (by decide) rfl ?_
  refine mr_goto C 4 dX7_isA_30 (by decide) ?_
  refine mr_iload_n C 5 dX7_isA_4 rfl rfl ?_
  refine mr_gets C 8 dX7_isA_5 rfl (C.2.2.2.2.2.2.2.2.1.2.2.1 0 (by decide)).1 fg_X7_269 ?_
  refine mr_tlen C 9 dX7_isA_8 rfl (C.2.2.2.2.2.2.2.2.1.2.2.1 0 (by decide)).2 ?_
  refine mr_icmpge C 33 12 dX7_isA_9 (by decide) rfl (fun c_ => absurd c_ (by decide)) (fun _ => ?_)
  refine mr_iload_n C 13 dX7_isA_12 rfl rfl ?_
  refine mr_iload_n C 14 dX7_isA_13 rfl rfl ?_
  refine mr_icmpeq C 33 17 dX7_isA_14 (by decide) rfl (fun _ => ?_) (fun c_ => absurd (by decide) c_)
  refine mr_iload_n C 34 dX7_isA_33 rfl rfl ?_
  refine mr_iload_n C 35 dX7_isA_34 rfl rfl ?_
  refine mr_icmpne C 42 38 dX7_isA_35 (by decide) rfl (fun c_ => absurd (by decide) c_) (fun _ => ?_)
  refine mr_iconst C (nI 1) 39 dX7_isA_38 rfl rfl ?_
  refine mr_goto C 43 dX7_isA_39 (by decide) ?_
  refine mr_iret C dX7_isA_43 rfl rfl (by decide) (by decide) hlen ?_
  rw [hO]
  exact ⟨rfl, rfl⟩

set_option maxRecDepth 20000 in
set_option maxHeartbeats 4000000 in
theorem c_isA_2_2 (E : EG)  : Ctr E mX7_isA (0, 0, 0) [.int (nI 2), .int (nI 2)] ([]) (fun v w => v = some (.int (nI 1)) ∧ w = []) := by
  refine Ctr.of (by decide) (Nat.le_of_ble_eq_true rfl) ?_
  intro Z hO hn C
  have hlen : zn Z ≤ 0 := by rw [hn]; exact Nat.le_of_ble_eq_true rfl
  refine mr_iload_n C 1 dX7_isA_0 rfl rfl ?_
  refine mr_istore_n C 2 dX7_isA_1 rfl rfl (by decide) ?_
  refine mr_iconst C (nI 0) 3 dX7_isA_2 rfl rfl ?_
  refine mr_istore_n C 4 dX7_isA_3 rfl rfl (by decide) ?_
  refine mr_iload_n C 5 dX7_isA_4 rfl rfl ?_
  refine mr_gets C 8 dX7_isA_5 rfl (C.2.2.2.2.2.2.2.2.1.2.2.1 0 (by decide)).1 fg_X7_269 ?_
  refine mr_tlen C 9 dX7_isA_8 rfl (C.2.2.2.2.2.2.2.2.1.2.2.1 0 (by decide)).2 ?_
  refine mr_icmpge C 33 12 dX7_isA_9 (by decide) rfl (fun c_ => absurd c_ (by decide)) (fun _ => ?_)
  refine mr_iload_n C 13 dX7_isA_12 rfl rfl ?_
  refine mr_iload_n C 14 dX7_isA_13 rfl rfl ?_
  refine mr_icmpeq C 33 17 dX7_isA_14 (by decide) rfl (fun _ => ?_) (fun c_ => absurd (by decide) c_)
  refine mr_iload_n C 34 dX7_isA_33 rfl rfl ?_
  refine mr_iload_n C 35 dX7_isA_34 rfl rfl ?_
  refine mr_icmpne C 42 38 dX7_isA_35 (by decide) rfl (fun c_ => absurd (by decide) c_) (fun _ => ?_)
  refine mr_iconst C (nI 1) 39 dX7_isA_38 rfl rfl ?_
  refine mr_goto C 43 dX7_isA_39 (by decide) ?_
  refine mr_iret C dX7_isA_43 rfl rfl (by decide) (by decide) hlen ?_
  rw [hO]
  exact ⟨rfl, rfl⟩

set_option maxRecDepth 20000 in
set_option maxHeartbeats 4000000 in
theorem c_isA_2_3 (E : EG)  : Ctr E mX7_isA (0, 0, 0) [.int (nI 2), .int (nI 3)] ([]) (fun v w => v = some (.int (nI 0)) ∧ w = []) := by
  refine Ctr.of (by decide) (Nat.le_of_ble_eq_true rfl) ?_
  intro Z hO hn C
  have hlen : zn Z ≤ 0 := by rw [hn]; exact Nat.le_of_ble_eq_true rfl
  refine mr_iload_n C 1 dX7_isA_0 rfl rfl ?_
  refine mr_istore_n C 2 dX7_isA_1 rfl rfl (by decide) ?_
  refine mr_iconst C (nI 0) 3 dX7_isA_2 rfl rfl ?_
  refine mr_istore_n C 4 dX7_isA_3 rfl rfl (by decide) ?_
  refine mr_iload_n C 5 dX7_isA_4 rfl rfl ?_
  refine mr_gets C 8 dX7_isA_5 rfl (C.2.2.2.2.2.2.2.2.1.2.2.1 0 (by decide)).1 fg_X7_269 ?_
  refine mr_tlen C 9 dX7_isA_8 rfl (C.2.2.2.2.2.2.2.2.1.2.2.1 0 (by decide)).2 ?_
  refine mr_icmpge C 33 12 dX7_isA_9 (by decide) rfl (fun c_ => absurd c_ (by decide)) (fun _ => ?_)
  refine mr_iload_n C 13 dX7_isA_12 rfl rfl ?_
  refine mr_iload_n C 14 dX7_isA_13 rfl rfl ?_
  refine mr_icmpeq C 33 17 dX7_isA_14 (by decide) rfl (fun c_ => absurd c_ (by decide)) (fun _ => ?_)
  refine mr_iload_n C 18 dX7_isA_17 rfl rfl ?_
  refine mr_ifle C 33 21 dX7_isA_18 (by decide) rfl (fun c_ => absurd c_ (by decide)) (fun _ => ?_)
  refine mr_gets C 24 dX7_isA_21 rfl (C.2.2.2.2.2.2.2.2.1.2.2.1 0 (by decide)).1 fg_X7_269 ?_
  refine mr_iload_n C 25 dX7_isA_24 rfl rfl ?_
  refine mr_tint C 2 (v := .int (nI 1)) 26 dX7_isA_25 rfl (C.2.2.2.2.2.2.2.2.1.2.2.1 0 (by decide)).2 rfl (by decide) (by decide) rfl ?_
  refine mr_istore_n C 27 dX7_isA_26 rfl rfl (by decide) ?_
  refine mr_iinc C (nI 1) 30 dX7_isA_27 rfl rfl (by decide) rfl ?_
  refine mr_goto C 4 dX7_isA_30 (by decide) ?_
  refine mr_iload_n C 5 dX7_isA_4 rfl rfl ?_
  refine mr_gets C 8 dX7_isA_5 rfl (C.2.2.2.2.2.2.2.2.1.2.2.1 0 (by decide)).1 fg_X7_269 ?_
  refine mr_tlen C 9 dX7_isA_8 rfl (C.2.2.2.2.2.2.2.2.1.2.2.1 0 (by decide)).2 ?_
  refine mr_icmpge C 33 12 dX7_isA_9 (by decide) rfl (fun c_ => absurd c_ (by decide)) (fun _ => ?_)
  refine mr_iload_n C 13 dX7_isA_12 rfl rfl ?_
  refine mr_iload_n C 14 dX7_isA_13 rfl rfl ?_
  refine mr_icmpeq C 33 17 dX7_isA_14 (by decide) rfl (fun c_ => absurd c_ (by decide)) (fun _ => ?_)
  refine mr_iload_n C 18 dX7_isA_17 rfl rfl ?_
  refine mr_ifle C 33 21 dX7_isA_18 (by decide) rfl (fun c_ => absurd c_ (by decide)) (fun _ => ?_)
  refine mr_gets C 24 dX7_isA_21 rfl (C.2.2.2.2.2.2.2.2.1.2.2.1 0 (by decide)).1 fg_X7_269 ?_
  refine mr_iload_n C 25 dX7_isA_24 rfl rfl ?_
  refine mr_tint C 1 (v := .int (nI 0)) 26 dX7_isA_25 rfl (C.2.2.2.2.2.2.2.2.1.2.2.1 0 (by decide)).2 rfl (by decide) (by decide) rfl ?_
  refine mr_istore_n C 27 dX7_isA_26 rfl rfl (by decide) ?_
  refine mr_iinc C (nI 2) 30 dX7_isA_27 rfl rfl (by decide) rfl ?_
  refine mr_goto C 4 dX7_isA_30 (by decide) ?_
  refine mr_iload_n C 5 dX7_isA_4 rfl rfl ?_
  refine mr_gets C 8 dX7_isA_5 rfl (C.2.2.2.2.2.2.2.2.1.2.2.1 0 (by decide)).1 fg_X7_269 ?_
  refine mr_tlen C 9 dX7_isA_8 rfl (C.2.2.2.2.2.2.2.2.1.2.2.1 0 (by decide)).2 ?_
  refine mr_icmpge C 33 12 dX7_isA_9 (by decide) rfl (fun c_ => absurd c_ (by decide)) (fun _ => ?_)
  refine mr_iload_n C 13 dX7_isA_12 rfl rfl ?_
  refine mr_iload_n C 14 dX7_isA_13 rfl rfl ?_
  refine mr_icmpeq C 33 17 dX7_isA_14 (by decide) rfl (fun c_ => absurd c_ (by decide)) (fun _ => ?_)
  refine mr_iload_n C 18 dX7_isA_17 rfl rfl ?_
  refine mr_ifle C 33 21 dX7_isA_18 (by decide) rfl (fun _ => ?_) (fun c_ => absurd (by decide) c_)
  refine mr_iload_n C 34 dX7_isA_33 rfl rfl ?_
  refine mr_iload_n C 35 dX7_isA_34 rfl rfl ?_
  refine mr_icmpne C 42 38 dX7_isA_35 (by decide) rfl (fun _ => ?_) (fun c_ => absurd c_ (by decide))
  refine mr_iconst C (nI 0) 43 dX7_isA_42 rfl rfl ?_
  refine mr_iret C dX7_isA_43 rfl rfl (by decide) (by decide) hlen ?_
  rw [hO]
  exact ⟨rfl, rfl⟩

set_option maxRecDepth 20000 in
set_option maxHeartbeats 4000000 in
theorem c_isA_2_4 (E : EG)  : Ctr E mX7_isA (0, 0, 0) [.int (nI 2), .int (nI 4)] ([]) (fun v w => v = some (.int (nI 0)) ∧ w = []) := by
  refine Ctr.of (by decide) (Nat.le_of_ble_eq_true rfl) ?_
  intro Z hO hn C
  have hlen : zn Z ≤ 0 := by rw [hn]; exact Nat.le_of_ble_eq_true rfl
  refine mr_iload_n C 1 dX7_isA_0 rfl rfl ?_
  refine mr_istore_n C 2 dX7_isA_1 rfl rfl (by decide) ?_
  refine mr_iconst C (nI 0) 3 dX7_isA_2 rfl rfl ?_
  refine mr_istore_n C 4 dX7_isA_3 rfl rfl (by decide) ?_
  refine mr_iload_n C 5 dX7_isA_4 rfl rfl ?_
  refine mr_gets C 8 dX7_isA_5 rfl (C.2.2.2.2.2.2.2.2.1.2.2.1 0 (by decide)).1 fg_X7_269 ?_
  refine mr_tlen C 9 dX7_isA_8 rfl (C.2.2.2.2.2.2.2.2.1.2.2.1 0 (by decide)).2 ?_
  refine mr_icmpge C 33 12 dX7_isA_9 (by decide) rfl (fun c_ => absurd c_ (by decide)) (fun _ => ?_)
  refine mr_iload_n C 13 dX7_isA_12 rfl rfl ?_
  refine mr_iload_n C 14 dX7_isA_13 rfl rfl ?_
  refine mr_icmpeq C 33 17 dX7_isA_14 (by decide) rfl (fun c_ => absurd c_ (by decide)) (fun _ => ?_)
  refine mr_iload_n C 18 dX7_isA_17 rfl rfl ?_
  refine mr_ifle C 33 21 dX7_isA_18 (by decide) rfl (fun c_ => absurd c_ (by decide)) (fun _ => ?_)
  refine mr_gets C 24 dX7_isA_21 rfl (C.2.2.2.2.2.2.2.2.1.2.2.1 0 (by decide)).1 fg_X7_269 ?_
  refine mr_iload_n C 25 dX7_isA_24 rfl rfl ?_
  refine mr_tint C 2 (v := .int (nI 1)) 26 dX7_isA_25 rfl (C.2.2.2.2.2.2.2.2.1.2.2.1 0 (by decide)).2 rfl (by decide) (by decide) rfl ?_
  refine mr_istore_n C 27 dX7_isA_26 rfl rfl (by decide) ?_
  refine mr_iinc C (nI 1) 30 dX7_isA_27 rfl rfl (by decide) rfl ?_
  refine mr_goto C 4 dX7_isA_30 (by decide) ?_
  refine mr_iload_n C 5 dX7_isA_4 rfl rfl ?_
  refine mr_gets C 8 dX7_isA_5 rfl (C.2.2.2.2.2.2.2.2.1.2.2.1 0 (by decide)).1 fg_X7_269 ?_
  refine mr_tlen C 9 dX7_isA_8 rfl (C.2.2.2.2.2.2.2.2.1.2.2.1 0 (by decide)).2 ?_
  refine mr_icmpge C 33 12 dX7_isA_9 (by decide) rfl (fun c_ => absurd c_ (by decide)) (fun _ => ?_)
  refine mr_iload_n C 13 dX7_isA_12 rfl rfl ?_
  refine mr_iload_n C 14 dX7_isA_13 rfl rfl ?_
  refine mr_icmpeq C 33 17 dX7_isA_14 (by decide) rfl (fun c_ => absurd c_ (by decide)) (fun _ => ?_)
  refine mr_iload_n C 18 dX7_isA_17 rfl rfl ?_
  refine mr_ifle C 33 21 dX7_isA_18 (by decide) rfl (fun c_ => absurd c_ (by decide)) (fun _ => ?_)
  refine mr_gets C 24 dX7_isA_21 rfl (C.2.2.2.2.2.2.2.2.1.2.2.1 0 (by decide)).1 fg_X7_269 ?_
  refine mr_iload_n C 25 dX7_isA_24 rfl rfl ?_
  refine mr_tint C 1 (v := .int (nI 0)) 26 dX7_isA_25 rfl (C.2.2.2.2.2.2.2.2.1.2.2.1 0 (by decide)).2 rfl (by decide) (by decide) rfl ?_
  refine mr_istore_n C 27 dX7_isA_26 rfl rfl (by decide) ?_
  refine mr_iinc C (nI 2) 30 dX7_isA_27 rfl rfl (by decide) rfl ?_
  refine mr_goto C 4 dX7_isA_30 (by decide) ?_
  refine mr_iload_n C 5 dX7_isA_4 rfl rfl ?_
  refine mr_gets C 8 dX7_isA_5 rfl (C.2.2.2.2.2.2.2.2.1.2.2.1 0 (by decide)).1 fg_X7_269 ?_
  refine mr_tlen C 9 dX7_isA_8 rfl (C.2.2.2.2.2.2.2.2.1.2.2.1 0 (by decide)).2 ?_
  refine mr_icmpge C 33 12 dX7_isA_9 (by decide) rfl (fun c_ => absurd c_ (by decide)) (fun _ => ?_)
  refine mr_iload_n C 13 dX7_isA_12 rfl rfl ?_
  refine mr_iload_n C 14 dX7_isA_13 rfl rfl ?_
  refine mr_icmpeq C 33 17 dX7_isA_14 (by decide) rfl (fun c_ => absurd c_ (by decide)) (fun _ => ?_)
  refine mr_iload_n C 18 dX7_isA_17 rfl rfl ?_
  refine mr_ifle C 33 21 dX7_isA_18 (by decide) rfl (fun _ => ?_) (fun c_ => absurd (by decide) c_)
  refine mr_iload_n C 34 dX7_isA_33 rfl rfl ?_
  refine mr_iload_n C 35 dX7_isA_34 rfl rfl ?_
  refine mr_icmpne C 42 38 dX7_isA_35 (by decide) rfl (fun _ => ?_) (fun c_ => absurd c_ (by decide))
  refine mr_iconst C (nI 0) 43 dX7_isA_42 rfl rfl ?_
  refine mr_iret C dX7_isA_43 rfl rfl (by decide) (by decide) hlen ?_
  rw [hO]
  exact ⟨rfl, rfl⟩

set_option maxRecDepth 20000 in
set_option maxHeartbeats 4000000 in
theorem c_isA_2_5 (E : EG)  : Ctr E mX7_isA (0, 0, 0) [.int (nI 2), .int (nI 5)] ([]) (fun v w => v = some (.int (nI 0)) ∧ w = []) := by
  refine Ctr.of (by decide) (Nat.le_of_ble_eq_true rfl) ?_
  intro Z hO hn C
  have hlen : zn Z ≤ 0 := by rw [hn]; exact Nat.le_of_ble_eq_true rfl
  refine mr_iload_n C 1 dX7_isA_0 rfl rfl ?_
  refine mr_istore_n C 2 dX7_isA_1 rfl rfl (by decide) ?_
  refine mr_iconst C (nI 0) 3 dX7_isA_2 rfl rfl ?_
  refine mr_istore_n C 4 dX7_isA_3 rfl rfl (by decide) ?_
  refine mr_iload_n C 5 dX7_isA_4 rfl rfl ?_
  refine mr_gets C 8 dX7_isA_5 rfl (C.2.2.2.2.2.2.2.2.1.2.2.1 0 (by decide)).1 fg_X7_269 ?_
  refine mr_tlen C 9 dX7_isA_8 rfl (C.2.2.2.2.2.2.2.2.1.2.2.1 0 (by decide)).2 ?_
  refine mr_icmpge C 33 12 dX7_isA_9 (by decide) rfl (fun c_ => absurd c_ (by decide)) (fun _ => ?_)
  refine mr_iload_n C 13 dX7_isA_12 rfl rfl ?_
  refine mr_iload_n C 14 dX7_isA_13 rfl rfl ?_
  refine mr_icmpeq C 33 17 dX7_isA_14 (by decide) rfl (fun c_ => absurd c_ (by decide)) (fun _ => ?_)
  refine mr_iload_n C 18 dX7_isA_17 rfl rfl ?_
  refine mr_ifle C 33 21 dX7_isA_18 (by decide) rfl (fun c_ => absurd c_ (by decide)) (fun _ => ?_)
  refine mr_gets C 24 dX7_isA_21 rfl (C.2.2.2.2.2.2.2.2.1.2.2.1 0 (by decide)).1 fg_X7_269 ?_
  refine mr_iload_n C 25 dX7_isA_24 rfl rfl ?_
  refine mr_tint C 2 (v := .int (nI 1)) 26 dX7_isA_25 rfl (C.2.2.2.2.2.2.2.2.1.2.2.1 0 (by decide)).2 rfl (by decide) (by decide) rfl ?_
  refine mr_istore_n C 27 dX7_isA_26 rfl rfl (by decide) ?_
  refine mr_iinc C (nI 1) 30 dX7_isA_27 rfl rfl (by decide) rfl ?_
  refine mr_goto C 4 dX7_isA_30 (by decide) ?_
  refine mr_iload_n C 5 dX7_isA_4 rfl rfl ?_
  refine mr_gets C 8 dX7_isA_5 rfl (C.2.2.2.2.2.2.2.2.1.2.2.1 0 (by decide)).1 fg_X7_269 ?_
  refine mr_tlen C 9 dX7_isA_8 rfl (C.2.2.2.2.2.2.2.2.1.2.2.1 0 (by decide)).2 ?_
  refine mr_icmpge C 33 12 dX7_isA_9 (by decide) rfl (fun c_ => absurd c_ (by decide)) (fun _ => ?_)
  refine mr_iload_n C 13 dX7_isA_12 rfl rfl ?_
  refine mr_iload_n C 14 dX7_isA_13 rfl rfl ?_
  refine mr_icmpeq C 33 17 dX7_isA_14 (by decide) rfl (fun c_ => absurd c_ (by decide)) (fun _ => ?_)
  refine mr_iload_n C 18 dX7_isA_17 rfl rfl ?_
  refine mr_ifle C 33 21 dX7_isA_18 (by decide) rfl (fun c_ => absurd c_ (by decide)) (fun _ => ?_)
  refine mr_gets C 24 dX7_isA_21 rfl (C.2.2.2.2.2.2.2.2.1.2.2.1 0 (by decide)).1 fg_X7_269 ?_
  refine mr_iload_n C 25 dX7_isA_24 rfl rfl ?_
  refine mr_tint C 1 (v := .int (nI 0)) 26 dX7_isA_25 rfl (C.2.2.2.2.2.2.2.2.1.2.2.1 0 (by decide)).2 rfl (by decide) (by decide) rfl ?_
  refine mr_istore_n C 27 dX7_isA_26 rfl rfl (by decide) ?_
  refine mr_iinc C (nI 2) 30 dX7_isA_27 rfl rfl (by decide) rfl ?_
  refine mr_goto C 4 dX7_isA_30 (by decide) ?_
  refine mr_iload_n C 5 dX7_isA_4 rfl rfl ?_
  refine mr_gets C 8 dX7_isA_5 rfl (C.2.2.2.2.2.2.2.2.1.2.2.1 0 (by decide)).1 fg_X7_269 ?_
  refine mr_tlen C 9 dX7_isA_8 rfl (C.2.2.2.2.2.2.2.2.1.2.2.1 0 (by decide)).2 ?_
  refine mr_icmpge C 33 12 dX7_isA_9 (by decide) rfl (fun c_ => absurd c_ (by decide)) (fun _ => ?_)
  refine mr_iload_n C 13 dX7_isA_12 rfl rfl ?_
  refine mr_iload_n C 14 dX7_isA_13 rfl rfl ?_
  refine mr_icmpeq C 33 17 dX7_isA_14 (by decide) rfl (fun c_ => absurd c_ (by decide)) (fun _ => ?_)
  refine mr_iload_n C 18 dX7_isA_17 rfl rfl ?_
  refine mr_ifle C 33 21 dX7_isA_18 (by decide) rfl (fun _ => ?_) (fun c_ => absurd (by decide) c_)
  refine mr_iload_n C 34 dX7_isA_33 rfl rfl ?_
  refine mr_iload_n C 35 dX7_isA_34 rfl rfl ?_
  refine mr_icmpne C 42 38 dX7_isA_35 (by decide) rfl (fun _ => ?_) (fun c_ => absurd c_ (by decide))
  refine mr_iconst C (nI 0) 43 dX7_isA_42 rfl rfl ?_
  refine mr_iret C dX7_isA_43 rfl rfl (by decide) (by decide) hlen ?_
  rw [hO]
  exact ⟨rfl, rfl⟩

set_option maxRecDepth 20000 in
set_option maxHeartbeats 4000000 in
theorem c_isA_3_0 (E : EG)  : Ctr E mX7_isA (0, 0, 0) [.int (nI 3), .int (nI 0)] ([]) (fun v w => v = some (.int (nI 1)) ∧ w = []) := by
  refine Ctr.of (by decide) (Nat.le_of_ble_eq_true rfl) ?_
  intro Z hO hn C
  have hlen : zn Z ≤ 0 := by rw [hn]; exact Nat.le_of_ble_eq_true rfl
  refine mr_iload_n C 1 dX7_isA_0 rfl rfl ?_
  refine mr_istore_n C 2 dX7_isA_1 rfl rfl (by decide) ?_
  refine mr_iconst C (nI 0) 3 dX7_isA_2 rfl rfl ?_
  refine mr_istore_n C 4 dX7_isA_3 rfl rfl (by decide) ?_
  refine mr_iload_n C 5 dX7_isA_4 rfl rfl ?_
  refine mr_gets C 8 dX7_isA_5 rfl (C.2.2.2.2.2.2.2.2.1.2.2.1 0 (by decide)).1 fg_X7_269 ?_
  refine mr_tlen C 9 dX7_isA_8 rfl (C.2.2.2.2.2.2.2.2.1.2.2.1 0 (by decide)).2 ?_
  refine mr_icmpge C 33 12 dX7_isA_9 (by decide) rfl (fun c_ => absurd c_ (by decide)) (fun _ => ?_)
  refine mr_iload_n C 13 dX7_isA_12 rfl rfl ?_
  refine mr_iload_n C 14 dX7_isA_13 rfl rfl ?_
  refine mr_icmpeq C 33 17 dX7_isA_14 (by decide) rfl (fun c_ => absurd c_ (by decide)) (fun _ => ?_)
  refine mr_iload_n C 18 dX7_isA_17 rfl rfl ?_
  refine mr_ifle C 33 21 dX7_isA_18 (by decide) rfl (fun c_ => absurd c_ (by decide)) (fun _ => ?_)
  refine mr_gets C 24 dX7_isA_21 rfl (C.2.2.2.2.2.2.2.2.1.2.2.1 0 (by decide)).1 fg_X7_269 ?_
  refine mr_iload_n C 25 dX7_isA_24 rfl rfl ?_
  refine mr_tint C 3 (v := .int (nI 1)) 26 dX7_isA_25 rfl (C.2.2.2.2.2.2.2.2.1.2.2.1 0 (by decide)).2 rfl (by decide) (by decide) rfl ?_
  refine mr_istore_n C 27 dX7_isA_26 rfl rfl (by decide) ?_
  refine mr_iinc C (nI 1) 30 dX7_isA_27 rfl rfl (by decide) rfl ?_
  refine mr_goto C 4 dX7_isA_30 (by decide) ?_
  refine mr_iload_n C 5 dX7_isA_4 rfl rfl ?_
  refine mr_gets C 8 dX7_isA_5 rfl (C.2.2.2.2.2.2.2.2.1.2.2.1 0 (by decide)).1 fg_X7_269 ?_
  refine mr_tlen C 9 dX7_isA_8 rfl (C.2.2.2.2.2.2.2.2.1.2.2.1 0 (by decide)).2 ?_
  refine mr_icmpge C 33 12 dX7_isA_9 (by decide) rfl (fun c_ => absurd c_ (by decide)) (fun _ => ?_)
  refine mr_iload_n C 13 dX7_isA_12 rfl rfl ?_
  refine mr_iload_n C 14 dX7_isA_13 rfl rfl ?_
  refine mr_icmpeq C 33 17 dX7_isA_14 (by decide) rfl (fun c_ => absurd c_ (by decide)) (fun _ => ?_)
  refine mr_iload_n C 18 dX7_isA_17 rfl rfl ?_
  refine mr_ifle C 33 21 dX7_isA_18 (by decide) rfl (fun c_ => absurd c_ (by decide)) (fun _ => ?_)
  refine mr_gets C 24 dX7_isA_21 rfl (C.2.2.2.2.2.2.2.2.1.2.2.1 0 (by decide)).1 fg_X7_269 ?_
  refine mr_iload_n C 25 dX7_isA_24 rfl rfl ?_
  refine mr_tint C 1 (v := .int (nI 0)) 26 dX7_isA_25 rfl (C.2.2.2.2.2.2.2.2.1.2.2.1 0 (by decide)).2 rfl (by decide) (by decide) rfl ?_
  refine mr_istore_n C 27 dX7_isA_26 rfl rfl (by decide) ?_
  refine mr_iinc C (nI 2) 30 dX7_isA_27 rfl rfl (by decide) rfl ?_
  refine mr_goto C 4 dX7_isA_30 (by decide) ?_
  refine mr_iload_n C 5 dX7_isA_4 rfl rfl ?_
  refine mr_gets C 8 dX7_isA_5 rfl (C.2.2.2.2.2.2.2.2.1.2.2.1 0 (by decide)).1 fg_X7_269 ?_
  refine mr_tlen C 9 dX7_isA_8 rfl (C.2.2.2.2.2.2.2.2.1.2.2.1 0 (by decide)).2 ?_
  refine mr_icmpge C 33 12 dX7_isA_9 (by decide) rfl (fun c_ => absurd c_ (by decide)) (fun _ => ?_)
  refine mr_iload_n C 13 dX7_isA_12 rfl rfl ?_
  refine mr_iload_n C 14 dX7_isA_13 rfl rfl ?_
  refine mr_icmpeq C 33 17 dX7_isA_14 (by decide) rfl (fun _ => ?_) (fun c_ => absurd (by decide) c_)
  refine mr_iload_n C 34 dX7_isA_33 rfl rfl ?_
  refine mr_iload_n C 35 dX7_isA_34 rfl rfl ?_
  refine mr_icmpne C 42 38 dX7_isA_35 (by decide) rfl (fun c_ => absurd (by decide) c_) (fun _ => ?_)
  refine mr_iconst C (nI 1) 39 dX7_isA_38 rfl rfl ?_
  refine mr_goto C 43 dX7_isA_39 (by decide) ?_
  refine mr_iret C dX7_isA_43 rfl rfl (by decide) (by decide) hlen ?_
  rw [hO]
  exact ⟨rfl, rfl⟩

set_option maxRecDepth 20000 in
set_option maxHeartbeats 4000000 in
theorem c_isA_3_1 (E : EG)  : Ctr E mX7_isA (0, 0, 0) [.int (nI 3), .int (nI 1)] ([]) (fun v w => v = some (.int (nI 1)) ∧ w = []) := by
  refine Ctr.of (by decide) (Nat.le_of_ble_eq_true rfl) ?_
  intro Z hO hn C
  have hlen : zn Z ≤ 0 := by rw [hn]; exact Nat.le_of_ble_eq_true rfl
  refine mr_iload_n C 1 dX7_isA_0 rfl rfl ?_
  refine mr_istore_n C 2 dX7_isA_1 rfl rfl (by decide) ?_
  refine mr_iconst C (nI 0) 3 dX7_isA_2 rfl rfl ?_
  refine mr_istore_n C 4 dX7_isA_3 rfl rfl (by decide) ?_
  refine mr_iload_n C 5 dX7_isA_4 rfl rfl ?_
  refine mr_gets C 8 dX7_isA_5 rfl (C.2.2.2.2.2.2.2.2.1.2.2.1 0 (by decide)).1 fg_X7_269 ?_
  refine mr_tlen C 9 dX7_isA_8 rfl (C.2.2.2.2.2.2.2.2.1.2.2.1 0 (by decide)).2 ?_
  refine mr_icmpge C 33 12 dX7_isA_9 (by decide) rfl (fun c_ => absurd c_ (by decide)) (fun _ => ?_)
  refine mr_iload_n C 13 dX7_isA_12 rfl rfl ?_
  refine mr_iload_n C 14 dX7_isA_13 rfl rfl ?_
  refine mr_icmpeq C 33 17 dX7_isA_14 (by decide) rfl (fun c_ => absurd c_ (by decide)) (fun _ => ?_)
  refine mr_iload_n C 18 dX7_isA_17 rfl rfl ?_
  refine mr_ifle C 33 21 dX7_isA_18 (by decide) rfl (fun c_ => absurd c_ (by decide)) (fun _ => ?_)
  refine mr_gets C 24 dX7_isA_21 rfl (C.2.2.2.2.2.2.2.2.1.2.2.1 0 (by decide)).1 fg_X7_269 ?_
  refine mr_iload_n C 25 dX7_isA_24 rfl rfl ?_
  refine mr_tint C 3 (v := .int (nI 1)) 26 dX7_isA_25 rfl (C.2.2.2.2.2.2.2.2.1.2.2.1 0 (by decide)).2 rfl (by decide) (by decide) rfl ?_
  refine mr_istore_n C 27 dX7_isA_26 rfl rfl (by decide) ?_
  refine mr_iinc C (nI 1) 30 dX7_isA_27 rfl rfl (by decide) rfl ?_
  refine mr_goto C 4 dX7_isA_30 (by decide) ?_
  refine mr_iload_n C 5 dX7_isA_4 rfl rfl ?_
  refine mr_gets C 8 dX7_isA_5 rfl (C.2.2.2.2.2.2.2.2.1.2.2.1 0 (by decide)).1 fg_X7_269 ?_
  refine mr_tlen C 9 dX7_isA_8 rfl (C.2.2.2.2.2.2.2.2.1.2.2.1 0 (by decide)).2 ?_
  refine mr_icmpge C 33 12 dX7_isA_9 (by decide) rfl (fun c_ => absurd c_ (by decide)) (fun _ => ?_)
  refine mr_iload_n C 13 dX7_isA_12 rfl rfl ?_
  refine mr_iload_n C 14 dX7_isA_13 rfl rfl ?_
  refine mr_icmpeq C 33 17 dX7_isA_14 (by decide) rfl (fun _ => ?_) (fun c_ => absurd (by decide) c_)
  refine mr_iload_n C 34 dX7_isA_33 rfl rfl ?_
  refine mr_iload_n C 35 dX7_isA_34 rfl rfl ?_
  refine mr_icmpne C 42 38 dX7_isA_35 (by decide) rfl (fun c_ => absurd (by decide) c_) (fun _ => ?_)
  refine mr_iconst C (nI 1) 39 dX7_isA_38 rfl rfl ?_
  refine mr_goto C 43 dX7_isA_39 (by decide) ?_
  refine mr_iret C dX7_isA_43 rfl rfl (by decide) (by decide) hlen ?_
  rw [hO]
  exact ⟨rfl, rfl⟩

set_option maxRecDepth 20000 in
set_option maxHeartbeats 4000000 in
theorem c_isA_3_2 (E : EG)  : Ctr E mX7_isA (0, 0, 0) [.int (nI 3), .int (nI 2)] ([]) (fun v w => v = some (.int (nI 0)) ∧ w = []) := by
  refine Ctr.of (by decide) (Nat.le_of_ble_eq_true rfl) ?_
  intro Z hO hn C
  have hlen : zn Z ≤ 0 := by rw [hn]; exact Nat.le_of_ble_eq_true rfl
  refine mr_iload_n C 1 dX7_isA_0 rfl rfl ?_
  refine mr_istore_n C 2 dX7_isA_1 rfl rfl (by decide) ?_
  refine mr_iconst C (nI 0) 3 dX7_isA_2 rfl rfl ?_
  refine mr_istore_n C 4 dX7_isA_3 rfl rfl (by decide) ?_
  refine mr_iload_n C 5 dX7_isA_4 rfl rfl ?_
  refine mr_gets C 8 dX7_isA_5 rfl (C.2.2.2.2.2.2.2.2.1.2.2.1 0 (by decide)).1 fg_X7_269 ?_
  refine mr_tlen C 9 dX7_isA_8 rfl (C.2.2.2.2.2.2.2.2.1.2.2.1 0 (by decide)).2 ?_
  refine mr_icmpge C 33 12 dX7_isA_9 (by decide) rfl (fun c_ => absurd c_ (by decide)) (fun _ => ?_)
  refine mr_iload_n C 13 dX7_isA_12 rfl rfl ?_
  refine mr_iload_n C 14 dX7_isA_13 rfl rfl ?_
  refine mr_icmpeq C 33 17 dX7_isA_14 (by decide) rfl (fun c_ => absurd c_ (by decide)) (fun _ => ?_)
  refine mr_iload_n C 18 dX7_isA_17 rfl rfl ?_
  refine mr_ifle C 33 21 dX7_isA_18 (by decide) rfl (fun c_ => absurd c_ (by decide)) (fun _ => ?_)
  refine mr_gets C 24 dX7_isA_21 rfl (C.2.2.2.2.2.2.2.2.1.2.2.1 0 (by decide)).1 fg_X7_269 ?_
  refine mr_iload_n C 25 dX7_isA_24 rfl rfl ?_
  refine mr_tint C 3 (v := .int (nI 1)) 26 dX7_isA_25 rfl (C.2.2.2.2.2.2.2.2.1.2.2.1 0 (by decide)).2 rfl (by decide) (by decide) rfl ?_
  refine mr_istore_n C 27 dX7_isA_26 rfl rfl (by decide) ?_
  refine mr_iinc C (nI 1) 30 dX7_isA_27 rfl rfl (by decide) rfl ?_
  refine mr_goto C 4 dX7_isA_30 (by decide) ?_
  refine mr_iload_n C 5 dX7_isA_4 rfl rfl ?_
  refine mr_gets C 8 dX7_isA_5 rfl (C.2.2.2.2.2.2.2.2.1.2.2.1 0 (by decide)).1 fg_X7_269 ?_
  refine mr_tlen C 9 dX7_isA_8 rfl (C.2.2.2.2.2.2.2.2.1.2.2.1 0 (by decide)).2 ?_
  refine mr_icmpge C 33 12 dX7_isA_9 (by decide) rfl (fun c_ => absurd c_ (by decide)) (fun _ => ?_)
  refine mr_iload_n C 13 dX7_isA_12 rfl rfl ?_
  refine mr_iload_n C 14 dX7_isA_13 rfl rfl ?_
  refine mr_icmpeq C 33 17 dX7_isA_14 (by decide) rfl (fun c_ => absurd c_ (by decide)) (fun _ => ?_)
  refine mr_iload_n C 18 dX7_isA_17 rfl rfl ?_
  refine mr_ifle C 33 21 dX7_isA_18 (by decide) rfl (fun c_ => absurd c_ (by decide)) (fun _ => ?_)
  refine mr_gets C 24 dX7_isA_21 rfl (C.2.2.2.2.2.2.2.2.1.2.2.1 0 (by decide)).1 fg_X7_269 ?_
  refine mr_iload_n C 25 dX7_isA_24 rfl rfl ?_
  refine mr_tint C 1 (v := .int (nI 0)) 26 dX7_isA_25 rfl (C.2.2.2.2.2.2.2.2.1.2.2.1 0 (by decide)).2 rfl (by decide) (by decide) rfl ?_
  refine mr_istore_n C 27 dX7_isA_26 rfl rfl (by decide) ?_
  refine mr_iinc C (nI 2) 30 dX7_isA_27 rfl rfl (by decide) rfl ?_
  refine mr_goto C 4 dX7_isA_30 (by decide) ?_
  refine mr_iload_n C 5 dX7_isA_4 rfl rfl ?_
  refine mr_gets C 8 dX7_isA_5 rfl (C.2.2.2.2.2.2.2.2.1.2.2.1 0 (by decide)).1 fg_X7_269 ?_
  refine mr_tlen C 9 dX7_isA_8 rfl (C.2.2.2.2.2.2.2.2.1.2.2.1 0 (by decide)).2 ?_
  refine mr_icmpge C 33 12 dX7_isA_9 (by decide) rfl (fun c_ => absurd c_ (by decide)) (fun _ => ?_)
  refine mr_iload_n C 13 dX7_isA_12 rfl rfl ?_
  refine mr_iload_n C 14 dX7_isA_13 rfl rfl ?_
  refine mr_icmpeq C 33 17 dX7_isA_14 (by decide) rfl (fun c_ => absurd c_ (by decide)) (fun _ => ?_)
  refine mr_iload_n C 18 dX7_isA_17 rfl rfl ?_
  refine mr_ifle C 33 21 dX7_isA_18 (by decide) rfl (fun _ => ?_) (fun c_ => absurd (by decide) c_)
  refine mr_iload_n C 34 dX7_isA_33 rfl rfl ?_
  refine mr_iload_n C 35 dX7_isA_34 rfl rfl ?_
  refine mr_icmpne C 42 38 dX7_isA_35 (by decide) rfl (fun _ => ?_) (fun c_ => absurd c_ (by decide))
  refine mr_iconst C (nI 0) 43 dX7_isA_42 rfl rfl ?_
  refine mr_iret C dX7_isA_43 rfl rfl (by decide) (by decide) hlen ?_
  rw [hO]
  exact ⟨rfl, rfl⟩

set_option maxRecDepth 20000 in
set_option maxHeartbeats 4000000 in
theorem c_isA_3_3 (E : EG)  : Ctr E mX7_isA (0, 0, 0) [.int (nI 3), .int (nI 3)] ([]) (fun v w => v = some (.int (nI 1)) ∧ w = []) := by
  refine Ctr.of (by decide) (Nat.le_of_ble_eq_true rfl) ?_
  intro Z hO hn C
  have hlen : zn Z ≤ 0 := by rw [hn]; exact Nat.le_of_ble_eq_true rfl
  refine mr_iload_n C 1 dX7_isA_0 rfl rfl ?_
  refine mr_istore_n C 2 dX7_isA_1 rfl rfl (by decide) ?_
  refine mr_iconst C (nI 0) 3 dX7_isA_2 rfl rfl ?_
  refine mr_istore_n C 4 dX7_isA_3 rfl rfl (by decide) ?_
  refine mr_iload_n C 5 dX7_isA_4 rfl rfl ?_
  refine mr_gets C 8 dX7_isA_5 rfl (C.2.2.2.2.2.2.2.2.1.2.2.1 0 (by decide)).1 fg_X7_269 ?_
  refine mr_tlen C 9 dX7_isA_8 rfl (C.2.2.2.2.2.2.2.2.1.2.2.1 0 (by decide)).2 ?_
  refine mr_icmpge C 33 12 dX7_isA_9 (by decide) rfl (fun c_ => absurd c_ (by decide)) (fun _ => ?_)
  refine mr_iload_n C 13 dX7_isA_12 rfl rfl ?_
  refine mr_iload_n C 14 dX7_isA_13 rfl rfl ?_
  refine mr_icmpeq C 33 17 dX7_isA_14 (by decide) rfl (fun _ => ?_) (fun c_ => absurd (by decide) c_)
  refine mr_iload_n C 34 dX7_isA_33 rfl rfl ?_
  refine mr_iload_n C 35 dX7_isA_34 rfl rfl ?_
  refine mr_icmpne C 42 38 dX7_isA_35 (by decide) rfl (fun c_ => absurd (by decide) c_) (fun _ => ?_)
  refine mr_iconst C (nI 1) 39 dX7_isA_38 rfl rfl ?_
  refine mr_goto C 43 dX7_isA_39 (by decide) ?_
  refine mr_iret C dX7_isA_43 rfl rfl (by decide) (by decide) hlen ?_
  rw [hO]
  exact ⟨rfl, rfl⟩

set_option maxRecDepth 20000 in
set_option maxHeartbeats 4000000 in
theorem c_isA_3_4 (E : EG)  : Ctr E mX7_isA (0, 0, 0) [.int (nI 3), .int (nI 4)] ([]) (fun v w => v = some (.int (nI 0)) ∧ w = []) := by
  refine Ctr.of (by decide) (Nat.le_of_ble_eq_true rfl) ?_
  intro Z hO hn C
  have hlen : zn Z ≤ 0 := by rw [hn]; exact Nat.le_of_ble_eq_true rfl
  refine mr_iload_n C 1 dX7_isA_0 rfl rfl ?_
  refine mr_istore_n C 2 dX7_isA_1 rfl rfl (by decide) ?_
  refine mr_iconst C (nI 0) 3 dX7_isA_2 rfl rfl ?_
  refine mr_istore_n C 4 dX7_isA_3 rfl rfl (by decide) ?_
  refine mr_iload_n C 5 dX7_isA_4 rfl rfl ?_
  refine mr_gets C 8 dX7_isA_5 rfl (C.2.2.2.2.2.2.2.2.1.2.2.1 0 (by decide)).1 fg_X7_269 ?_
  refine mr_tlen C 9 dX7_isA_8 rfl (C.2.2.2.2.2.2.2.2.1.2.2.1 0 (by decide)).2 ?_
  refine mr_icmpge C 33 12 dX7_isA_9 (by decide) rfl (fun c_ => absurd c_ (by decide)) (fun _ => ?_)
  refine mr_iload_n C 13 dX7_isA_12 rfl rfl ?_
  refine mr_iload_n C 14 dX7_isA_13 rfl rfl ?_
  refine mr_icmpeq C 33 17 dX7_isA_14 (by decide) rfl (fun c_ => absurd c_ (by decide)) (fun _ => ?_)
  refine mr_iload_n C 18 dX7_isA_17 rfl rfl ?_
  refine mr_ifle C 33 21 dX7_isA_18 (by decide) rfl (fun c_ => absurd c_ (by decide)) (fun _ => ?_)
  refine mr_gets C 24 dX7_isA_21 rfl (C.2.2.2.2.2.2.2.2.1.2.2.1 0 (by decide)).1 fg_X7_269 ?_
  refine mr_iload_n C 25 dX7_isA_24 rfl rfl ?_
  refine mr_tint C 3 (v := .int (nI 1)) 26 dX7_isA_25 rfl (C.2.2.2.2.2.2.2.2.1.2.2.1 0 (by decide)).2 rfl (by decide) (by decide) rfl ?_
  refine mr_istore_n C 27 dX7_isA_26 rfl rfl (by decide) ?_
  refine mr_iinc C (nI 1) 30 dX7_isA_27 rfl rfl (by decide) rfl ?_
  refine mr_goto C 4 dX7_isA_30 (by decide) ?_
  refine mr_iload_n C 5 dX7_isA_4 rfl rfl ?_
  refine mr_gets C 8 dX7_isA_5 rfl (C.2.2.2.2.2.2.2.2.1.2.2.1 0 (by decide)).1 fg_X7_269 ?_
  refine mr_tlen C 9 dX7_isA_8 rfl (C.2.2.2.2.2.2.2.2.1.2.2.1 0 (by decide)).2 ?_
  refine mr_icmpge C 33 12 dX7_isA_9 (by decide) rfl (fun c_ => absurd c_ (by decide)) (fun _ => ?_)
  refine mr_iload_n C 13 dX7_isA_12 rfl rfl ?_
  refine mr_iload_n C 14 dX7_isA_13 rfl rfl ?_
  refine mr_icmpeq C 33 17 dX7_isA_14 (by decide) rfl (fun c_ => absurd c_ (by decide)) (fun _ => ?_)
  refine mr_iload_n C 18 dX7_isA_17 rfl rfl ?_
  refine mr_ifle C 33 21 dX7_isA_18 (by decide) rfl (fun c_ => absurd c_ (by decide)) (fun _ => ?_)
  refine mr_gets C 24 dX7_isA_21 rfl (C.2.2.2.2.2.2.2.2.1.2.2.1 0 (by decide)).1 fg_X7_269 ?_
  refine mr_iload_n C 25 dX7_isA_24 rfl rfl ?_
  refine mr_tint C 1 (v := .int (nI 0)) 26 dX7_isA_25 rfl (C.2.2.2.2.2.2.2.2.1.2.2.1 0 (by decide)).2 rfl (by decide) (by decide) rfl ?_
  refine mr_istore_n C 27 dX7_isA_26 rfl rfl (by decide) ?_
  refine mr_iinc C (nI 2) 30 dX7_isA_27 rfl rfl (by decide) rfl ?_
  refine mr_goto C 4 dX7_isA_30 (by decide) ?_
  refine mr_iload_n C 5 dX7_isA_4 rfl rfl ?_
  refine mr_gets C 8 dX7_isA_5 rfl (C.2.2.2.2.2.2.2.2.1.2.2.1 0 (by decide)).1 fg_X7_269 ?_
  refine mr_tlen C 9 dX7_isA_8 rfl (C.2.2.2.2.2.2.2.2.1.2.2.1 0 (by decide)).2 ?_
  refine mr_icmpge C 33 12 dX7_isA_9 (by decide) rfl (fun c_ => absurd c_ (by decide)) (fun _ => ?_)
  refine mr_iload_n C 13 dX7_isA_12 rfl rfl ?_
  refine mr_iload_n C 14 dX7_isA_13 rfl rfl ?_
  refine mr_icmpeq C 33 17 dX7_isA_14 (by decide) rfl (fun c_ => absurd c_ (by decide)) (fun _ => ?_)
  refine mr_iload_n C 18 dX7_isA_17 rfl rfl ?_
  refine mr_ifle C 33 21 dX7_isA_18 (by decide) rfl (fun _ => ?_) (fun c_ => absurd (by decide) c_)
  refine mr_iload_n C 34 dX7_isA_33 rfl rfl ?_
  refine mr_iload_n C 35 dX7_isA_34 rfl rfl ?_
  refine mr_icmpne C 42 38 dX7_isA_35 (by decide) rfl (fun _ => ?_) (fun c_ => absurd c_ (by decide))
  refine mr_iconst C (nI 0) 43 dX7_isA_42 rfl rfl ?_
  refine mr_iret C dX7_isA_43 rfl rfl (by decide) (by decide) hlen ?_
  rw [hO]
  exact ⟨rfl, rfl⟩

set_option maxRecDepth 20000 in
set_option maxHeartbeats 4000000 in
theorem c_isA_3_5 (E : EG)  : Ctr E mX7_isA (0, 0, 0) [.int (nI 3), .int (nI 5)] ([]) (fun v w => v = some (.int (nI 0)) ∧ w = []) := by
  refine Ctr.of (by decide) (Nat.le_of_ble_eq_true rfl) ?_
  intro Z hO hn C
  have hlen : zn Z ≤ 0 := by rw [hn]; exact Nat.le_of_ble_eq_true rfl
  refine mr_iload_n C 1 dX7_isA_0 rfl rfl ?_
  refine mr_istore_n C 2 dX7_isA_1 rfl rfl (by decide) ?_
  refine mr_iconst C (nI 0) 3 dX7_isA_2 rfl rfl ?_
  refine mr_istore_n C 4 dX7_isA_3 rfl rfl (by decide) ?_
  refine mr_iload_n C 5 dX7_isA_4 rfl rfl ?_
  refine mr_gets C 8 dX7_isA_5 rfl (C.2.2.2.2.2.2.2.2.1.2.2.1 0 (by decide)).1 fg_X7_269 ?_
  refine mr_tlen C 9 dX7_isA_8 rfl (C.2.2.2.2.2.2.2.2.1.2.2.1 0 (by decide)).2 ?_
  refine mr_icmpge C 33 12 dX7_isA_9 (by decide) rfl (fun c_ => absurd c_ (by decide)) (fun _ => ?_)
  refine mr_iload_n C 13 dX7_isA_12 rfl rfl ?_
  refine mr_iload_n C 14 dX7_isA_13 rfl rfl ?_
  refine mr_icmpeq C 33 17 dX7_isA_14 (by decide) rfl (fun c_ => absurd c_ (by decide)) (fun _ => ?_)
  refine mr_iload_n C 18 dX7_isA_17 rfl rfl ?_
  refine mr_ifle C 33 21 dX7_isA_18 (by decide) rfl (fun c_ => absurd c_ (by decide)) (fun _ => ?_)
  refine mr_gets C 24 dX7_isA_21 rfl (C.2.2.2.2.2.2.2.2.1.2.2.1 0 (by decide)).1 fg_X7_269 ?_
  refine mr_iload_n C 25 dX7_isA_24 rfl rfl ?_
  refine mr_tint C 3 (v := .int (nI 1)) 26 dX7_isA_25 rfl (C.2.2.2.2.2.2.2.2.1.2.2.1 0 (by decide)).2 rfl (by decide) (by decide) rfl ?_
  refine mr_istore_n C 27 dX7_isA_26 rfl rfl (by decide) ?_
  refine mr_iinc C (nI 1) 30 dX7_isA_27 rfl rfl (by decide) rfl ?_
  refine mr_goto C 4 dX7_isA_30 (by decide) ?_
  refine mr_iload_n C 5 dX7_isA_4 rfl rfl ?_
  refine mr_gets C 8 dX7_isA_5 rfl (C.2.2.2.2.2.2.2.2.1.2.2.1 0 (by decide)).1 fg_X7_269 ?_
  refine mr_tlen C 9 dX7_isA_8 rfl (C.2.2.2.2.2.2.2.2.1.2.2.1 0 (by decide)).2 ?_
  refine mr_icmpge C 33 12 dX7_isA_9 (by decide) rfl (fun c_ => absurd c_ (by decide)) (fun _ => ?_)
  refine mr_iload_n C 13 dX7_isA_12 rfl rfl ?_
  refine mr_iload_n C 14 dX7_isA_13 rfl rfl ?_
  refine mr_icmpeq C 33 17 dX7_isA_14 (by decide) rfl (fun c_ => absurd c_ (by decide)) (fun _ => ?_)
  refine mr_iload_n C 18 dX7_isA_17 rfl rfl ?_
  refine mr_ifle C 33 21 dX7_isA_18 (by decide) rfl (fun c_ => absurd c_ (by decide)) (fun _ => ?_)
  refine mr_gets C 24 dX7_isA_21 rfl (C.2.2.2.2.2.2.2.2.1.2.2.1 0 (by decide)).1 fg_X7_269 ?_
  refine mr_iload_n C 25 dX7_isA_24 rfl rfl ?_
  refine mr_tint C 1 (v := .int (nI 0)) 26 dX7_isA_25 rfl (C.2.2.2.2.2.2.2.2.1.2.2.1 0 (by decide)).2 rfl (by decide) (by decide) rfl ?_
  refine mr_istore_n C 27 dX7_isA_26 rfl rfl (by decide) ?_
  refine mr_iinc C (nI 2) 30 dX7_isA_27 rfl rfl (by decide) rfl ?_
  refine mr_goto C 4 dX7_isA_30 (by decide) ?_
  refine mr_iload_n C 5 dX7_isA_4 rfl rfl ?_
  refine mr_gets C 8 dX7_isA_5 rfl (C.2.2.2.2.2.2.2.2.1.2.2.1 0 (by decide)).1 fg_X7_269 ?_
  refine mr_tlen C 9 dX7_isA_8 rfl (C.2.2.2.2.2.2.2.2.1.2.2.1 0 (by decide)).2 ?_
  refine mr_icmpge C 33 12 dX7_isA_9 (by decide) rfl (fun c_ => absurd c_ (by decide)) (fun _ => ?_)
  refine mr_iload_n C 13 dX7_isA_12 rfl rfl ?_
  refine mr_iload_n C 14 dX7_isA_13 rfl rfl ?_
  refine mr_icmpeq C 33 17 dX7_isA_14 (by decide) rfl (fun c_ => absurd c_ (by decide)) (fun _ => ?_)
  refine mr_iload_n C 18 dX7_isA_17 rfl rfl ?_
  refine mr_ifle C 33 21 dX7_isA_18 (by decide) rfl (fun _ => ?_) (fun c_ => absurd (by decide) c_)
  refine mr_iload_n C 34 dX7_isA_33 rfl rfl ?_
  refine mr_iload_n C 35 dX7_isA_34 rfl rfl ?_
  refine mr_icmpne C 42 38 dX7_isA_35 (by decide) rfl (fun _ => ?_) (fun c_ => absurd c_ (by decide))
  refine mr_iconst C (nI 0) 43 dX7_isA_42 rfl rfl ?_
  refine mr_iret C dX7_isA_43 rfl rfl (by decide) (by decide) hlen ?_
  rw [hO]
  exact ⟨rfl, rfl⟩

set_option maxRecDepth 20000 in
set_option maxHeartbeats 4000000 in
theorem c_isA_4_0 (E : EG)  : Ctr E mX7_isA (0, 0, 0) [.int (nI 4), .int (nI 0)] ([]) (fun v w => v = some (.int (nI 1)) ∧ w = []) := by
  refine Ctr.of (by decide) (Nat.le_of_ble_eq_true rfl) ?_
  intro Z hO hn C
  have hlen : zn Z ≤ 0 := by rw [hn]; exact Nat.le_of_ble_eq_true rfl
  refine mr_iload_n C 1 dX7_isA_0 rfl rfl ?_
  refine mr_istore_n C 2 dX7_isA_1 rfl rfl (by decide) ?_
  refine mr_iconst C (nI 0) 3 dX7_isA_2 rfl rfl ?_
  refine mr_istore_n C 4 dX7_isA_3 rfl rfl (by decide) ?_
  refine mr_iload_n C 5 dX7_isA_4 rfl rfl ?_
  refine mr_gets C 8 dX7_isA_5 rfl (C.2.2.2.2.2.2.2.2.1.2.2.1 0 (by decide)).1 fg_X7_269 ?_
  refine mr_tlen C 9 dX7_isA_8 rfl (C.2.2.2.2.2.2.2.2.1.2.2.1 0 (by decide)).2 ?_
  refine mr_icmpge C 33 12 dX7_isA_9 (by decide) rfl (fun c_ => absurd c_ (by decide)) (fun _ => ?_)
  refine mr_iload_n C 13 dX7_isA_12 rfl rfl ?_
  refine mr_iload_n C 14 dX7_isA_13 rfl rfl ?_
  refine mr_icmpeq C 33 17 dX7_isA_14 (by decide) rfl (fun c_ => absurd c_ (by decide)) (fun _ => ?_)
  refine mr_iload_n C 18 dX7_isA_17 rfl rfl ?_
  refine mr_ifle C 33 21 dX7_isA_18 (by decide) rfl (fun c_ => absurd c_ (by decide)) (fun _ => ?_)
  refine mr_gets C 24 dX7_isA_21 rfl (C.2.2.2.2.2.2.2.2.1.2.2.1 0 (by decide)).1 fg_X7_269 ?_
  refine mr_iload_n C 25 dX7_isA_24 rfl rfl ?_
  refine mr_tint C 4 (v := .int (nI 0)) 26 dX7_isA_25 rfl (C.2.2.2.2.2.2.2.2.1.2.2.1 0 (by decide)).2 rfl (by decide) (by decide) rfl ?_
  refine mr_istore_n C 27 dX7_isA_26 rfl rfl (by decide) ?_
  refine mr_iinc C (nI 1) 30 dX7_isA_27 rfl rfl (by decide) rfl ?_
  refine mr_goto C 4 dX7_isA_30 (by decide) ?_
  refine mr_iload_n C 5 dX7_isA_4 rfl rfl ?_
  refine mr_gets C 8 dX7_isA_5 rfl (C.2.2.2.2.2.2.2.2.1.2.2.1 0 (by decide)).1 fg_X7_269 ?_
  refine mr_tlen C 9 dX7_isA_8 rfl (C.2.2.2.2.2.2.2.2.1.2.2.1 0 (by decide)).2 ?_
  refine mr_icmpge C 33 12 dX7_isA_9 (by decide) rfl (fun c_ => absurd c_ (by decide)) (fun _ => ?_)
  refine mr_iload_n C 13 dX7_isA_12 rfl rfl ?_
  refine mr_iload_n C 14 dX7_isA_13 rfl rfl ?_
  refine mr_icmpeq C 33 17 dX7_isA_14 (by decide) rfl (fun _ => ?_) (fun c_ => absurd (by decide) c_)
  refine mr_iload_n C 34 dX7_isA_33 rfl rfl ?_
  refine mr_iload_n C 35 dX7_isA_34 rfl rfl ?_
  refine mr_icmpne C 42 38 dX7_isA_35 (by decide) rfl (fun c_ => absurd (by decide) c_) (fun _ => ?_)
  refine mr_iconst C (nI 1) 39 dX7_isA_38 rfl rfl ?_
  refine mr_goto C 43 dX7_isA_39 (by decide) ?_
  refine mr_iret C dX7_isA_43 rfl rfl (by decide) (by decide) hlen ?_
  rw [hO]
  exact ⟨rfl, rfl⟩

set_option maxRecDepth 20000 in
set_option maxHeartbeats 4000000 in
theorem c_isA_4_1 (E : EG)  : Ctr E mX7_isA (0, 0, 0) [.int (nI 4), .int (nI 1)] ([]) (fun v w => v = some (.int (nI 0)) ∧ w = []) := by
  refine Ctr.of (by decide) (Nat.le_of_ble_eq_true rfl) ?_
  intro Z hO hn C
  have hlen : zn Z ≤ 0 := by rw [hn]; exact Nat.le_of_ble_eq_true rfl
  refine mr_iload_n C 1 dX7_isA_0 rfl rfl ?_
  refine mr_istore_n C 2 dX7_isA_1 rfl rfl (by decide) ?_
  refine mr_iconst C (nI 0) 3 dX7_isA_2 rfl rfl ?_
  refine mr_istore_n C 4 dX7_isA_3 rfl rfl (by decide) ?_
  refine mr_iload_n C 5 dX7_isA_4 rfl rfl ?_
  refine mr_gets C 8 dX7_isA_5 rfl (C.2.2.2.2.2.2.2.2.1.2.2.1 0 (by decide)).1 fg_X7_269 ?_
  refine mr_tlen C 9 dX7_isA_8 rfl (C.2.2.2.2.2.2.2.2.1.2.2.1 0 (by decide)).2 ?_
  refine mr_icmpge C 33 12 dX7_isA_9 (by decide) rfl (fun c_ => absurd c_ (by decide)) (fun _ => ?_)
  refine mr_iload_n C 13 dX7_isA_12 rfl rfl ?_
  refine mr_iload_n C 14 dX7_isA_13 rfl rfl ?_
  refine mr_icmpeq C 33 17 dX7_isA_14 (by decide) rfl (fun c_ => absurd c_ (by decide)) (fun _ => ?_)
  refine mr_iload_n C 18 dX7_isA_17 rfl rfl ?_
  refine mr_ifle C 33 21 dX7_isA_18 (by decide) rfl (fun c_ => absurd c_ (by decide)) (fun _ => ?_)
  refine mr_gets C 24 dX7_isA_21 rfl (C.2.2.2.2.2.2.2.2.1.2.2.1 0 (by decide)).1 fg_X7_269 ?_
  refine mr_iload_n C 25 dX7_isA_24 rfl rfl ?_
  refine mr_tint C 4 (v := .int (nI 0)) 26 dX7_isA_25 rfl (C.2.2.2.2.2.2.2.2.1.2.2.1 0 (by decide)).2 rfl (by decide) (by decide) rfl ?_
  refine mr_istore_n C 27 dX7_isA_26 rfl rfl (by decide) ?_
  refine mr_iinc C (nI 1) 30 dX7_isA_27 rfl rfl (by decide) rfl ?_
  refine mr_goto C 4 dX7_isA_30 (by decide) ?_
  refine mr_iload_n C 5 dX7_isA_4 rfl rfl ?_
  refine mr_gets C 8 dX7_isA_5 rfl (C.2.2.2.2.2.2.2.2.1.2.2.1 0 (by decide)).1 fg_X7_269 ?_
  refine mr_tlen C 9 dX7_isA_8 rfl (C.2.2.2.2.2.2.2.2.1.2.2.1 0 (by decide)).2 ?_
  refine mr_icmpge C 33 12 dX7_isA_9 (by decide) rfl (fun c_ => absurd c_ (by decide)) (fun _ => ?_)
  refine mr_iload_n C 13 dX7_isA_12 rfl rfl ?_
  refine mr_iload_n C 14 dX7_isA_13 rfl rfl ?_
  refine mr_icmpeq C 33 17 dX7_isA_14 (by decide) rfl (fun c_ => absurd c_ (by decide)) (fun _ => ?_)
  refine mr_iload_n C 18 dX7_isA_17 rfl rfl ?_
  refine mr_ifle C 33 21 dX7_isA_18 (by decide) rfl (fun _ => ?_) (fun c_ => absurd (by decide) c_)
  refine mr_iload_n C 34 dX7_isA_33 rfl rfl ?_
  refine mr_iload_n C 35 dX7_isA_34 rfl rfl ?_
  refine mr_icmpne C 42 38 dX7_isA_35 (by decide) rfl (fun _ => ?_) (fun c_ => absurd c_ (by decide))
  refine mr_iconst C (nI 0) 43 dX7_isA_42 rfl rfl ?_
  refine mr_iret C dX7_isA_43 rfl rfl (by decide) (by decide) hlen ?_
  rw [hO]
  exact ⟨rfl, rfl⟩

set_option maxRecDepth 20000 in
set_option maxHeartbeats 4000000 in
theorem c_isA_4_2 (E : EG)  : Ctr E mX7_isA (0, 0, 0) [.int (nI 4), .int (nI 2)] ([]) (fun v w => v = some (.int (nI 0)) ∧ w = []) := by
  refine Ctr.of (by decide) (Nat.le_of_ble_eq_true rfl) ?_
  intro Z hO hn C
  have hlen : zn Z ≤ 0 := by rw [hn]; exact Nat.le_of_ble_eq_true rfl
  refine mr_iload_n C 1 dX7_isA_0 rfl rfl ?_
  refine mr_istore_n C 2 dX7_isA_1 rfl rfl (by decide) ?_
  refine mr_iconst C (nI 0) 3 dX7_isA_2 rfl rfl ?_
  refine mr_istore_n C 4 dX7_isA_3 rfl rfl (by decide) ?_
  refine mr_iload_n C 5 dX7_isA_4 rfl rfl ?_
  refine mr_gets C 8 dX7_isA_5 rfl (C.2.2.2.2.2.2.2.2.1.2.2.1 0 (by decide)).1 fg_X7_269 ?_
  refine mr_tlen C 9 dX7_isA_8 rfl (C.2.2.2.2.2.2.2.2.1.2.2.1 0 (by decide)).2 ?_
  refine mr_icmpge C 33 12 dX7_isA_9 (by decide) rfl (fun c_ => absurd c_ (by decide)) (fun _ => ?_)
  refine mr_iload_n C 13 dX7_isA_12 rfl rfl ?_
  refine mr_iload_n C 14 dX7_isA_13 rfl rfl ?_
  refine mr_icmpeq C 33 17 dX7_isA_14 (by decide) rfl (fun c_ => absurd c_ (by decide)) (fun _ => ?_)
  refine mr_iload_n C 18 dX7_isA_17 rfl rfl ?_
  refine mr_ifle C 33 21 dX7_isA_18 (by decide) rfl (fun c_ => absurd c_ (by decide)) (fun _ => ?_)
  refine mr_gets C 24 dX7_isA_21 rfl (C.2.2.2.2.2.2.2.2.1.2.2.1 0 (by decide)).1 fg_X7_269 ?_
  refine mr_iload_n C 25 dX7_isA_24 rfl rfl ?_
  refine mr_tint C 4 (v := .int (nI 0)) 26 dX7_isA_25 rfl (C.2.2.2.2.2.2.2.2.1.2.2.1 0 (by decide)).2 rfl (by decide) (by decide) rfl ?_
  refine mr_istore_n C 27 dX7_isA_26 rfl rfl (by decide) ?_
  refine mr_iinc C (nI 1) 30 dX7_isA_27 rfl rfl (by decide) rfl ?_
  refine mr_goto C 4 dX7_isA_30 (by decide) ?_
  refine mr_iload_n C 5 dX7_isA_4 rfl rfl ?_
  refine mr_gets C 8 dX7_isA_5 rfl (C.2.2.2.2.2.2.2.2.1.2.2.1 0 (by decide)).1 fg_X7_269 ?_
  refine mr_tlen C 9 dX7_isA_8 rfl (C.2.2.2.2.2.2.2.2.1.2.2.1 0 (by decide)).2 ?_
  refine mr_icmpge C 33 12 dX7_isA_9 (by decide) rfl (fun c_ => absurd c_ (by decide)) (fun _ => ?_)
  refine mr_iload_n C 13 dX7_isA_12 rfl rfl ?_
  refine mr_iload_n C 14 dX7_isA_13 rfl rfl ?_
  refine mr_icmpeq C 33 17 dX7_isA_14 (by decide) rfl (fun c_ => absurd c_ (by decide)) (fun _ => ?_)
  refine mr_iload_n C 18 dX7_isA_17 rfl rfl ?_
  refine mr_ifle C 33 21 dX7_isA_18 (by decide) rfl (fun _ => ?_) (fun c_ => absurd (by decide) c_)
  refine mr_iload_n C 34 dX7_isA_33 rfl rfl ?_
  refine mr_iload_n C 35 dX7_isA_34 rfl rfl ?_
  refine mr_icmpne C 42 38 dX7_isA_35 (by decide) rfl (fun _ => ?_) (fun c_ => absurd c_ (by decide))
  refine mr_iconst C (nI 0) 43 dX7_isA_42 rfl rfl ?_
  refine mr_iret C dX7_isA_43 rfl rfl (by decide) (by decide) hlen ?_
  rw [hO]
  exact ⟨rfl, rfl⟩

set_option maxRecDepth 20000 in
set_option maxHeartbeats 4000000 in
theorem c_isA_4_3 (E : EG)  : Ctr E mX7_isA (0, 0, 0) [.int (nI 4), .int (nI 3)] ([]) (fun v w => v = some (.int (nI 0)) ∧ w = []) := by
  refine Ctr.of (by decide) (Nat.le_of_ble_eq_true rfl) ?_
  intro Z hO hn C
  have hlen : zn Z ≤ 0 := by rw [hn]; exact Nat.le_of_ble_eq_true rfl
  refine mr_iload_n C 1 dX7_isA_0 rfl rfl ?_
  refine mr_istore_n C 2 dX7_isA_1 rfl rfl (by decide) ?_
  refine mr_iconst C (nI 0) 3 dX7_isA_2 rfl rfl ?_
  refine mr_istore_n C 4 dX7_isA_3 rfl rfl (by decide) ?_
  refine mr_iload_n C 5 dX7_isA_4 rfl rfl ?_
  refine mr_gets C 8 dX7_isA_5 rfl (C.2.2.2.2.2.2.2.2.1.2.2.1 0 (by decide)).1 fg_X7_269 ?_
  refine mr_tlen C 9 dX7_isA_8 rfl (C.2.2.2.2.2.2.2.2.1.2.2.1 0 (by decide)).2 ?_
  refine mr_icmpge C 33 12 dX7_isA_9 (by decide) rfl (fun c_ => absurd c_ (by decide)) (fun _ => ?_)
  refine mr_iload_n C 13 dX7_isA_12 rfl rfl ?_
  refine mr_iload_n C 14 dX7_isA_13 rfl rfl ?_
  refine mr_icmpeq C 33 17 dX7_isA_14 (by decide) rfl (fun c_ => absurd c_ (by decide)) (fun _ => ?_)
  refine mr_iload_n C 18 dX7_isA_17 rfl rfl ?_
  refine mr_ifle C 33 21 dX7_isA_18 (by decide) rfl (fun c_ => absurd c_ (by decide)) (fun _ => ?_)
  refine mr_gets C 24 dX7_isA_21 rfl (C.2.2.2.2.2.2.2.2.1.2.2.1 0 (by decide)).1 fg_X7_269 ?_
  refine mr_iload_n C 25 dX7_isA_24 rfl rfl ?_
  refine mr_tint C 4 (v := .int (nI 0)) 26 dX7_isA_25 rfl (C.2.2.2.2.2.2.2.2.1.2.2.1 0 (by decide)).2 rfl (by decide) (by decide) rfl ?_
  refine mr_istore_n C 27 dX7_isA_26 rfl rfl (by decide) ?_
  refine mr_iinc C (nI 1) 30 dX7_isA_27 rfl rfl (by decide) rfl ?_
  refine mr_goto C 4 dX7_isA_30 (by decide) ?_
  refine mr_iload_n C 5 dX7_isA_4 rfl rfl ?_
  refine mr_gets C 8 dX7_isA_5 rfl (C.2.2.2.2.2.2.2.2.1.2.2.1 0 (by decide)).1 fg_X7_269 ?_
  refine mr_tlen C 9 dX7_isA_8 rfl (C.2.2.2.2.2.2.2.2.1.2.2.1 0 (by decide)).2 ?_
  refine mr_icmpge C 33 12 dX7_isA_9 (by decide) rfl (fun c_ => absurd c_ (by decide)) (fun _ => ?_)
  refine mr_iload_n C 13 dX7_isA_12 rfl rfl ?_
  refine mr_iload_n C 14 dX7_isA_13 rfl rfl ?_
  refine mr_icmpeq C 33 17 dX7_isA_14 (by decide) rfl (fun c_ => absurd c_ (by decide)) (fun _ => ?_)
  refine mr_iload_n C 18 dX7_isA_17 rfl rfl ?_
  refine mr_ifle C 33 21 dX7_isA_18 (by decide) rfl (fun _ => ?_) (fun c_ => absurd (by decide) c_)
  refine mr_iload_n C 34 dX7_isA_33 rfl rfl ?_
  refine mr_iload_n C 35 dX7_isA_34 rfl rfl ?_
  refine mr_icmpne C 42 38 dX7_isA_35 (by decide) rfl (fun _ => ?_) (fun c_ => absurd c_ (by decide))
  refine mr_iconst C (nI 0) 43 dX7_isA_42 rfl rfl ?_
  refine mr_iret C dX7_isA_43 rfl rfl (by decide) (by decide) hlen ?_
  rw [hO]
  exact ⟨rfl, rfl⟩

set_option maxRecDepth 20000 in
set_option maxHeartbeats 4000000 in
theorem c_isA_4_4 (E : EG)  : Ctr E mX7_isA (0, 0, 0) [.int (nI 4), .int (nI 4)] ([]) (fun v w => v = some (.int (nI 1)) ∧ w = []) := by
  refine Ctr.of (by decide) (Nat.le_of_ble_eq_true rfl) ?_
  intro Z hO hn C
  have hlen : zn Z ≤ 0 := by rw [hn]; exact Nat.le_of_ble_eq_true rfl
  refine mr_iload_n C 1 dX7_isA_0 rfl rfl ?_
  refine mr_istore_n C 2 dX7_isA_1 rfl rfl (by decide) ?_
  refine mr_iconst C (nI 0) 3 dX7_isA_2 rfl rfl ?_
  refine mr_istore_n C 4 dX7_isA_3 rfl rfl (by decide) ?_
  refine mr_iload_n C 5 dX7_isA_4 rfl rfl ?_
  refine mr_gets C 8 dX7_isA_5 rfl (C.2.2.2.2.2.2.2.2.1.2.2.1 0 (by decide)).1 fg_X7_269 ?_
  refine mr_tlen C 9 dX7_isA_8 rfl (C.2.2.2.2.2.2.2.2.1.2.2.1 0 (by decide)).2 ?_
  refine mr_icmpge C 33 12 dX7_isA_9 (by decide) rfl (fun c_ => absurd c_ (by decide)) (fun _ => ?_)
  refine mr_iload_n C 13 dX7_isA_12 rfl rfl ?_
  refine mr_iload_n C 14 dX7_isA_13 rfl rfl ?_
  refine mr_icmpeq C 33 17 dX7_isA_14 (by decide) rfl (fun _ => ?_) (fun c_ => absurd (by decide) c_)
  refine mr_iload_n C 34 dX7_isA_33 rfl rfl ?_
  refine mr_iload_n C 35 dX7_isA_34 rfl rfl ?_
  refine mr_icmpne C 42 38 dX7_isA_35 (by decide) rfl (fun c_ => absurd (by decide) c_) (fun _ => ?_)
  refine mr_iconst C (nI 1) 39 dX7_isA_38 rfl rfl ?_
  refine mr_goto C 43 dX7_isA_39 (by decide) ?_
  refine mr_iret C dX7_isA_43 rfl rfl (by decide) (by decide) hlen ?_
  rw [hO]
  exact ⟨rfl, rfl⟩

set_option maxRecDepth 20000 in
set_option maxHeartbeats 4000000 in
theorem c_isA_4_5 (E : EG)  : Ctr E mX7_isA (0, 0, 0) [.int (nI 4), .int (nI 5)] ([]) (fun v w => v = some (.int (nI 0)) ∧ w = []) := by
  refine Ctr.of (by decide) (Nat.le_of_ble_eq_true rfl) ?_
  intro Z hO hn C
  have hlen : zn Z ≤ 0 := by rw [hn]; exact Nat.le_of_ble_eq_true rfl
  refine mr_iload_n C 1 dX7_isA_0 rfl rfl ?_
  refine mr_istore_n C 2 dX7_isA_1 rfl rfl (by decide) ?_
  refine mr_iconst C (nI 0) 3 dX7_isA_2 rfl rfl ?_
  refine mr_istore_n C 4 dX7_isA_3 rfl rfl (by decide) ?_
  refine mr_iload_n C 5 dX7_isA_4 rfl rfl ?_
  refine mr_gets C 8 dX7_isA_5 rfl (C.2.2.2.2.2.2.2.2.1.2.2.1 0 (by decide)).1 fg_X7_269 ?_
  refine mr_tlen C 9 dX7_isA_8 rfl (C.2.2.2.2.2.2.2.2.1.2.2.1 0 (by decide)).2 ?_
  refine mr_icmpge C 33 12 dX7_isA_9 (by decide) rfl (fun c_ => absurd c_ (by decide)) (fun _ => ?_)
  refine mr_iload_n C 13 dX7_isA_12 rfl rfl ?_
  refine mr_iload_n C 14 dX7_isA_13 rfl rfl ?_
  refine mr_icmpeq C 33 17 dX7_isA_14 (by decide) rfl (fun c_ => absurd c_ (by decide)) (fun _ => ?_)
  refine mr_iload_n C 18 dX7_isA_17 rfl rfl ?_
  refine mr_ifle C 33 21 dX7_isA_18 (by decide) rfl (fun c_ => absurd c_ (by decide)) (fun _ => ?_)
  refine mr_gets C 24 dX7_isA_21 rfl (C.2.2.2.2.2.2.2.2.1.2.2.1 0 (by decide)).1 fg_X7_269 ?_
  refine mr_iload_n C 25 dX7_isA_24 rfl rfl ?_
  refine mr_tint C 4 (v := .int (nI 0)) 26 dX7_isA_25 rfl (C.2.2.2.2.2.2.2.2.1.2.2.1 0 (by decide)).2 rfl (by decide) (by decide) rfl ?_
  refine mr_istore_n C 27 dX7_isA_26 rfl rfl (by decide) ?_
  refine mr_iinc C (nI 1) 30 dX7_isA_27 rfl rfl (by decide) rfl ?_
  refine mr_goto C 4 dX7_isA_30 (by decide) ?_
  refine mr_iload_n C 5 dX7_isA_4 rfl rfl ?_
  refine mr_gets C 8 dX7_isA_5 rfl (C.2.2.2.2.2.2.2.2.1.2.2.1 0 (by decide)).1 fg_X7_269 ?_
  refine mr_tlen C 9 dX7_isA_8 rfl (C.2.2.2.2.2.2.2.2.1.2.2.1 0 (by decide)).2 ?_
  refine mr_icmpge C 33 12 dX7_isA_9 (by decide) rfl (fun c_ => absurd c_ (by decide)) (fun _ => ?_)
  refine mr_iload_n C 13 dX7_isA_12 rfl rfl ?_
  refine mr_iload_n C 14 dX7_isA_13 rfl rfl ?_
  refine mr_icmpeq C 33 17 dX7_isA_14 (by decide) rfl (fun c_ => absurd c_ (by decide)) (fun _ => ?_)
  refine mr_iload_n C 18 dX7_isA_17 rfl rfl ?_
  refine mr_ifle C 33 21 dX7_isA_18 (by decide) rfl (fun _ => ?_) (fun c_ => absurd (by decide) c_)
  refine mr_iload_n C 34 dX7_isA_33 rfl rfl ?_
  refine mr_iload_n C 35 dX7_isA_34 rfl rfl ?_
  refine mr_icmpne C 42 38 dX7_isA_35 (by decide) rfl (fun _ => ?_) (fun c_ => absurd c_ (by decide))
  refine mr_iconst C (nI 0) 43 dX7_isA_42 rfl rfl ?_
  refine mr_iret C dX7_isA_43 rfl rfl (by decide) (by decide) hlen ?_
  rw [hO]
  exact ⟨rfl, rfl⟩

set_option maxRecDepth 20000 in
set_option maxHeartbeats 4000000 in
theorem c_isA_5_0 (E : EG)  : Ctr E mX7_isA (0, 0, 0) [.int (nI 5), .int (nI 0)] ([]) (fun v w => v = some (.int (nI 1)) ∧ w = []) := by
  refine Ctr.of (by decide) (Nat.le_of_ble_eq_true rfl) ?_
  intro Z hO hn C
  have hlen : zn Z ≤ 0 := by rw [hn]; exact Nat.le_of_ble_eq_true rfl
  refine mr_iload_n C 1 dX7_isA_0 rfl rfl ?_
  refine mr_istore_n C 2 dX7_isA_1 rfl rfl (by decide) ?_
  refine mr_iconst C (nI 0) 3 dX7_isA_2 rfl rfl ?_
  refine mr_istore_n C 4 dX7_isA_3 rfl rfl (by decide) ?_
  refine mr_iload_n C 5 dX7_isA_4 rfl rfl ?_
  refine mr_gets C 8 dX7_isA_5 rfl (C.2.2.2.2.2.2.2.2.1.2.2.1 0 (by decide)).1 fg_X7_269 ?_
  refine mr_tlen C 9 dX7_isA_8 rfl (C.2.2.2.2.2.2.2.2.1.2.2.1 0 (by decide)).2 ?_
  refine mr_icmpge C 33 12 dX7_isA_9 (by decide) rfl (fun c_ => absurd c_ (by decide)) (fun _ => ?_)
  refine mr_iload_n C 13 dX7_isA_12 rfl rfl ?_
  refine mr_iload_n C 14 dX7_isA_13 rfl rfl ?_
  refine mr_icmpeq C 33 17 dX7_isA_14 (by decide) rfl (fun c_ => absurd c_ (by decide)) (fun _ => ?_)
  refine mr_iload_n C 18 dX7_isA_17 rfl rfl ?_
  refine mr_ifle C 33 21 dX7_isA_18 (by decide) rfl (fun c_ => absurd c_ (by decide)) (fun _ => ?_)
  refine mr_gets C 24 dX7_isA_21 rfl (C.2.2.2.2.2.2.2.2.1.2.2.1 0 (by decide)).1 fg_X7_269 ?_
  refine mr_iload_n C 25 dX7_isA_24 rfl rfl ?_
  refine mr_tint C 5 (v := .int (nI 4)) 26 dX7_isA_25 rfl (C.2.2.2.2.2.2.2.2.1.2.2.1 0 (by decide)).2 rfl (by decide) (by decide) rfl ?_
  refine mr_istore_n C 27 dX7_isA_26 rfl rfl (by decide) ?_
  refine mr_iinc C (nI 1) 30 dX7_isA_27 rfl rfl (by decide) rfl ?_
  refine mr_goto C 4 dX7_isA_30 (by decide) ?_
  refine mr_iload_n C 5 dX7_isA_4 rfl rfl ?_
  refine mr_gets C 8 dX7_isA_5 rfl (C.2.2.2.2.2.2.2.2.1.2.2.1 0 (by decide)).1 fg_X7_269 ?_
  refine mr_tlen C 9 dX7_isA_8 rfl (C.2.2.2.2.2.2.2.2.1.2.2.1 0 (by decide)).2 ?_
  refine mr_icmpge C 33 12 dX7_isA_9 (by decide) rfl (fun c_ => absurd c_ (by decide)) (fun _ => ?_)
  refine mr_iload_n C 13 dX7_isA_12 rfl rfl ?_
  refine mr_iload_n C 14 dX7_isA_13 rfl rfl ?_
  refine mr_icmpeq C 33 17 dX7_isA_14 (by decide) rfl (fun c_ => absurd c_ (by decide)) (fun _ => ?_)
  refine mr_iload_n C 18 dX7_isA_17 rfl rfl ?_
  refine mr_ifle C 33 21 dX7_isA_18 (by decide) rfl (fun c_ => absurd c_ (by decide)) (fun _ => ?_)
  refine mr_gets C 24 dX7_isA_21 rfl (C.2.2.2.2.2.2.2.2.1.2.2.1 0 (by decide)).1 fg_X7_269 ?_
  refine mr_iload_n C 25 dX7_isA_24 rfl rfl ?_
  refine mr_tint C 4 (v := .int (nI 0)) 26 dX7_isA_25 rfl (C.2.2.2.2.2.2.2.2.1.2.2.1 0 (by decide)).2 rfl (by decide) (by decide) rfl ?_
  refine mr_istore_n C 27 dX7_isA_26 rfl rfl (by decide) ?_
  refine mr_iinc C (nI 2) 30 dX7_isA_27 rfl rfl (by decide) rfl ?_
  refine mr_goto C 4 dX7_isA_30 (by decide) ?_
  refine mr_iload_n C 5 dX7_isA_4 rfl rfl ?_
  refine mr_gets C 8 dX7_isA_5 rfl (C.2.2.2.2.2.2.2.2.1.2.2.1 0 (by decide)).1 fg_X7_269 ?_
  refine mr_tlen C 9 dX7_isA_8 rfl (C.2.2.2.2.2.2.2.2.1.2.2.1 0 (by decide)).2 ?_
  refine mr_icmpge C 33 12 dX7_isA_9 (by decide) rfl (fun c_ => absurd c_ (by decide)) (fun _ => ?_)
  refine mr_iload_n C 13 dX7_isA_12 rfl rfl ?_
  refine mr_iload_n C 14 dX7_isA_13 rfl rfl ?_
  refine mr_icmpeq C 33 17 dX7_isA_14 (by decide) rfl (fun _ => ?_) (fun c_ => absurd (by decide) c_)
  refine mr_iload_n C 34 dX7_isA_33 rfl rfl ?_
  refine mr_iload_n C 35 dX7_isA_34 rfl rfl ?_
  refine mr_icmpne C 42 38 dX7_isA_35 (by decide) rfl (fun c_ => absurd (by decide) c_) (fun _ => ?_)
  refine mr_iconst C (nI 1) 39 dX7_isA_38 rfl rfl ?_
  refine mr_goto C 43 dX7_isA_39 (by decide) ?_
  refine mr_iret C dX7_isA_43 rfl rfl (by decide) (by decide) hlen ?_
  rw [hO]
  exact ⟨rfl, rfl⟩

set_option maxRecDepth 20000 in
set_option maxHeartbeats 4000000 in
theorem c_isA_5_1 (E : EG)  : Ctr E mX7_isA (0, 0, 0) [.int (nI 5), .int (nI 1)] ([]) (fun v w => v = some (.int (nI 0)) ∧ w = []) := by
  refine Ctr.of (by decide) (Nat.le_of_ble_eq_true rfl) ?_
  intro Z hO hn C
  have hlen : zn Z ≤ 0 := by rw [hn]; exact Nat.le_of_ble_eq_true rfl
  refine mr_iload_n C 1 dX7_isA_0 rfl rfl ?_
  refine mr_istore_n C 2 dX7_isA_1 rfl rfl (by decide) ?_
  refine mr_iconst C (nI 0) 3 dX7_isA_2 rfl rfl ?_
  refine mr_istore_n C 4 dX7_isA_3 rfl rfl (by decide) ?_
  refine mr_iload_n C 5 dX7_isA_4 rfl rfl ?_
  refine mr_gets C 8 dX7_isA_5 rfl (C.2.2.2.2.2.2.2.2.1.2.2.1 0 (by decide)).1 fg_X7_269 ?_
  refine mr_tlen C 9 dX7_isA_8 rfl (C.2.2.2.2.2.2.2.2.1.2.2.1 0 (by decide)).2 ?_
  refine mr_icmpge C 33 12 dX7_isA_9 (by decide) rfl (fun c_ => absurd c_ (by decide)) (fun _ => ?_)
  refine mr_iload_n C 13 dX7_isA_12 rfl rfl ?_
  refine mr_iload_n C 14 dX7_isA_13 rfl rfl ?_
  refine mr_icmpeq C 33 17 dX7_isA_14 (by decide) rfl (fun c_ => absurd c_ (by decide)) (fun _ => ?_)
  refine mr_iload_n C 18 dX7_isA_17 rfl rfl ?_
  refine mr_ifle C 33 21 dX7_isA_18 (by decide) rfl (fun c_ => absurd c_ (by decide)) (fun _ => ?_)
  refine mr_gets C 24 dX7_isA_21 rfl (C.2.2.2.2.2.2.2.2.1.2.2.1 0 (by decide)).1 fg_X7_269 ?_
  refine mr_iload_n C 25 dX7_isA_24 rfl rfl ?_
  refine mr_tint C 5 (v := .int (nI 4)) 26 dX7_isA_25 rfl (C.2.2.2.2.2.2.2.2.1.2.2.1 0 (by decide)).2 rfl (by decide) (by decide) rfl ?_
  refine mr_istore_n C 27 dX7_isA_26 rfl rfl (by decide) ?_
  refine mr_iinc C (nI 1) 30 dX7_isA_27 rfl rfl (by decide) rfl ?_
  refine mr_goto C 4 dX7_isA_30 (by decide) ?_
  refine mr_iload_n C 5 dX7_isA_4 rfl rfl ?_
  refine mr_gets C 8 dX7_isA_5 rfl (C.2.2.2.2.2.2.2.2.1.2.2.1 0 (by decide)).1 fg_X7_269 ?_
  refine mr_tlen C 9 dX7_isA_8 rfl (C.2.2.2.2.2.2.2.2.1.2.2.1 0 (by decide)).2 ?_
  refine mr_icmpge C 33 12 dX7_isA_9 (by decide) rfl (fun c_ => absurd c_ (by decide)) (fun _ => ?_)
  refine mr_iload_n C 13 dX7_isA_12 rfl rfl ?_
  refine mr_iload_n C 14 dX7_isA_13 rfl rfl ?_
  refine mr_icmpeq C 33 17 dX7_isA_14 (by decide) rfl (fun c_ => absurd c_ (by decide)) (fun _ => ?_)
  refine mr_iload_n C 18 dX7_isA_17 rfl rfl ?_
  refine mr_ifle C 33 21 dX7_isA_18 (by decide) rfl (fun c_ => absurd c_ (by decide)) (fun _ => ?_)
  refine mr_gets C 24 dX7_isA_21 rfl (C.2.2.2.2.2.2.2.2.1.2.2.1 0 (by decide)).1 fg_X7_269 ?_
  refine mr_iload_n C 25 dX7_isA_24 rfl rfl ?_
  refine mr_tint C 4 (v := .int (nI 0)) 26 dX7_isA_25 rfl (C.2.2.2.2.2.2.2.2.1.2.2.1 0 (by decide)).2 rfl (by decide) (by decide) rfl ?_
  refine mr_istore_n C 27 dX7_isA_26 rfl rfl (by decide) ?_
  refine mr_iinc C (nI 2) 30 dX7_isA_27 rfl rfl (by decide) rfl ?_
  refine mr_goto C 4 dX7_isA_30 (by decide) ?_
  refine mr_iload_n C 5 dX7_isA_4 rfl rfl ?_
  refine mr_gets C 8 dX7_isA_5 rfl (C.2.2.2.2.2.2.2.2.1.2.2.1 0 (by decide)).1 fg_X7_269 ?_
  refine mr_tlen C 9 dX7_isA_8 rfl (C.2.2.2.2.2.2.2.2.1.2.2.1 0 (by decide)).2 ?_
  refine mr_icmpge C 33 12 dX7_isA_9 (by decide) rfl (fun c_ => absurd c_ (by decide)) (fun _ => ?_)
  refine mr_iload_n C 13 dX7_isA_12 rfl rfl ?_
  refine mr_iload_n C 14 dX7_isA_13 rfl rfl ?_
  refine mr_icmpeq C 33 17 dX7_isA_14 (by decide) rfl (fun c_ => absurd c_ (by decide)) (fun _ => ?_)
  refine mr_iload_n C 18 dX7_isA_17 rfl rfl ?_
  refine mr_ifle C 33 21 dX7_isA_18 (by decide) rfl (fun _ => ?_) (fun c_ => absurd (by decide) c_)
  refine mr_iload_n C 34 dX7_isA_33 rfl rfl ?_
  refine mr_iload_n C 35 dX7_isA_34 rfl rfl ?_
  refine mr_icmpne C 42 38 dX7_isA_35 (by decide) rfl (fun _ => ?_) (fun c_ => absurd c_ (by decide))
  refine mr_iconst C (nI 0) 43 dX7_isA_42 rfl rfl ?_
  refine mr_iret C dX7_isA_43 rfl rfl (by decide) (by decide) hlen ?_
  rw [hO]
  exact ⟨rfl, rfl⟩

set_option maxRecDepth 20000 in
set_option maxHeartbeats 4000000 in
theorem c_isA_5_2 (E : EG)  : Ctr E mX7_isA (0, 0, 0) [.int (nI 5), .int (nI 2)] ([]) (fun v w => v = some (.int (nI 0)) ∧ w = []) := by
  refine Ctr.of (by decide) (Nat.le_of_ble_eq_true rfl) ?_
  intro Z hO hn C
  have hlen : zn Z ≤ 0 := by rw [hn]; exact Nat.le_of_ble_eq_true rfl
  refine mr_iload_n C 1 dX7_isA_0 rfl rfl ?_
  refine mr_istore_n C 2 dX7_isA_1 rfl rfl (by decide) ?_
  refine mr_iconst C (nI 0) 3 dX7_isA_2 rfl rfl ?_
  refine mr_istore_n C 4 dX7_isA_3 rfl rfl (by decide) ?_
  refine mr_iload_n C 5 dX7_isA_4 rfl rfl ?_
  refine mr_gets C 8 dX7_isA_5 rfl (C.2.2.2.2.2.2.2.2.1.2.2.1 0 (by decide)).1 fg_X7_269 ?_
  refine mr_tlen C 9 dX7_isA_8 rfl (C.2.2.2.2.2.2.2.2.1.2.2.1 0 (by decide)).2 ?_
  refine mr_icmpge C 33 12 dX7_isA_9 (by decide) rfl (fun c_ => absurd c_ (by decide)) (fun _ => ?_)
  refine mr_iload_n C 13 dX7_isA_12 rfl rfl ?_
  refine mr_iload_n C 14 dX7_isA_13 rfl rfl ?_
  refine mr_icmpeq C 33 17 dX7_isA_14 (by decide) rfl (fun c_ => absurd c_ (by decide)) (fun _ => ?_)
  refine mr_iload_n C 18 dX7_isA_17 rfl rfl ?_
  refine mr_ifle C 33 21 dX7_isA_18 (by decide) rfl (fun c_ => absurd c_ (by decide)) (fun _ => ?_)
  refine mr_gets C 24 dX7_isA_21 rfl (C.2.2.2.2.2.2.2.2.1.2.2.1 0 (by decide)).1 fg_X7_269 ?_
  refine mr_iload_n C 25 dX7_isA_24 rfl rfl ?_
  refine mr_tint C 5 (v := .int (nI 4)) 26 dX7_isA_25 rfl (C.2.2.2.2.2.2.2.2.1.2.2.1 0 (by decide)).2 rfl (by decide) (by decide) rfl ?_
  refine mr_istore_n C 27 dX7_isA_26 rfl rfl (by decide) ?_
  refine mr_iinc C (nI 1) 30 dX7_isA_27 rfl rfl (by decide) rfl ?_
  refine mr_goto C 4 dX7_isA_30 (by decide) ?_
  refine mr_iload_n C 5 dX7_isA_4 rfl rfl ?_
  refine mr_gets C 8 dX7_isA_5 rfl (C.2.2.2.2.2.2.2.2.1.2.2.1 0 (by decide)).1 fg_X7_269 ?_
  refine mr_tlen C 9 dX7_isA_8 rfl (C.2.2.2.2.2.2.2.2.1.2.2.1 0 (by decide)).2 ?_
  refine mr_icmpge C 33 12 dX7_isA_9 (by decide) rfl (fun c_ => absurd c_ (by decide)) (fun _ => ?_)
  refine mr_iload_n C 13 dX7_isA_12 rfl rfl ?_
  refine mr_iload_n C 14 dX7_isA_13 rfl rfl ?_
  refine mr_icmpeq C 33 17 dX7_isA_14 (by decide) rfl (fun c_ => absurd c_ (by decide)) (fun _ => ?_)
  refine mr_iload_n C 18 dX7_isA_17 rfl rfl ?_
  refine mr_ifle C 33 21 dX7_isA_18 (by decide) rfl (fun c_ => absurd c_ (by decide)) (fun _ => ?_)
  refine mr_gets C 24 dX7_isA_21 rfl (C.2.2.2.2.2.2.2.2.1.2.2.1 0 (by decide)).1 fg_X7_269 ?_
  refine mr_iload_n C 25 dX7_isA_24 rfl rfl ?_
  refine mr_tint C 4 (v := .int (nI 0)) 26 dX7_isA_25 rfl (C.2.2.2.2.2.2.2.2.1.2.2.1 0 (by decide)).2 rfl (by decide) (by decide) rfl ?_
  refine mr_istore_n C 27 dX7_isA_26 rfl rfl (by decide) ?_
  refine mr_iinc C (nI 2) 30 dX7_isA_27 rfl rfl (by decide) rfl ?_
  refine mr_goto C 4 dX7_isA_30 (by decide) ?_
  refine mr_iload_n C 5 dX7_isA_4 rfl rfl ?_
  refine mr_gets C 8 dX7_isA_5 rfl (C.2.2.2.2.2.2.2.2.1.2.2.1 0 (by decide)).1 fg_X7_269 ?_
  refine mr_tlen C 9 dX7_isA_8 rfl (C.2.2.2.2.2.2.2.2.1.2.2.1 0 (by decide)).2 ?_
  refine mr_icmpge C 33 12 dX7_isA_9 (by decide) rfl (fun c_ => absurd c_ (by decide)) (fun _ => ?_)
  refine mr_iload_n C 13 dX7_isA_12 rfl rfl ?_
  refine mr_iload_n C 14 dX7_isA_13 rfl rfl ?_
  refine mr_icmpeq C 33 17 dX7_isA_14 (by decide) rfl (fun c_ => absurd c_ (by decide)) (fun _ => ?_)
  refine mr_iload_n C 18 dX7_isA_17 rfl rfl ?_
  refine mr_ifle C 33 21 dX7_isA_18 (by decide) rfl (fun _ => ?_) (fun c_ => absurd (by decide) c_)
  refine mr_iload_n C 34 dX7_isA_33 rfl rfl ?_
  refine mr_iload_n C 35 dX7_isA_34 rfl rfl ?_
  refine mr_icmpne C 42 38 dX7_isA_35 (by decide) rfl (fun _ => ?_) (fun c_ => absurd c_ (by decide))
  refine mr_iconst C (nI 0) 43 dX7_isA_42 rfl rfl ?_
  refine mr_iret C dX7_isA_43 rfl rfl (by decide) (by decide) hlen ?_
  rw [hO]
  exact ⟨rfl, rfl⟩

set_option maxRecDepth 20000 in
set_option maxHeartbeats 4000000 in
theorem c_isA_5_3 (E : EG)  : Ctr E mX7_isA (0, 0, 0) [.int (nI 5), .int (nI 3)] ([]) (fun v w => v = some (.int (nI 0)) ∧ w = []) := by
  refine Ctr.of (by decide) (Nat.le_of_ble_eq_true rfl) ?_
  intro Z hO hn C
  have hlen : zn Z ≤ 0 := by rw [hn]; exact Nat.le_of_ble_eq_true rfl
  refine mr_iload_n C 1 dX7_isA_0 rfl rfl ?_
  refine mr_istore_n C 2 dX7_isA_1 rfl rfl (by decide) ?_
  refine mr_iconst C (nI 0) 3 dX7_isA_2 rfl rfl ?_
  refine mr_istore_n C 4 dX7_isA_3 rfl rfl (by decide) ?_
  refine mr_iload_n C 5 dX7_isA_4 rfl rfl ?_
  refine mr_gets C 8 dX7_isA_5 rfl (C.2.2.2.2.2.2.2.2.1.2.2.1 0 (by decide)).1 fg_X7_269 ?_
  refine mr_tlen C 9 dX7_isA_8 rfl (C.2.2.2.2.2.2.2.2.1.2.2.1 0 (by decide)).2 ?_
  refine mr_icmpge C 33 12 dX7_isA_9 (by decide) rfl (fun c_ => absurd c_ (by decide)) (fun _ => ?_)
  refine mr_iload_n C 13 dX7_isA_12 rfl rfl ?_
  refine mr_iload_n C 14 dX7_isA_13 rfl rfl ?_
  refine mr_icmpeq C 33 17 dX7_isA_14 (by decide) rfl (fun c_ => absurd c_ (by decide)) (fun _ => ?_)
  refine mr_iload_n C 18 dX7_isA_17 rfl rfl ?_
  refine mr_ifle C 33 21 dX7_isA_18 (by decide) rfl (fun c_ => absurd c_ (by decide)) (fun _ => ?_)
  refine mr_gets C 24 dX7_isA_21 rfl (C.2.2.2.2.2.2.2.2.1.2.2.1 0 (by decide)).1 fg_X7_269 ?_
  refine mr_iload_n C 25 dX7_isA_24 rfl rfl ?_
  refine mr_tint C 5 (v := .int (nI 4)) 26 dX7_isA_25 rfl (C.2.2.2.2.2.2.2.2.1.2.2.1 0 (by decide)).2 rfl (by decide) (by decide) rfl ?_
  refine mr_istore_n C 27 dX7_isA_26 rfl rfl (by decide) ?_
  refine mr_iinc C (nI 1) 30 dX7_isA_27 rfl rfl (by decide) rfl ?_
  refine mr_goto C 4 dX7_isA_30 (by decide) ?_
  refine mr_iload_n C 5 dX7_isA_4 rfl rfl ?_
  refine mr_gets C 8 dX7_isA_5 rfl (C.2.2.2.2.2.2.2.2.1.2.2.1 0 (by decide)).1 fg_X7_269 ?_
  refine mr_tlen C 9 dX7_isA_8 rfl (C.2.2.2.2.2.2.2.2.1.2.2.1 0 (by decide)).2 ?_
  refine mr_icmpge C 33 12 dX7_isA_9 (by decide) rfl (fun c_ => absurd c_ (by decide)) (fun _ => ?_)
  refine mr_iload_n C 13 dX7_isA_12 rfl rfl ?_
  refine mr_iload_n C 14 dX7_isA_13 rfl rfl ?_
  refine mr_icmpeq C 33 17 dX7_isA_14 (by decide) rfl (fun c_ => absurd c_ (by decide)) (fun _ => ?_)
  refine mr_iload_n C 18 dX7_isA_17 rfl rfl ?_
  refine mr_ifle C 33 21 dX7_isA_18 (by decide) rfl (fun c_ => absurd c_ (by decide)) (fun _ => ?_)
  refine mr_gets C 24 dX7_isA_21 rfl (C.2.2.2.2.2.2.2.2.1.2.2.1 0 (by decide)).1 fg_X7_269 ?_
  refine mr_iload_n C 25 dX7_isA_24 rfl rfl ?_
  refine mr_tint C 4 (v := .int (nI 0)) 26 dX7_isA_25 rfl (C.2.2.2.2.2.2.2.2.1.2.2.1 0 (by decide)).2 rfl (by decide) (by decide) rfl ?_
  refine mr_istore_n C 27 dX7_isA_26 rfl rfl (by decide) ?_
  refine mr_iinc C (nI 2) 30 dX7_isA_27 rfl rfl (by decide) rfl ?_
  refine mr_goto C 4 dX7_isA_30 (by decide) ?_
  refine mr_iload_n C 5 dX7_isA_4 rfl rfl ?_
  refine mr_gets C 8 dX7_isA_5 rfl (C.2.2.2.2.2.2.2.2.1.2.2.1 0 (by decide)).1 fg_X7_269 ?_
  refine mr_tlen C 9 dX7_isA_8 rfl (C.2.2.2.2.2.2.2.2.1.2.2.1 0 (by decide)).2 ?_
  refine mr_icmpge C 33 12 dX7_isA_9 (by decide) rfl (fun c_ => absurd c_ (by decide)) (fun _ => ?_)
  refine mr_iload_n C 13 dX7_isA_12 rfl rfl ?_
  refine mr_iload_n C 14 dX7_isA_13 rfl rfl ?_
  refine mr_icmpeq C 33 17 dX7_isA_14 (by decide) rfl (fun c_ => absurd c_ (by decide)) (fun _ => ?_)
  refine mr_iload_n C 18 dX7_isA_17 rfl rfl ?_
  refine mr_ifle C 33 21 dX7_isA_18 (by decide) rfl (fun _ => ?_) (fun c_ => absurd (by decide) c_)
  refine mr_iload_n C 34 dX7_isA_33 rfl rfl ?_
  refine mr_iload_n C 35 dX7_isA_34 rfl rfl ?_
  refine mr_icmpne C 42 38 dX7_isA_35 (by decide) rfl (fun _ => ?_) (fun c_ => absurd c_ (by decide))
  refine mr_iconst C (nI 0) 43 dX7_isA_42 rfl rfl ?_
  refine mr_iret C dX7_isA_43 rfl rfl (by decide) (by decide) hlen ?_
  rw [hO]
  exact ⟨rfl, rfl⟩

set_option maxRecDepth 20000 in
set_option maxHeartbeats 4000000 in
theorem c_isA_5_4 (E : EG)  : Ctr E mX7_isA (0, 0, 0) [.int (nI 5), .int (nI 4)] ([]) (fun v w => v = some (.int (nI 1)) ∧ w = []) := by
  refine Ctr.of (by decide) (Nat.le_of_ble_eq_true rfl) ?_
  intro Z hO hn C
  have hlen : zn Z ≤ 0 := by rw [hn]; exact Nat.le_of_ble_eq_true rfl
  refine mr_iload_n C 1 dX7_isA_0 rfl rfl ?_
  refine mr_istore_n C 2 dX7_isA_1 rfl rfl (by decide) ?_
  refine mr_iconst C (nI 0) 3 dX7_isA_2 rfl rfl ?_
  refine mr_istore_n C 4 dX7_isA_3 rfl rfl (by decide) ?_
  refine mr_iload_n C 5 dX7_isA_4 rfl rfl ?_
  refine mr_gets C 8 dX7_isA_5 rfl (C.2.2.2.2.2.2.2.2.1.2.2.1 0 (by decide)).1 fg_X7_269 ?_
  refine mr_tlen C 9 dX7_isA_8 rfl (C.2.2.2.2.2.2.2.2.1.2.2.1 0 (by decide)).2 ?_
  refine mr_icmpge C 33 12 dX7_isA_9 (by decide) rfl (fun c_ => absurd c_ (by decide)) (fun _ => ?_)
  refine mr_iload_n C 13 dX7_isA_12 rfl rfl ?_
  refine mr_iload_n C 14 dX7_isA_13 rfl rfl ?_
  refine mr_icmpeq C 33 17 dX7_isA_14 (by decide) rfl (fun c_ => absurd c_ (by decide)) (fun _ => ?_)
  refine mr_iload_n C 18 dX7_isA_17 rfl rfl ?_
  refine mr_ifle C 33 21 dX7_isA_18 (by decide) rfl (fun c_ => absurd c_ (by decide)) (fun _ => ?_)
  refine mr_gets C 24 dX7_isA_21 rfl (C.2.2.2.2.2.2.2.2.1.2.2.1 0 (by decide)).1 fg_X7_269 ?_
  refine mr_iload_n C 25 dX7_isA_24 rfl rfl ?_
  refine mr_tint C 5 (v := .int (nI 4)) 26 dX7_isA_25 rfl (C.2.2.2.2.2.2.2.2.1.2.2.1 0 (by decide)).2 rfl (by decide) (by decide) rfl ?_
  refine mr_istore_n C 27 dX7_isA_26 rfl rfl (by decide) ?_
  refine mr_iinc C (nI 1) 30 dX7_isA_27 rfl rfl (by decide) rfl ?_
  refine mr_goto C 4 dX7_isA_30 (by decide) ?_
  refine mr_iload_n C 5 dX7_isA_4 rfl rfl ?_
  refine mr_gets C 8 dX7_isA_5 rfl (C.2.2.2.2.2.2.2.2.1.2.2.1 0 (by decide)).1 fg_X7_269 ?_
  refine mr_tlen C 9 dX7_isA_8 rfl (C.2.2.2.2.2.2.2.2.1.2.2.1 0 (by decide)).2 ?_
  refine mr_icmpge C 33 12 dX7_isA_9 (by decide) rfl (fun c_ => absurd c_ (by decide)) (fun _ => ?_)
  refine mr_iload_n C 13 dX7_isA_12 rfl rfl ?_
  refine mr_iload_n C 14 dX7_isA_13 rfl rfl ?_
  refine mr_icmpeq C 33 17 dX7_isA_14 (by decide) rfl (fun _ => ?_) (fun c_ => absurd (by decide) c_)
  refine mr_iload_n C 34 dX7_isA_33 rfl rfl ?_
  refine mr_iload_n C 35 dX7_isA_34 rfl rfl ?_
  refine mr_icmpne C 42 38 dX7_isA_35 (by decide) rfl (fun c_ => absurd (by decide) c_) (fun _ => ?_)
  refine mr_iconst C (nI 1) 39 dX7_isA_38 rfl rfl ?_
  refine mr_goto C 43 dX7_isA_39 (by decide) ?_
  refine mr_iret C dX7_isA_43 rfl rfl (by decide) (by decide) hlen ?_
  rw [hO]
  exact ⟨rfl, rfl⟩

set_option maxRecDepth 20000 in
set_option maxHeartbeats 4000000 in
theorem c_isA_5_5 (E : EG)  : Ctr E mX7_isA (0, 0, 0) [.int (nI 5), .int (nI 5)] ([]) (fun v w => v = some (.int (nI 1)) ∧ w = []) := by
  refine Ctr.of (by decide) (Nat.le_of_ble_eq_true rfl) ?_
  intro Z hO hn C
  have hlen : zn Z ≤ 0 := by rw [hn]; exact Nat.le_of_ble_eq_true rfl
  refine mr_iload_n C 1 dX7_isA_0 rfl rfl ?_
  refine mr_istore_n C 2 dX7_isA_1 rfl rfl (by decide) ?_
  refine mr_iconst C (nI 0) 3 dX7_isA_2 rfl rfl ?_
  refine mr_istore_n C 4 dX7_isA_3 rfl rfl (by decide) ?_
  refine mr_iload_n C 5 dX7_isA_4 rfl rfl ?_
  refine mr_gets C 8 dX7_isA_5 rfl (C.2.2.2.2.2.2.2.2.1.2.2.1 0 (by decide)).1 fg_X7_269 ?_
  refine mr_tlen C 9 dX7_isA_8 rfl (C.2.2.2.2.2.2.2.2.1.2.2.1 0 (by decide)).2 ?_
  refine mr_icmpge C 33 12 dX7_isA_9 (by decide) rfl (fun c_ => absurd c_ (by decide)) (fun _ => ?_)
  refine mr_iload_n C 13 dX7_isA_12 rfl rfl ?_
  refine mr_iload_n C 14 dX7_isA_13 rfl rfl ?_
  refine mr_icmpeq C 33 17 dX7_isA_14 (by decide) rfl (fun _ => ?_) (fun c_ => absurd (by decide) c_)
  refine mr_iload_n C 34 dX7_isA_33 rfl rfl ?_
  refine mr_iload_n C 35 dX7_isA_34 rfl rfl ?_
  refine mr_icmpne C 42 38 dX7_isA_35 (by decide) rfl (fun c_ => absurd (by decide) c_) (fun _ => ?_)
  refine mr_iconst C (nI 1) 39 dX7_isA_38 rfl rfl ?_
  refine mr_goto C 43 dX7_isA_39 (by decide) ?_
  refine mr_iret C dX7_isA_43 rfl rfl (by decide) (by decide) hlen ?_
  rw [hO]
  exact ⟨rfl, rfl⟩

def isaS (s k : Nat) : Nat := (([[1, 1, 0, 0, 0, 0], [1, 1, 1, 0, 0, 0], [1, 1, 0, 1, 0, 0], [1, 0, 0, 0, 1, 0], [1, 0, 0, 0, 1, 1]] : List (List Nat)).getD (s - 1) []).getD k 0
theorem c_isA (E : EG) (s k : Nat) (h1 : 1 ≤ s) (h5 : s ≤ 5) (hk : k ≤ 5) : Ctr E mX7_isA (0, 0, 0) [.int (nI s), .int (nI k)] ([]) (fun v w => v = some (.int (nI (isaS s k))) ∧ w = []) := by
  have hs : s = 1 ∨ s = 2 ∨ s = 3 ∨ s = 4 ∨ s = 5 := by omega
  have hk2 : k = 0 ∨ k = 1 ∨ k = 2 ∨ k = 3 ∨ k = 4 ∨ k = 5 := by omega
  rcases hs with rfl | rfl | rfl | rfl | rfl <;> rcases hk2 with rfl | rfl | rfl | rfl | rfl | rfl
  · exact c_isA_1_0 E
  · exact c_isA_1_1 E
  · exact c_isA_1_2 E
  · exact c_isA_1_3 E
  · exact c_isA_1_4 E
  · exact c_isA_1_5 E
  · exact c_isA_2_0 E
  · exact c_isA_2_1 E
  · exact c_isA_2_2 E
  · exact c_isA_2_3 E
  · exact c_isA_2_4 E
  · exact c_isA_2_5 E
  · exact c_isA_3_0 E
  · exact c_isA_3_1 E
  · exact c_isA_3_2 E
  · exact c_isA_3_3 E
  · exact c_isA_3_4 E
  · exact c_isA_3_5 E
  · exact c_isA_4_0 E
  · exact c_isA_4_1 E
  · exact c_isA_4_2 E
  · exact c_isA_4_3 E
  · exact c_isA_4_4 E
  · exact c_isA_4_5 E
  · exact c_isA_5_0 E
  · exact c_isA_5_1 E
  · exact c_isA_5_2 E
  · exact c_isA_5_3 E
  · exact c_isA_5_4 E
  · exact c_isA_5_5 E
set_option maxRecDepth 20000 in
set_option maxHeartbeats 4000000 in
theorem c_x_fault (E : EG) (a : Nat → Nat) (fn fd : Int32) (it : Nat → FN) (th ln sz t : FN) (S : Nat) (tI rI : FN) (pF : Nat → FN) (pI se sn be so lo he n1 n2 n3 : FN) (R K G : Nat) (iF : Nat → Nat → FN) (iR iK iG : Nat → Nat) (iu ig kp : FN) (h x : Nat) (uI : FN) (cF : Nat → FN) (cI : FN) (cg : Nat) (fi sr : FN) (s : TRC)   : Ctr E mX7_fault (1, 0, 0) [.ref (a 0)] (wX E a fn fd it th ln sz t S tI rI pF pI se sn be so lo he n1 n2 n3 R K G iF iR iK iG iu ig kp h x uI cF cI cg fi sr s) (fun v w => v = some (.int fn) ∧ w = wX E a fn fd it th ln sz t S tI rI pF pI se sn be so lo he n1 n2 n3 R K G iF iR iK iG iu ig kp h x uI cF cI cg fi sr s) := by
  refine Ctr.of (by decide) (Nat.le_of_ble_eq_true rfl) ?_
  intro Z hO hn C
  have hlen : zn Z ≤ 79 := by rw [hn]; exact Nat.le_of_ble_eq_true rfl
  refine mr_aload_n C 1 dX7_fault_0 rfl rfl ?_
  refine mr_get C 0 4 dX7_fault_1 rfl fl_X7_127 rfl rfl ?_
  refine mr_iret C dX7_fault_4 rfl rfl (by decide) (by decide) hlen ?_
  rw [hO]
  exact ⟨rfl, rfl⟩

set_option maxRecDepth 20000 in
set_option maxHeartbeats 4000000 in
theorem c_x_status (E : EG) (a : Nat → Nat) (fn fd : Int32) (it : Nat → FN) (th ln sz t : FN) (S : Nat) (tI rI : FN) (pF : Nat → FN) (pI se sn be so lo he n1 n2 n3 : FN) (R K G : Nat) (iF : Nat → Nat → FN) (iR iK iG : Nat → Nat) (iu ig kp : FN) (h x : Nat) (uI : FN) (cF : Nat → FN) (cI : FN) (cg : Nat) (fi sr : FN) (s : TRC)   : Ctr E mX7_status (1, 0, 0) [.ref (a 0)] (wX E a fn fd it th ln sz t S tI rI pF pI se sn be so lo he n1 n2 n3 R K G iF iR iK iG iu ig kp h x uI cF cI cg fi sr s) (fun v w => v = some (.int fd) ∧ w = wX E a fn fd it th ln sz t S tI rI pF pI se sn be so lo he n1 n2 n3 R K G iF iR iK iG iu ig kp h x uI cF cI cg fi sr s) := by
  refine Ctr.of (by decide) (Nat.le_of_ble_eq_true rfl) ?_
  intro Z hO hn C
  have hlen : zn Z ≤ 79 := by rw [hn]; exact Nat.le_of_ble_eq_true rfl
  refine mr_aload_n C 1 dX7_status_0 rfl rfl ?_
  refine mr_get C 0 4 dX7_status_1 rfl fl_X7_79 rfl rfl ?_
  refine mr_iret C dX7_status_4 rfl rfl (by decide) (by decide) hlen ?_
  rw [hO]
  exact ⟨rfl, rfl⟩

noncomputable def traceV (i : Int32) (s : TRC) : Int32 := ifP (0 ≤ i.toInt ∧ i.toInt < s.2) (s.1 (iN i)) (-1000000)
set_option maxRecDepth 20000 in
set_option maxHeartbeats 4000000 in
theorem c_x_trace (E : EG) (a : Nat → Nat) (fn fd : Int32) (it : Nat → FN) (th ln sz t : FN) (S : Nat) (tI rI : FN) (pF : Nat → FN) (pI se sn be so lo he n1 n2 n3 : FN) (R K G : Nat) (iF : Nat → Nat → FN) (iR iK iG : Nat → Nat) (iu ig kp : FN) (h x : Nat) (uI : FN) (cF : Nat → FN) (cI : FN) (cg : Nat) (fi sr : FN) (s : TRC) (i0 : Int32) (hs : s.2 ≤ 16)  : Ctr E mX7_trace (1, 0, 0) [.ref (a 0), .int i0] (wX E a fn fd it th ln sz t S tI rI pF pI se sn be so lo he n1 n2 n3 R K G iF iR iK iG iu ig kp h x uI cF cI cg fi sr s) (fun v w => v = some (.int (traceV i0 s)) ∧ w = wX E a fn fd it th ln sz t S tI rI pF pI se sn be so lo he n1 n2 n3 R K G iF iR iK iG iu ig kp h x uI cF cI cg fi sr s) := by
  refine Ctr.of (by decide) (Nat.le_of_ble_eq_true rfl) ?_
  intro Z hO hn C
  have hlen : zn Z ≤ 79 := by rw [hn]; exact Nat.le_of_ble_eq_true rfl
  refine mr_iload_n C 1 dX7_trace_0 rfl rfl ?_
  refine mr_iflt C 15 4 dX7_trace_1 (by decide) rfl (fun c_1 => ?_) (fun c_1 => ?_)
  · rw [tI_lt0] at c_1
    refine mr_ldc C 17 dX7_trace_15 rfl kc_X7_233 ?_
    refine mr_goto C 29 dX7_trace_17 (by decide) ?_
    refine mr_iret C dX7_trace_29 rfl rfl (by decide) (by decide) hlen ?_
    rw [hO]
    exact ⟨congrArg (fun z => some (Value.int z)) ((ifP_f (by omega)).symm), rfl⟩
  · rw [tI_lt0] at c_1
    refine mr_iload_n C 5 dX7_trace_4 rfl rfl ?_
    refine mr_aload_n C 6 dX7_trace_5 rfl rfl ?_
    refine mr_get C 0 9 dX7_trace_6 rfl fl_X7_61 rfl rfl ?_
    refine mr_get C 77 12 dX7_trace_9 rfl fl_X7_246 rfl rfl ?_
    refine mr_icmplt C 20 15 dX7_trace_12 (by decide) rfl (fun c_12 => ?_) (fun c_12 => ?_)
    · rw [tI_lt (by omega)] at c_12
      obtain ⟨i, hi, rfl⟩ := tI_of (x := i0) (n := s.2) (by omega) (by omega)
      have ei : (nI i).toInt = (i : Int) := tI_n (by omega)
      have ii : iN (nI i) = i := iN_n (by omega)
      refine mr_aload_n C 21 dX7_trace_20 rfl rfl ?_
      refine mr_get C 0 24 dX7_trace_21 rfl fl_X7_61 rfl rfl ?_
      refine mr_get C 77 27 dX7_trace_24 rfl fl_X7_249 rfl rfl ?_
      refine mr_iload_n C 28 dX7_trace_27 rfl rfl ?_
      refine mr_iald C 78 i 29 dX7_trace_28 rfl rfl rfl (by omega) (by decide) ?_
      refine mr_iret C dX7_trace_29 rfl rfl (by decide) (by decide) hlen ?_
      rw [hO]
      refine ⟨?_, rfl⟩
      rw [show traceV (nI i) s = s.1 (iN (nI i)) from ifP_t (by omega), ii]
    · rw [tI_lt (by omega)] at c_12
      refine mr_ldc C 17 dX7_trace_15 rfl kc_X7_233 ?_
      refine mr_goto C 29 dX7_trace_17 (by decide) ?_
      refine mr_iret C dX7_trace_29 rfl rfl (by decide) (by decide) hlen ?_
      rw [hO]
      exact ⟨congrArg (fun z => some (Value.int z)) ((ifP_f (by omega)).symm), rfl⟩

noncomputable def kindV (c : Int32) (K : Nat) (so : FN) : Int32 := ifP (0 ≤ c.toInt ∧ c.toInt < K) (so (iN c)) (-1000001)
set_option maxRecDepth 20000 in
set_option maxHeartbeats 4000000 in
theorem c_x_kind (E : EG) (a : Nat → Nat) (fn fd : Int32) (it : Nat → FN) (th ln sz t : FN) (S : Nat) (tI rI : FN) (pF : Nat → FN) (pI se sn be so lo he n1 n2 n3 : FN) (R K G : Nat) (iF : Nat → Nat → FN) (iR iK iG : Nat → Nat) (iu ig kp : FN) (h x : Nat) (uI : FN) (cF : Nat → FN) (cI : FN) (cg : Nat) (fi sr : FN) (s : TRC) (c0 : Int32) (hK : K ≤ 5) : Ctr E mX7_kind (2, 0, 0) [.ref (a 0), .int c0] (wX E a fn fd it th ln sz t S tI rI pF pI se sn be so lo he n1 n2 n3 R K G iF iR iK iG iu ig kp h x uI cF cI cg fi sr s) (fun v w => v = some (.int (kindV c0 K so)) ∧ w = wX E a fn fd it th ln sz t S tI rI pF pI se sn be so lo he n1 n2 n3 R K G iF iR iK iG iu ig kp h x uI cF cI cg fi sr s) := by
  refine Ctr.of (by decide) (Nat.le_of_ble_eq_true rfl) ?_
  intro Z hO hn C
  have hlen : zn Z ≤ 79 := by rw [hn]; exact Nat.le_of_ble_eq_true rfl
  refine mr_aload_n C 1 dX7_kind_0 rfl rfl ?_
  refine mr_get C 0 4 dX7_kind_1 rfl fl_X7_34 rfl rfl ?_
  refine mr_iload_n C 5 dX7_kind_4 rfl rfl ?_
  refine mr_callV C (c_isCrowdI E a 31 se sn be so lo he n1 n2 n3 (nI R) (nI G) (nI 0) (nI 0) K (by omega) c0) [31, 32, 33, 34, 35, 36, 37, 38, 39, 40] 31 3 8 dX7_kind_5 rfl mk_X3_isCrowd mi_X3_isCrowd ml_X7_180 rfl rfl rfl (jn_cut [1, 1, 16, 2, 1, 10, 10, 1, 10, 10, 2, 1, 10, 2, 2] [6] [w0 E a fn fd, [(a 1, .inl (E.1.1 101, 8, .inr (.inr (.inr (.inr (rwA a))))))], wRS E a it th ln sz, wT E a 18 t (nI S) (tI 0) (tI 1) (tI 2) (tI 3), [(a 20, .inr (4, [.ref (a 18), .ref (a 21), .int (rI 0), .int (rI 1), .int (rI 2)]))], wH E a 21 (pF 0) (pF 1) (pF 2) (pF 3) (pF 4) (pF 5) (pF 6) (pF 7) (pF 8) (pI 0) (pI 1) (pI 2) (pI 3) (pI 4), wH E a 31 se sn be so lo he n1 n2 n3 (nI R) (nI K) (nI G) (nI 0) (nI 0), [(a 41, .inl (E.1.1 102, 2, .inr (.inr (.inr (.inr (imA a))))))], wH E a 42 (iF 0 0) (iF 0 1) (iF 0 2) (iF 0 3) (iF 0 4) (iF 0 5) (iF 0 6) (iF 0 7) (iF 0 8) (nI (iR 0)) (nI (iK 0)) (nI (iG 0)) (iu 0) (ig 0), wH E a 52 (iF 1 0) (iF 1 1) (iF 1 2) (iF 1 3) (iF 1 4) (iF 1 5) (iF 1 6) (iF 1 7) (iF 1 8) (nI (iR 1)) (nI (iK 1)) (nI (iG 1)) (iu 1) (ig 1), wA E a 62 kp (nI h) (nI x), wF E a 64 31 65 75 (uI 0) (uI 1) (uI 2), wH E a 65 (cF 0) (cF 1) (cF 2) (cF 3) (cF 4) (cF 5) (cF 6) (cF 7) (cF 8) (cI 0) (cI 1) (cI 2) (cI 3) (nI cg), [(a 75, iA E 5 fi), (a 76, iA E 5 sr)], wQ E a 77 31 s] [wH E a 31 se sn be so lo he n1 n2 n3 (nI R) (nI K) (nI G) (nI 0) (nI 0)] rfl (by decide) rfl rfl) rfl (Nat.le_of_ble_eq_true rfl) (by decide) (by decide) (by decide) rfl rfl (fun r w1 hpost => ?_)
  obtain ⟨rfl, rfl⟩ := hpost
  refine mr_w (wput_id (jn_cut [1, 1, 16, 2, 1, 10, 10, 1, 10, 10, 2, 1, 10, 2, 2] [6] [w0 E a fn fd, [(a 1, .inl (E.1.1 101, 8, .inr (.inr (.inr (.inr (rwA a))))))], wRS E a it th ln sz, wT E a 18 t (nI S) (tI 0) (tI 1) (tI 2) (tI 3), [(a 20, .inr (4, [.ref (a 18), .ref (a 21), .int (rI 0), .int (rI 1), .int (rI 2)]))], wH E a 21 (pF 0) (pF 1) (pF 2) (pF 3) (pF 4) (pF 5) (pF 6) (pF 7) (pF 8) (pI 0) (pI 1) (pI 2) (pI 3) (pI 4), wH E a 31 se sn be so lo he n1 n2 n3 (nI R) (nI K) (nI G) (nI 0) (nI 0), [(a 41, .inl (E.1.1 102, 2, .inr (.inr (.inr (.inr (imA a))))))], wH E a 42 (iF 0 0) (iF 0 1) (iF 0 2) (iF 0 3) (iF 0 4) (iF 0 5) (iF 0 6) (iF 0 7) (iF 0 8) (nI (iR 0)) (nI (iK 0)) (nI (iG 0)) (iu 0) (ig 0), wH E a 52 (iF 1 0) (iF 1 1) (iF 1 2) (iF 1 3) (iF 1 4) (iF 1 5) (iF 1 6) (iF 1 7) (iF 1 8) (nI (iR 1)) (nI (iK 1)) (nI (iG 1)) (iu 1) (ig 1), wA E a 62 kp (nI h) (nI x), wF E a 64 31 65 75 (uI 0) (uI 1) (uI 2), wH E a 65 (cF 0) (cF 1) (cF 2) (cF 3) (cF 4) (cF 5) (cF 6) (cF 7) (cF 8) (cI 0) (cI 1) (cI 2) (cI 3) (nI cg), [(a 75, iA E 5 fi), (a 76, iA E 5 sr)], wQ E a 77 31 s] [wH E a 31 se sn be so lo he n1 n2 n3 (nI R) (nI K) (nI G) (nI 0) (nI 0)] rfl (by decide) rfl rfl)) ?_
  refine mr_ifeq C 23 11 dX7_kind_8 (by decide) rfl (fun c_8 => ?_) (fun c_8 => ?_)
  · rw [bI_eq] at c_8
    refine mr_ldc C 25 dX7_kind_23 rfl kc_X7_70 ?_
    refine mr_iret C dX7_kind_25 rfl rfl (by decide) (by decide) hlen ?_
    rw [hO]
    exact ⟨congrArg (fun z => some (Value.int z)) ((ifP_f c_8).symm), rfl⟩
  · rw [← Ne, bI_ne] at c_8
    obtain ⟨c, hc, rfl⟩ := tI_of (x := c0) (n := K) (by omega) (by omega)
    have ec : (nI c).toInt = (c : Int) := tI_n (by omega)
    have ic : iN (nI c) = c := iN_n (by omega)
    refine mr_aload_n C 12 dX7_kind_11 rfl rfl ?_
    refine mr_get C 0 15 dX7_kind_12 rfl fl_X7_34 rfl rfl ?_
    refine mr_get C 31 18 dX7_kind_15 rfl fl_X7_237 rfl rfl ?_
    refine mr_iload_n C 19 dX7_kind_18 rfl rfl ?_
    refine mr_iald C 35 c 20 dX7_kind_19 rfl rfl rfl (by omega) (by decide) ?_
    refine mr_goto C 25 dX7_kind_20 (by decide) ?_
    refine mr_iret C dX7_kind_25 rfl rfl (by decide) (by decide) hlen ?_
    rw [hO]
    refine ⟨?_, rfl⟩
    rw [show kindV (nI c) K so = so (iN (nI c)) from ifP_t (by omega), ic]

noncomputable def crowdV (c x : Int32) (K : Nat) (lo he : FN) : Int32 := ifP (0 ≤ c.toInt ∧ c.toInt < K ∧ 0 ≤ x.toInt ∧ x.toInt ≤ 1) (ifP (x.toInt = 0) (lo (iN c)) (he (iN c))) (-1000001)
set_option maxRecDepth 20000 in
set_option maxHeartbeats 4000000 in
theorem c_x_crowd (E : EG) (a : Nat → Nat) (fn fd : Int32) (it : Nat → FN) (th ln sz t : FN) (S : Nat) (tI rI : FN) (pF : Nat → FN) (pI se sn be so lo he n1 n2 n3 : FN) (R K G : Nat) (iF : Nat → Nat → FN) (iR iK iG : Nat → Nat) (iu ig kp : FN) (h x : Nat) (uI : FN) (cF : Nat → FN) (cI : FN) (cg : Nat) (fi sr : FN) (s : TRC) (c0 x0 : Int32) (hK : K ≤ 5) : Ctr E mX7_crowd (2, 0, 0) [.ref (a 0), .int c0, .int x0] (wX E a fn fd it th ln sz t S tI rI pF pI se sn be so lo he n1 n2 n3 R K G iF iR iK iG iu ig kp h x uI cF cI cg fi sr s) (fun v w => v = some (.int (crowdV c0 x0 K lo he)) ∧ w = wX E a fn fd it th ln sz t S tI rI pF pI se sn be so lo he n1 n2 n3 R K G iF iR iK iG iu ig kp h x uI cF cI cg fi sr s) := by
  refine Ctr.of (by decide) (Nat.le_of_ble_eq_true rfl) ?_
  intro Z hO hn C
  have hlen : zn Z ≤ 79 := by rw [hn]; exact Nat.le_of_ble_eq_true rfl
  refine mr_aload_n C 1 dX7_crowd_0 rfl rfl ?_
  refine mr_get C 0 4 dX7_crowd_1 rfl fl_X7_34 rfl rfl ?_
  refine mr_iload_n C 5 dX7_crowd_4 rfl rfl ?_
  refine mr_callV C (c_isCrowdI E a 31 se sn be so lo he n1 n2 n3 (nI R) (nI G) (nI 0) (nI 0) K (by omega) c0) [31, 32, 33, 34, 35, 36, 37, 38, 39, 40] 31 3 8 dX7_crowd_5 rfl mk_X3_isCrowd mi_X3_isCrowd ml_X7_180 rfl rfl rfl (jn_cut [1, 1, 16, 2, 1, 10, 10, 1, 10, 10, 2, 1, 10, 2, 2] [6] [w0 E a fn fd, [(a 1, .inl (E.1.1 101, 8, .inr (.inr (.inr (.inr (rwA a))))))], wRS E a it th ln sz, wT E a 18 t (nI S) (tI 0) (tI 1) (tI 2) (tI 3), [(a 20, .inr (4, [.ref (a 18), .ref (a 21), .int (rI 0), .int (rI 1), .int (rI 2)]))], wH E a 21 (pF 0) (pF 1) (pF 2) (pF 3) (pF 4) (pF 5) (pF 6) (pF 7) (pF 8) (pI 0) (pI 1) (pI 2) (pI 3) (pI 4), wH E a 31 se sn be so lo he n1 n2 n3 (nI R) (nI K) (nI G) (nI 0) (nI 0), [(a 41, .inl (E.1.1 102, 2, .inr (.inr (.inr (.inr (imA a))))))], wH E a 42 (iF 0 0) (iF 0 1) (iF 0 2) (iF 0 3) (iF 0 4) (iF 0 5) (iF 0 6) (iF 0 7) (iF 0 8) (nI (iR 0)) (nI (iK 0)) (nI (iG 0)) (iu 0) (ig 0), wH E a 52 (iF 1 0) (iF 1 1) (iF 1 2) (iF 1 3) (iF 1 4) (iF 1 5) (iF 1 6) (iF 1 7) (iF 1 8) (nI (iR 1)) (nI (iK 1)) (nI (iG 1)) (iu 1) (ig 1), wA E a 62 kp (nI h) (nI x), wF E a 64 31 65 75 (uI 0) (uI 1) (uI 2), wH E a 65 (cF 0) (cF 1) (cF 2) (cF 3) (cF 4) (cF 5) (cF 6) (cF 7) (cF 8) (cI 0) (cI 1) (cI 2) (cI 3) (nI cg), [(a 75, iA E 5 fi), (a 76, iA E 5 sr)], wQ E a 77 31 s] [wH E a 31 se sn be so lo he n1 n2 n3 (nI R) (nI K) (nI G) (nI 0) (nI 0)] rfl (by decide) rfl rfl) rfl (Nat.le_of_ble_eq_true rfl) (by decide) (by decide) (by decide) rfl rfl (fun r w1 hpost => ?_)
  obtain ⟨rfl, rfl⟩ := hpost
  refine mr_w (wput_id (jn_cut [1, 1, 16, 2, 1, 10, 10, 1, 10, 10, 2, 1, 10, 2, 2] [6] [w0 E a fn fd, [(a 1, .inl (E.1.1 101, 8, .inr (.inr (.inr (.inr (rwA a))))))], wRS E a it th ln sz, wT E a 18 t (nI S) (tI 0) (tI 1) (tI 2) (tI 3), [(a 20, .inr (4, [.ref (a 18), .ref (a 21), .int (rI 0), .int (rI 1), .int (rI 2)]))], wH E a 21 (pF 0) (pF 1) (pF 2) (pF 3) (pF 4) (pF 5) (pF 6) (pF 7) (pF 8) (pI 0) (pI 1) (pI 2) (pI 3) (pI 4), wH E a 31 se sn be so lo he n1 n2 n3 (nI R) (nI K) (nI G) (nI 0) (nI 0), [(a 41, .inl (E.1.1 102, 2, .inr (.inr (.inr (.inr (imA a))))))], wH E a 42 (iF 0 0) (iF 0 1) (iF 0 2) (iF 0 3) (iF 0 4) (iF 0 5) (iF 0 6) (iF 0 7) (iF 0 8) (nI (iR 0)) (nI (iK 0)) (nI (iG 0)) (iu 0) (ig 0), wH E a 52 (iF 1 0) (iF 1 1) (iF 1 2) (iF 1 3) (iF 1 4) (iF 1 5) (iF 1 6) (iF 1 7) (iF 1 8) (nI (iR 1)) (nI (iK 1)) (nI (iG 1)) (iu 1) (ig 1), wA E a 62 kp (nI h) (nI x), wF E a 64 31 65 75 (uI 0) (uI 1) (uI 2), wH E a 65 (cF 0) (cF 1) (cF 2) (cF 3) (cF 4) (cF 5) (cF 6) (cF 7) (cF 8) (cI 0) (cI 1) (cI 2) (cI 3) (nI cg), [(a 75, iA E 5 fi), (a 76, iA E 5 sr)], wQ E a 77 31 s] [wH E a 31 se sn be so lo he n1 n2 n3 (nI R) (nI K) (nI G) (nI 0) (nI 0)] rfl (by decide) rfl rfl)) ?_
  refine mr_ifeq C 20 11 dX7_crowd_8 (by decide) rfl (fun c_8 => ?_) (fun c_8 => ?_)
  · rw [bI_eq] at c_8
    refine mr_ldc C 22 dX7_crowd_20 rfl kc_X7_70 ?_
    refine mr_iret C dX7_crowd_22 rfl rfl (by decide) (by decide) hlen ?_
    rw [hO]
    exact ⟨congrArg (fun z => some (Value.int z)) ((ifP_f (by omega)).symm), rfl⟩
  · rw [← Ne, bI_ne] at c_8
    refine mr_iload_n C 12 dX7_crowd_11 rfl rfl ?_
    refine mr_iflt C 20 15 dX7_crowd_12 (by decide) rfl (fun c_12 => ?_) (fun c_12 => ?_)
    · rw [tI_lt0] at c_12
      refine mr_ldc C 22 dX7_crowd_20 rfl kc_X7_70 ?_
      refine mr_iret C dX7_crowd_22 rfl rfl (by decide) (by decide) hlen ?_
      rw [hO]
      exact ⟨congrArg (fun z => some (Value.int z)) ((ifP_f (by omega)).symm), rfl⟩
    · rw [tI_lt0] at c_12
      refine mr_iload_n C 16 dX7_crowd_15 rfl rfl ?_
      refine mr_iconst C (nI 1) 17 dX7_crowd_16 rfl rfl ?_
      refine mr_icmple C 23 20 dX7_crowd_17 (by decide) rfl (fun c_17 => ?_) (fun c_17 => ?_)
      · rw [tI_le (by omega)] at c_17
        obtain ⟨c, hc, rfl⟩ := tI_of (x := c0) (n := K) (by omega) (by omega)
        have ec : (nI c).toInt = (c : Int) := tI_n (by omega)
        have ic : iN (nI c) = c := iN_n (by omega)
        refine mr_iload_n C 24 dX7_crowd_23 rfl rfl ?_
        refine mr_ifne C 39 27 dX7_crowd_24 (by decide) rfl (fun c_24 => ?_) (fun c_24 => ?_)
        · rw [Ne, tI_eq0] at c_24
          refine mr_aload_n C 40 dX7_crowd_39 rfl rfl ?_
          refine mr_get C 0 43 dX7_crowd_40 rfl fl_X7_34 rfl rfl ?_
          refine mr_get C 31 46 dX7_crowd_43 rfl fl_X7_183 rfl rfl ?_
          refine mr_iload_n C 47 dX7_crowd_46 rfl rfl ?_
          refine mr_iald C 37 c 48 dX7_crowd_47 rfl rfl rfl (by omega) (by decide) ?_
          refine mr_iret C dX7_crowd_48 rfl rfl (by decide) (by decide) hlen ?_
          rw [hO]
          exact ⟨congrArg (fun z => some (Value.int z)) (((ifP_t (by omega)).trans ((ifP_f (by omega)).trans (by rw [ic]))).symm), rfl⟩
        · rw [tI_eq0] at c_24
          refine mr_aload_n C 28 dX7_crowd_27 rfl rfl ?_
          refine mr_get C 0 31 dX7_crowd_28 rfl fl_X7_34 rfl rfl ?_
          refine mr_get C 31 34 dX7_crowd_31 rfl fl_X7_192 rfl rfl ?_
          refine mr_iload_n C 35 dX7_crowd_34 rfl rfl ?_
          refine mr_iald C 36 c 36 dX7_crowd_35 rfl rfl rfl (by omega) (by decide) ?_
          refine mr_goto C 48 dX7_crowd_36 (by decide) ?_
          refine mr_iret C dX7_crowd_48 rfl rfl (by decide) (by decide) hlen ?_
          rw [hO]
          exact ⟨congrArg (fun z => some (Value.int z)) (((ifP_t (by omega)).trans ((ifP_t (by omega)).trans (by rw [ic]))).symm), rfl⟩
      · rw [tI_le (by omega)] at c_17
        refine mr_ldc C 22 dX7_crowd_20 rfl kc_X7_70 ?_
        refine mr_iret C dX7_crowd_22 rfl rfl (by decide) (by decide) hlen ?_
        rw [hO]
        exact ⟨congrArg (fun z => some (Value.int z)) ((ifP_f (by omega)).symm), rfl⟩

noncomputable def roomV (r x : Int32) (R K : Nat) (se sn lo he : FN) : Int32 := ifP (0 ≤ r.toInt ∧ r.toInt < R ∧ 0 ≤ x.toInt ∧ x.toInt ≤ 2) (ifP (x.toInt = 0) (se (iN r)) (ifP (x.toInt = 1) (sumH lo he r K) (sn (iN r)))) (-1000001)
set_option maxRecDepth 20000 in
set_option maxHeartbeats 4000000 in
theorem c_x_room (E : EG) (a : Nat → Nat) (fn fd : Int32) (it : Nat → FN) (th ln sz t : FN) (S : Nat) (tI rI : FN) (pF : Nat → FN) (pI se sn be so lo he n1 n2 n3 : FN) (R K G : Nat) (iF : Nat → Nat → FN) (iR iK iG : Nat → Nat) (iu ig kp : FN) (h x : Nat) (uI : FN) (cF : Nat → FN) (cI : FN) (cg : Nat) (fi sr : FN) (s : TRC) (r0 x0 : Int32) (hR : R ≤ 6) (hK : K ≤ 5) : Ctr E mX7_room (2, 0, 0) [.ref (a 0), .int r0, .int x0] (wX E a fn fd it th ln sz t S tI rI pF pI se sn be so lo he n1 n2 n3 R K G iF iR iK iG iu ig kp h x uI cF cI cg fi sr s) (fun v w => v = some (.int (roomV r0 x0 R K se sn lo he)) ∧ w = wX E a fn fd it th ln sz t S tI rI pF pI se sn be so lo he n1 n2 n3 R K G iF iR iK iG iu ig kp h x uI cF cI cg fi sr s) := by
  refine Ctr.of (by decide) (Nat.le_of_ble_eq_true rfl) ?_
  intro Z hO hn C
  have hlen : zn Z ≤ 79 := by rw [hn]; exact Nat.le_of_ble_eq_true rfl
  refine mr_aload_n C 1 dX7_room_0 rfl rfl ?_
  refine mr_get C 0 4 dX7_room_1 rfl fl_X7_34 rfl rfl ?_
  refine mr_iload_n C 5 dX7_room_4 rfl rfl ?_
  refine mr_callV C (c_isRoomI E a 31 se sn be so lo he n1 n2 n3 (nI K) (nI G) (nI 0) (nI 0) R (by omega) r0) [31, 32, 33, 34, 35, 36, 37, 38, 39, 40] 31 3 8 dX7_room_5 rfl mk_X3_isRoom mi_X3_isRoom ml_X7_170 rfl rfl rfl (jn_cut [1, 1, 16, 2, 1, 10, 10, 1, 10, 10, 2, 1, 10, 2, 2] [6] [w0 E a fn fd, [(a 1, .inl (E.1.1 101, 8, .inr (.inr (.inr (.inr (rwA a))))))], wRS E a it th ln sz, wT E a 18 t (nI S) (tI 0) (tI 1) (tI 2) (tI 3), [(a 20, .inr (4, [.ref (a 18), .ref (a 21), .int (rI 0), .int (rI 1), .int (rI 2)]))], wH E a 21 (pF 0) (pF 1) (pF 2) (pF 3) (pF 4) (pF 5) (pF 6) (pF 7) (pF 8) (pI 0) (pI 1) (pI 2) (pI 3) (pI 4), wH E a 31 se sn be so lo he n1 n2 n3 (nI R) (nI K) (nI G) (nI 0) (nI 0), [(a 41, .inl (E.1.1 102, 2, .inr (.inr (.inr (.inr (imA a))))))], wH E a 42 (iF 0 0) (iF 0 1) (iF 0 2) (iF 0 3) (iF 0 4) (iF 0 5) (iF 0 6) (iF 0 7) (iF 0 8) (nI (iR 0)) (nI (iK 0)) (nI (iG 0)) (iu 0) (ig 0), wH E a 52 (iF 1 0) (iF 1 1) (iF 1 2) (iF 1 3) (iF 1 4) (iF 1 5) (iF 1 6) (iF 1 7) (iF 1 8) (nI (iR 1)) (nI (iK 1)) (nI (iG 1)) (iu 1) (ig 1), wA E a 62 kp (nI h) (nI x), wF E a 64 31 65 75 (uI 0) (uI 1) (uI 2), wH E a 65 (cF 0) (cF 1) (cF 2) (cF 3) (cF 4) (cF 5) (cF 6) (cF 7) (cF 8) (cI 0) (cI 1) (cI 2) (cI 3) (nI cg), [(a 75, iA E 5 fi), (a 76, iA E 5 sr)], wQ E a 77 31 s] [wH E a 31 se sn be so lo he n1 n2 n3 (nI R) (nI K) (nI G) (nI 0) (nI 0)] rfl (by decide) rfl rfl) rfl (Nat.le_of_ble_eq_true rfl) (by decide) (by decide) (by decide) rfl rfl (fun r w1 hpost => ?_)
  obtain ⟨rfl, rfl⟩ := hpost
  refine mr_w (wput_id (jn_cut [1, 1, 16, 2, 1, 10, 10, 1, 10, 10, 2, 1, 10, 2, 2] [6] [w0 E a fn fd, [(a 1, .inl (E.1.1 101, 8, .inr (.inr (.inr (.inr (rwA a))))))], wRS E a it th ln sz, wT E a 18 t (nI S) (tI 0) (tI 1) (tI 2) (tI 3), [(a 20, .inr (4, [.ref (a 18), .ref (a 21), .int (rI 0), .int (rI 1), .int (rI 2)]))], wH E a 21 (pF 0) (pF 1) (pF 2) (pF 3) (pF 4) (pF 5) (pF 6) (pF 7) (pF 8) (pI 0) (pI 1) (pI 2) (pI 3) (pI 4), wH E a 31 se sn be so lo he n1 n2 n3 (nI R) (nI K) (nI G) (nI 0) (nI 0), [(a 41, .inl (E.1.1 102, 2, .inr (.inr (.inr (.inr (imA a))))))], wH E a 42 (iF 0 0) (iF 0 1) (iF 0 2) (iF 0 3) (iF 0 4) (iF 0 5) (iF 0 6) (iF 0 7) (iF 0 8) (nI (iR 0)) (nI (iK 0)) (nI (iG 0)) (iu 0) (ig 0), wH E a 52 (iF 1 0) (iF 1 1) (iF 1 2) (iF 1 3) (iF 1 4) (iF 1 5) (iF 1 6) (iF 1 7) (iF 1 8) (nI (iR 1)) (nI (iK 1)) (nI (iG 1)) (iu 1) (ig 1), wA E a 62 kp (nI h) (nI x), wF E a 64 31 65 75 (uI 0) (uI 1) (uI 2), wH E a 65 (cF 0) (cF 1) (cF 2) (cF 3) (cF 4) (cF 5) (cF 6) (cF 7) (cF 8) (cI 0) (cI 1) (cI 2) (cI 3) (nI cg), [(a 75, iA E 5 fi), (a 76, iA E 5 sr)], wQ E a 77 31 s] [wH E a 31 se sn be so lo he n1 n2 n3 (nI R) (nI K) (nI G) (nI 0) (nI 0)] rfl (by decide) rfl rfl)) ?_
  refine mr_ifeq C 20 11 dX7_room_8 (by decide) rfl (fun c_8 => ?_) (fun c_8 => ?_)
  · rw [bI_eq] at c_8
    refine mr_ldc C 22 dX7_room_20 rfl kc_X7_70 ?_
    refine mr_iret C dX7_room_22 rfl rfl (by decide) (by decide) hlen ?_
    rw [hO]
    exact ⟨congrArg (fun z => some (Value.int z)) ((ifP_f (by omega)).symm), rfl⟩
  · rw [← Ne, bI_ne] at c_8
    refine mr_iload_n C 12 dX7_room_11 rfl rfl ?_
    refine mr_iflt C 20 15 dX7_room_12 (by decide) rfl (fun c_12 => ?_) (fun c_12 => ?_)
    · rw [tI_lt0] at c_12
      refine mr_ldc C 22 dX7_room_20 rfl kc_X7_70 ?_
      refine mr_iret C dX7_room_22 rfl rfl (by decide) (by decide) hlen ?_
      rw [hO]
      exact ⟨congrArg (fun z => some (Value.int z)) ((ifP_f (by omega)).symm), rfl⟩
    · rw [tI_lt0] at c_12
      refine mr_iload_n C 16 dX7_room_15 rfl rfl ?_
      refine mr_iconst C (nI 2) 17 dX7_room_16 rfl rfl ?_
      refine mr_icmple C 23 20 dX7_room_17 (by decide) rfl (fun c_17 => ?_) (fun c_17 => ?_)
      · rw [tI_le (by omega)] at c_17
        obtain ⟨r, hr, rfl⟩ := tI_of (x := r0) (n := R) (by omega) (by omega)
        have er : (nI r).toInt = (r : Int) := tI_n (by omega)
        have ir : iN (nI r) = r := iN_n (by omega)
        refine mr_iload_n C 24 dX7_room_23 rfl rfl ?_
        refine mr_ifne C 37 27 dX7_room_24 (by decide) rfl (fun c_24 => ?_) (fun c_24 => ?_)
        · rw [Ne, tI_eq0] at c_24
          refine mr_iload_n C 38 dX7_room_37 rfl rfl ?_
          refine mr_iconst C (nI 1) 39 dX7_room_38 rfl rfl ?_
          refine mr_icmpne C 53 42 dX7_room_39 (by decide) rfl (fun c_39 => ?_) (fun c_39 => ?_)
          · rw [Ne, tI_eq (by omega)] at c_39
            refine mr_aload_n C 54 dX7_room_53 rfl rfl ?_
            refine mr_get C 0 57 dX7_room_54 rfl fl_X7_34 rfl rfl ?_
            refine mr_get C 31 60 dX7_room_57 rfl fl_X7_201 rfl rfl ?_
            refine mr_iload_n C 61 dX7_room_60 rfl rfl ?_
            refine mr_iald C 33 r 62 dX7_room_61 rfl rfl rfl (by omega) (by decide) ?_
            refine mr_iret C dX7_room_62 rfl rfl (by decide) (by decide) hlen ?_
            rw [hO]
            exact ⟨congrArg (fun z => some (Value.int z)) (((ifP_t (by omega)).trans ((ifP_f (by omega)).trans ((ifP_f (by omega)).trans (by rw [ir])))).symm), rfl⟩
          · rw [tI_eq (by omega)] at c_39
            refine mr_aload_n C 43 dX7_room_42 rfl rfl ?_
            refine mr_get C 0 46 dX7_room_43 rfl fl_X7_34 rfl rfl ?_
            refine mr_iload_n C 47 dX7_room_46 rfl rfl ?_
            refine mr_callV C (c_headsIn E a 31 se sn be so lo he n1 n2 n3 (nI R) (nI G) (nI 0) (nI 0) K hK (nI r)) [31, 32, 33, 34, 35, 36, 37, 38, 39, 40] 31 3 50 dX7_room_47 rfl mk_X3_headsIn mi_X3_headsIn ml_X7_198 rfl rfl rfl (jn_cut [1, 1, 16, 2, 1, 10, 10, 1, 10, 10, 2, 1, 10, 2, 2] [6] [w0 E a fn fd, [(a 1, .inl (E.1.1 101, 8, .inr (.inr (.inr (.inr (rwA a))))))], wRS E a it th ln sz, wT E a 18 t (nI S) (tI 0) (tI 1) (tI 2) (tI 3), [(a 20, .inr (4, [.ref (a 18), .ref (a 21), .int (rI 0), .int (rI 1), .int (rI 2)]))], wH E a 21 (pF 0) (pF 1) (pF 2) (pF 3) (pF 4) (pF 5) (pF 6) (pF 7) (pF 8) (pI 0) (pI 1) (pI 2) (pI 3) (pI 4), wH E a 31 se sn be so lo he n1 n2 n3 (nI R) (nI K) (nI G) (nI 0) (nI 0), [(a 41, .inl (E.1.1 102, 2, .inr (.inr (.inr (.inr (imA a))))))], wH E a 42 (iF 0 0) (iF 0 1) (iF 0 2) (iF 0 3) (iF 0 4) (iF 0 5) (iF 0 6) (iF 0 7) (iF 0 8) (nI (iR 0)) (nI (iK 0)) (nI (iG 0)) (iu 0) (ig 0), wH E a 52 (iF 1 0) (iF 1 1) (iF 1 2) (iF 1 3) (iF 1 4) (iF 1 5) (iF 1 6) (iF 1 7) (iF 1 8) (nI (iR 1)) (nI (iK 1)) (nI (iG 1)) (iu 1) (ig 1), wA E a 62 kp (nI h) (nI x), wF E a 64 31 65 75 (uI 0) (uI 1) (uI 2), wH E a 65 (cF 0) (cF 1) (cF 2) (cF 3) (cF 4) (cF 5) (cF 6) (cF 7) (cF 8) (cI 0) (cI 1) (cI 2) (cI 3) (nI cg), [(a 75, iA E 5 fi), (a 76, iA E 5 sr)], wQ E a 77 31 s] [wH E a 31 se sn be so lo he n1 n2 n3 (nI R) (nI K) (nI G) (nI 0) (nI 0)] rfl (by decide) rfl rfl) rfl (Nat.le_of_ble_eq_true rfl) (by decide) (by decide) (by decide) rfl rfl (fun r w1 hpost => ?_)
            obtain ⟨rfl, rfl⟩ := hpost
            refine mr_w (wput_id (jn_cut [1, 1, 16, 2, 1, 10, 10, 1, 10, 10, 2, 1, 10, 2, 2] [6] [w0 E a fn fd, [(a 1, .inl (E.1.1 101, 8, .inr (.inr (.inr (.inr (rwA a))))))], wRS E a it th ln sz, wT E a 18 t (nI S) (tI 0) (tI 1) (tI 2) (tI 3), [(a 20, .inr (4, [.ref (a 18), .ref (a 21), .int (rI 0), .int (rI 1), .int (rI 2)]))], wH E a 21 (pF 0) (pF 1) (pF 2) (pF 3) (pF 4) (pF 5) (pF 6) (pF 7) (pF 8) (pI 0) (pI 1) (pI 2) (pI 3) (pI 4), wH E a 31 se sn be so lo he n1 n2 n3 (nI R) (nI K) (nI G) (nI 0) (nI 0), [(a 41, .inl (E.1.1 102, 2, .inr (.inr (.inr (.inr (imA a))))))], wH E a 42 (iF 0 0) (iF 0 1) (iF 0 2) (iF 0 3) (iF 0 4) (iF 0 5) (iF 0 6) (iF 0 7) (iF 0 8) (nI (iR 0)) (nI (iK 0)) (nI (iG 0)) (iu 0) (ig 0), wH E a 52 (iF 1 0) (iF 1 1) (iF 1 2) (iF 1 3) (iF 1 4) (iF 1 5) (iF 1 6) (iF 1 7) (iF 1 8) (nI (iR 1)) (nI (iK 1)) (nI (iG 1)) (iu 1) (ig 1), wA E a 62 kp (nI h) (nI x), wF E a 64 31 65 75 (uI 0) (uI 1) (uI 2), wH E a 65 (cF 0) (cF 1) (cF 2) (cF 3) (cF 4) (cF 5) (cF 6) (cF 7) (cF 8) (cI 0) (cI 1) (cI 2) (cI 3) (nI cg), [(a 75, iA E 5 fi), (a 76, iA E 5 sr)], wQ E a 77 31 s] [wH E a 31 se sn be so lo he n1 n2 n3 (nI R) (nI K) (nI G) (nI 0) (nI 0)] rfl (by decide) rfl rfl)) ?_
            refine mr_goto C 62 dX7_room_50 (by decide) ?_
            refine mr_iret C dX7_room_62 rfl rfl (by decide) (by decide) hlen ?_
            rw [hO]
            exact ⟨congrArg (fun z => some (Value.int z)) (((ifP_t (by omega)).trans ((ifP_f (by omega)).trans (ifP_t (by omega)))).symm), rfl⟩
        · rw [tI_eq0] at c_24
          refine mr_aload_n C 28 dX7_room_27 rfl rfl ?_
          refine mr_get C 0 31 dX7_room_28 rfl fl_X7_34 rfl rfl ?_
          refine mr_get C 31 34 dX7_room_31 rfl fl_X7_195 rfl rfl ?_
          refine mr_iload_n C 35 dX7_room_34 rfl rfl ?_
          refine mr_iald C 32 r 36 dX7_room_35 rfl rfl rfl (by omega) (by decide) ?_
          refine mr_iret C dX7_room_36 rfl rfl (by decide) (by decide) hlen ?_
          rw [hO]
          exact ⟨congrArg (fun z => some (Value.int z)) (((ifP_t (by omega)).trans ((ifP_t (by omega)).trans (by rw [ir]))).symm), rfl⟩
      · rw [tI_le (by omega)] at c_17
        refine mr_ldc C 22 dX7_room_20 rfl kc_X7_70 ?_
        refine mr_iret C dX7_room_22 rfl rfl (by decide) (by decide) hlen ?_
        rw [hO]
        exact ⟨congrArg (fun z => some (Value.int z)) ((ifP_f (by omega)).symm), rfl⟩

