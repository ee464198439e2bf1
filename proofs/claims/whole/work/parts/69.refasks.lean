/-! the reference: kinds, asks, traces, counts -/
set_option maxRecDepth 20000 in
set_option maxHeartbeats 4000000 in
theorem c_isOf_1_0 (E : EG)  : Ctr E mX8_isOf (0, 0, 0) [.int (nI 1), .int (nI 0)] ([]) (fun v w => v = some (.int (nI 1)) ∧ w = []) := by
  refine Ctr.of (by decide) (Nat.le_of_ble_eq_true rfl) ?_
  intro Z hO hn C
  have hlen : zn Z ≤ 0 := by rw [hn]; exact Nat.le_of_ble_eq_true rfl
  refine mr_iload_n C 1 dX8_isOf_0 rfl rfl ?_
  refine mr_ifeq C 29 4 dX8_isOf_1 (by decide) rfl (fun _ => ?_) (fun c_ => absurd (by decide) c_)
  refine mr_iconst C (nI 1) 30 dX8_isOf_29 rfl rfl ?_
  refine mr_goto C 34 dX8_isOf_30 (by decide) ?_
  refine mr_iret C dX8_isOf_34 rfl rfl (by decide) (by decide) hlen ?_
  rw [hO]
  exact ⟨rfl, rfl⟩

set_option maxRecDepth 20000 in
set_option maxHeartbeats 4000000 in
theorem c_isOf_1_1 (E : EG)  : Ctr E mX8_isOf (0, 0, 0) [.int (nI 1), .int (nI 1)] ([]) (fun v w => v = some (.int (nI 1)) ∧ w = []) := by
  refine Ctr.of (by decide) (Nat.le_of_ble_eq_true rfl) ?_
  intro Z hO hn C
  have hlen : zn Z ≤ 0 := by rw [hn]; exact Nat.le_of_ble_eq_true rfl
  refine mr_iload_n C 1 dX8_isOf_0 rfl rfl ?_
  refine mr_ifeq C 29 4 dX8_isOf_1 (by decide) rfl (fun c_ => absurd c_ (by decide)) (fun _ => ?_)
  refine mr_iload_n C 5 dX8_isOf_4 rfl rfl ?_
  refine mr_iload_n C 6 dX8_isOf_5 rfl rfl ?_
  refine mr_icmpeq C 29 9 dX8_isOf_6 (by decide) rfl (fun _ => ?_) (fun c_ => absurd (by decide) c_)
  refine mr_iconst C (nI 1) 30 dX8_isOf_29 rfl rfl ?_
  refine mr_goto C 34 dX8_isOf_30 (by decide) ?_
  refine mr_iret C dX8_isOf_34 rfl rfl (by decide) (by decide) hlen ?_
  rw [hO]
  exact ⟨rfl, rfl⟩

set_option maxRecDepth 20000 in
set_option maxHeartbeats 4000000 in
theorem c_isOf_1_2 (E : EG)  : Ctr E mX8_isOf (0, 0, 0) [.int (nI 1), .int (nI 2)] ([]) (fun v w => v = some (.int (nI 0)) ∧ w = []) := by
  refine Ctr.of (by decide) (Nat.le_of_ble_eq_true rfl) ?_
  intro Z hO hn C
  have hlen : zn Z ≤ 0 := by rw [hn]; exact Nat.le_of_ble_eq_true rfl
  refine mr_iload_n C 1 dX8_isOf_0 rfl rfl ?_
  refine mr_ifeq C 29 4 dX8_isOf_1 (by decide) rfl (fun c_ => absurd c_ (by decide)) (fun _ => ?_)
  refine mr_iload_n C 5 dX8_isOf_4 rfl rfl ?_
  refine mr_iload_n C 6 dX8_isOf_5 rfl rfl ?_
  refine mr_icmpeq C 29 9 dX8_isOf_6 (by decide) rfl (fun c_ => absurd c_ (by decide)) (fun _ => ?_)
  refine mr_iload_n C 10 dX8_isOf_9 rfl rfl ?_
  refine mr_iconst C (nI 1) 11 dX8_isOf_10 rfl rfl ?_
  refine mr_icmpne C 19 14 dX8_isOf_11 (by decide) rfl (fun _ => ?_) (fun c_ => absurd c_ (by decide))
  refine mr_iload_n C 20 dX8_isOf_19 rfl rfl ?_
  refine mr_iconst C (nI 4) 21 dX8_isOf_20 rfl rfl ?_
  refine mr_icmpne C 33 24 dX8_isOf_21 (by decide) rfl (fun _ => ?_) (fun c_ => absurd c_ (by decide))
  refine mr_iconst C (nI 0) 34 dX8_isOf_33 rfl rfl ?_
  refine mr_iret C dX8_isOf_34 rfl rfl (by decide) (by decide) hlen ?_
  rw [hO]
  exact ⟨rfl, rfl⟩

set_option maxRecDepth 20000 in
set_option maxHeartbeats 4000000 in
theorem c_isOf_1_3 (E : EG)  : Ctr E mX8_isOf (0, 0, 0) [.int (nI 1), .int (nI 3)] ([]) (fun v w => v = some (.int (nI 0)) ∧ w = []) := by
  refine Ctr.of (by decide) (Nat.le_of_ble_eq_true rfl) ?_
  intro Z hO hn C
  have hlen : zn Z ≤ 0 := by rw [hn]; exact Nat.le_of_ble_eq_true rfl
  refine mr_iload_n C 1 dX8_isOf_0 rfl rfl ?_
  refine mr_ifeq C 29 4 dX8_isOf_1 (by decide) rfl (fun c_ => absurd c_ (by decide)) (fun _ => ?_)
  refine mr_iload_n C 5 dX8_isOf_4 rfl rfl ?_
  refine mr_iload_n C 6 dX8_isOf_5 rfl rfl ?_
  refine mr_icmpeq C 29 9 dX8_isOf_6 (by decide) rfl (fun c_ => absurd c_ (by decide)) (fun _ => ?_)
  refine mr_iload_n C 10 dX8_isOf_9 rfl rfl ?_
  refine mr_iconst C (nI 1) 11 dX8_isOf_10 rfl rfl ?_
  refine mr_icmpne C 19 14 dX8_isOf_11 (by decide) rfl (fun _ => ?_) (fun c_ => absurd c_ (by decide))
  refine mr_iload_n C 20 dX8_isOf_19 rfl rfl ?_
  refine mr_iconst C (nI 4) 21 dX8_isOf_20 rfl rfl ?_
  refine mr_icmpne C 33 24 dX8_isOf_21 (by decide) rfl (fun _ => ?_) (fun c_ => absurd c_ (by decide))
  refine mr_iconst C (nI 0) 34 dX8_isOf_33 rfl rfl ?_
  refine mr_iret C dX8_isOf_34 rfl rfl (by decide) (by decide) hlen ?_
  rw [hO]
  exact ⟨rfl, rfl⟩

set_option maxRecDepth 20000 in
set_option maxHeartbeats 4000000 in
theorem c_isOf_1_4 (E : EG)  : Ctr E mX8_isOf (0, 0, 0) [.int (nI 1), .int (nI 4)] ([]) (fun v w => v = some (.int (nI 0)) ∧ w = []) := by
  refine Ctr.of (by decide) (Nat.le_of_ble_eq_true rfl) ?_
  intro Z hO hn C
  have hlen : zn Z ≤ 0 := by rw [hn]; exact Nat.le_of_ble_eq_true rfl
  refine mr_iload_n C 1 dX8_isOf_0 rfl rfl ?_
  refine mr_ifeq C 29 4 dX8_isOf_1 (by decide) rfl (fun c_ => absurd c_ (by decide)) (fun _ => ?_)
  refine mr_iload_n C 5 dX8_isOf_4 rfl rfl ?_
  refine mr_iload_n C 6 dX8_isOf_5 rfl rfl ?_
  refine mr_icmpeq C 29 9 dX8_isOf_6 (by decide) rfl (fun c_ => absurd c_ (by decide)) (fun _ => ?_)
  refine mr_iload_n C 10 dX8_isOf_9 rfl rfl ?_
  refine mr_iconst C (nI 1) 11 dX8_isOf_10 rfl rfl ?_
  refine mr_icmpne C 19 14 dX8_isOf_11 (by decide) rfl (fun _ => ?_) (fun c_ => absurd c_ (by decide))
  refine mr_iload_n C 20 dX8_isOf_19 rfl rfl ?_
  refine mr_iconst C (nI 4) 21 dX8_isOf_20 rfl rfl ?_
  refine mr_icmpne C 33 24 dX8_isOf_21 (by decide) rfl (fun c_ => absurd (by decide) c_) (fun _ => ?_)
  refine mr_iload_n C 25 dX8_isOf_24 rfl rfl ?_
  refine mr_iconst C (nI 5) 26 dX8_isOf_25 rfl rfl ?_
  refine mr_icmpne C 33 29 dX8_isOf_26 (by decide) rfl (fun _ => ?_) (fun c_ => absurd c_ (by decide))
  refine mr_iconst C (nI 0) 34 dX8_isOf_33 rfl rfl ?_
  refine mr_iret C dX8_isOf_34 rfl rfl (by decide) (by decide) hlen ?_
  rw [hO]
  exact ⟨rfl, rfl⟩

set_option maxRecDepth 20000 in
set_option maxHeartbeats 4000000 in
theorem c_isOf_1_5 (E : EG)  : Ctr E mX8_isOf (0, 0, 0) [.int (nI 1), .int (nI 5)] ([]) (fun v w => v = some (.int (nI 0)) ∧ w = []) := by
  refine Ctr.of (by decide) (Nat.le_of_ble_eq_true rfl) ?_
  intro Z hO hn C
  have hlen : zn Z ≤ 0 := by rw [hn]; exact Nat.le_of_ble_eq_true rfl
  refine mr_iload_n C 1 dX8_isOf_0 rfl rfl ?_
  refine mr_ifeq C 29 4 dX8_isOf_1 (by decide) rfl (fun c_ => absurd c_ (by decide)) (fun _ => ?_)
  refine mr_iload_n C 5 dX8_isOf_4 rfl rfl ?_
  refine mr_iload_n C 6 dX8_isOf_5 rfl rfl ?_
  refine mr_icmpeq C 29 9 dX8_isOf_6 (by decide) rfl (fun c_ => absurd c_ (by decide)) (fun _ => ?_)
  refine mr_iload_n C 10 dX8_isOf_9 rfl rfl ?_
  refine mr_iconst C (nI 1) 11 dX8_isOf_10 rfl rfl ?_
  refine mr_icmpne C 19 14 dX8_isOf_11 (by decide) rfl (fun _ => ?_) (fun c_ => absurd c_ (by decide))
  refine mr_iload_n C 20 dX8_isOf_19 rfl rfl ?_
  refine mr_iconst C (nI 4) 21 dX8_isOf_20 rfl rfl ?_
  refine mr_icmpne C 33 24 dX8_isOf_21 (by decide) rfl (fun _ => ?_) (fun c_ => absurd c_ (by decide))
  refine mr_iconst C (nI 0) 34 dX8_isOf_33 rfl rfl ?_
  refine mr_iret C dX8_isOf_34 rfl rfl (by decide) (by decide) hlen ?_
  rw [hO]
  exact ⟨rfl, rfl⟩

set_option maxRecDepth 20000 in
set_option maxHeartbeats 4000000 in
theorem c_isOf_2_0 (E : EG)  : Ctr E mX8_isOf (0, 0, 0) [.int (nI 2), .int (nI 0)] ([]) (fun v w => v = some (.int (nI 1)) ∧ w = []) := by
  refine Ctr.of (by decide) (Nat.le_of_ble_eq_true rfl) ?_
  intro Z hO hn C
  have hlen : zn Z ≤ 0 := by rw [hn]; exact Nat.le_of_ble_eq_true rfl
  refine mr_iload_n C 1 dX8_isOf_0 rfl rfl ?_
  refine mr_ifeq C 29 4 dX8_isOf_1 (by decide) rfl (fun _ => ?_) (fun c_ => absurd (by decide) c_)
  refine mr_iconst C (nI 1) 30 dX8_isOf_29 rfl rfl ?_
  refine mr_goto C 34 dX8_isOf_30 (by decide) ?_
  refine mr_iret C dX8_isOf_34 rfl rfl (by decide) (by decide) hlen ?_
  rw [hO]
  exact ⟨rfl, rfl⟩

set_option maxRecDepth 20000 in
set_option maxHeartbeats 4000000 in
theorem c_isOf_2_1 (E : EG)  : Ctr E mX8_isOf (0, 0, 0) [.int (nI 2), .int (nI 1)] ([]) (fun v w => v = some (.int (nI 1)) ∧ w = []) := by
  refine Ctr.of (by decide) (Nat.le_of_ble_eq_true rfl) ?_
  intro Z hO hn C
  have hlen : zn Z ≤ 0 := by rw [hn]; exact Nat.le_of_ble_eq_true rfl
  refine mr_iload_n C 1 dX8_isOf_0 rfl rfl ?_
  refine mr_ifeq C 29 4 dX8_isOf_1 (by decide) rfl (fun c_ => absurd c_ (by decide)) (fun _ => ?_)
  refine mr_iload_n C 5 dX8_isOf_4 rfl rfl ?_
  refine mr_iload_n C 6 dX8_isOf_5 rfl rfl ?_
  refine mr_icmpeq C 29 9 dX8_isOf_6 (by decide) rfl (fun c_ => absurd c_ (by decide)) (fun _ => ?_)
  refine mr_iload_n C 10 dX8_isOf_9 rfl rfl ?_
  refine mr_iconst C (nI 1) 11 dX8_isOf_10 rfl rfl ?_
  refine mr_icmpne C 19 14 dX8_isOf_11 (by decide) rfl (fun c_ => absurd (by decide) c_) (fun _ => ?_)
  refine mr_iload_n C 15 dX8_isOf_14 rfl rfl ?_
  refine mr_iconst C (nI 4) 16 dX8_isOf_15 rfl rfl ?_
  refine mr_icmplt C 29 19 dX8_isOf_16 (by decide) rfl (fun _ => ?_) (fun c_ => absurd (by decide) c_)
  refine mr_iconst C (nI 1) 30 dX8_isOf_29 rfl rfl ?_
  refine mr_goto C 34 dX8_isOf_30 (by decide) ?_
  refine mr_iret C dX8_isOf_34 rfl rfl (by decide) (by decide) hlen ?_
  rw [hO]
  exact ⟨rfl, rfl⟩

set_option maxRecDepth 20000 in
set_option maxHeartbeats 4000000 in
theorem c_isOf_2_2 (E : EG)  : Ctr E mX8_isOf (0, 0, 0) [.int (nI 2), .int (nI 2)] ([]) (fun v w => v = some (.int (nI 1)) ∧ w = []) := by
  refine Ctr.of (by decide) (Nat.le_of_ble_eq_true rfl) ?_
  intro Z hO hn C
  have hlen : zn Z ≤ 0 := by rw [hn]; exact Nat.le_of_ble_eq_true rfl
  refine mr_iload_n C 1 dX8_isOf_0 rfl rfl ?_
  refine mr_ifeq C 29 4 dX8_isOf_1 (by decide) rfl (fun c_ => absurd c_ (by decide)) (fun _ => ?_)
  refine mr_iload_n C 5 dX8_isOf_4 rfl rfl ?_
  refine mr_iload_n C 6 dX8_isOf_5 rfl rfl ?_
  refine mr_icmpeq C 29 9 dX8_isOf_6 (by decide) rfl (fun _ => ?_) (fun c_ => absurd (by decide) c_)
  refine mr_iconst C (nI 1) 30 dX8_isOf_29 rfl rfl ?_
  refine mr_goto C 34 dX8_isOf_30 (by decide) ?_
  refine mr_iret C dX8_isOf_34 rfl rfl (by decide) (by decide) hlen ?_
  rw [hO]
  exact ⟨rfl, rfl⟩

set_option maxRecDepth 20000 in
set_option maxHeartbeats 4000000 in
theorem c_isOf_2_3 (E : EG)  : Ctr E mX8_isOf (0, 0, 0) [.int (nI 2), .int (nI 3)] ([]) (fun v w => v = some (.int (nI 0)) ∧ w = []) := by
  refine Ctr.of (by decide) (Nat.le_of_ble_eq_true rfl) ?_
  intro Z hO hn C
  have hlen : zn Z ≤ 0 := by rw [hn]; exact Nat.le_of_ble_eq_true rfl
  refine mr_iload_n C 1 dX8_isOf_0 rfl rfl ?_
  refine mr_ifeq C 29 4 dX8_isOf_1 (by decide) rfl (fun c_ => absurd c_ (by decide)) (fun _ => ?_)
  refine mr_iload_n C 5 dX8_isOf_4 rfl rfl ?_
  refine mr_iload_n C 6 dX8_isOf_5 rfl rfl ?_
  refine mr_icmpeq C 29 9 dX8_isOf_6 (by decide) rfl (fun c_ => absurd c_ (by decide)) (fun _ => ?_)
  refine mr_iload_n C 10 dX8_isOf_9 rfl rfl ?_
  refine mr_iconst C (nI 1) 11 dX8_isOf_10 rfl rfl ?_
  refine mr_icmpne C 19 14 dX8_isOf_11 (by decide) rfl (fun _ => ?_) (fun c_ => absurd c_ (by decide))
  refine mr_iload_n C 20 dX8_isOf_19 rfl rfl ?_
  refine mr_iconst C (nI 4) 21 dX8_isOf_20 rfl rfl ?_
  refine mr_icmpne C 33 24 dX8_isOf_21 (by decide) rfl (fun _ => ?_) (fun c_ => absurd c_ (by decide))
  refine mr_iconst C (nI 0) 34 dX8_isOf_33 rfl rfl ?_
  refine mr_iret C dX8_isOf_34 rfl rfl (by decide) (by decide) hlen ?_
  rw [hO]
  exact ⟨rfl, rfl⟩

set_option maxRecDepth 20000 in
set_option maxHeartbeats 4000000 in
theorem c_isOf_2_4 (E : EG)  : Ctr E mX8_isOf (0, 0, 0) [.int (nI 2), .int (nI 4)] ([]) (fun v w => v = some (.int (nI 0)) ∧ w = []) := by
  refine Ctr.of (by decide) (Nat.le_of_ble_eq_true rfl) ?_
  intro Z hO hn C
  have hlen : zn Z ≤ 0 := by rw [hn]; exact Nat.le_of_ble_eq_true rfl
  refine mr_iload_n C 1 dX8_isOf_0 rfl rfl ?_
  refine mr_ifeq C 29 4 dX8_isOf_1 (by decide) rfl (fun c_ => absurd c_ (by decide)) (fun _ => ?_)
  refine mr_iload_n C 5 dX8_isOf_4 rfl rfl ?_
  refine mr_iload_n C 6 dX8_isOf_5 rfl rfl ?_
  refine mr_icmpeq C 29 9 dX8_isOf_6 (by decide) rfl (fun c_ => absurd c_ (by decide)) (fun _ => ?_)
  refine mr_iload_n C 10 dX8_isOf_9 rfl rfl ?_
  refine mr_iconst C (nI 1) 11 dX8_isOf_10 rfl rfl ?_
  refine mr_icmpne C 19 14 dX8_isOf_11 (by decide) rfl (fun _ => ?_) (fun c_ => absurd c_ (by decide))
  refine mr_iload_n C 20 dX8_isOf_19 rfl rfl ?_
  refine mr_iconst C (nI 4) 21 dX8_isOf_20 rfl rfl ?_
  refine mr_icmpne C 33 24 dX8_isOf_21 (by decide) rfl (fun c_ => absurd (by decide) c_) (fun _ => ?_)
  refine mr_iload_n C 25 dX8_isOf_24 rfl rfl ?_
  refine mr_iconst C (nI 5) 26 dX8_isOf_25 rfl rfl ?_
  refine mr_icmpne C 33 29 dX8_isOf_26 (by decide) rfl (fun _ => ?_) (fun c_ => absurd c_ (by decide))
  refine mr_iconst C (nI 0) 34 dX8_isOf_33 rfl rfl ?_
  refine mr_iret C dX8_isOf_34 rfl rfl (by decide) (by decide) hlen ?_
  rw [hO]
  exact ⟨rfl, rfl⟩

set_option maxRecDepth 20000 in
set_option maxHeartbeats 4000000 in
theorem c_isOf_2_5 (E : EG)  : Ctr E mX8_isOf (0, 0, 0) [.int (nI 2), .int (nI 5)] ([]) (fun v w => v = some (.int (nI 0)) ∧ w = []) := by
  refine Ctr.of (by decide) (Nat.le_of_ble_eq_true rfl) ?_
  intro Z hO hn C
  have hlen : zn Z ≤ 0 := by rw [hn]; exact Nat.le_of_ble_eq_true rfl
  refine mr_iload_n C 1 dX8_isOf_0 rfl rfl ?_
  refine mr_ifeq C 29 4 dX8_isOf_1 (by decide) rfl (fun c_ => absurd c_ (by decide)) (fun _ => ?_)
  refine mr_iload_n C 5 dX8_isOf_4 rfl rfl ?_
  refine mr_iload_n C 6 dX8_isOf_5 rfl rfl ?_
  refine mr_icmpeq C 29 9 dX8_isOf_6 (by decide) rfl (fun c_ => absurd c_ (by decide)) (fun _ => ?_)
  refine mr_iload_n C 10 dX8_isOf_9 rfl rfl ?_
  refine mr_iconst C (nI 1) 11 dX8_isOf_10 rfl rfl ?_
  refine mr_icmpne C 19 14 dX8_isOf_11 (by decide) rfl (fun _ => ?_) (fun c_ => absurd c_ (by decide))
  refine mr_iload_n C 20 dX8_isOf_19 rfl rfl ?_
  refine mr_iconst C (nI 4) 21 dX8_isOf_20 rfl rfl ?_
  refine mr_icmpne C 33 24 dX8_isOf_21 (by decide) rfl (fun _ => ?_) (fun c_ => absurd c_ (by decide))
  refine mr_iconst C (nI 0) 34 dX8_isOf_33 rfl rfl ?_
  refine mr_iret C dX8_isOf_34 rfl rfl (by decide) (by decide) hlen ?_
  rw [hO]
  exact ⟨rfl, rfl⟩

set_option maxRecDepth 20000 in
set_option maxHeartbeats 4000000 in
theorem c_isOf_3_0 (E : EG)  : Ctr E mX8_isOf (0, 0, 0) [.int (nI 3), .int (nI 0)] ([]) (fun v w => v = some (.int (nI 1)) ∧ w = []) := by
  refine Ctr.of (by decide) (Nat.le_of_ble_eq_true rfl) ?_
  intro Z hO hn C
  have hlen : zn Z ≤ 0 := by rw [hn]; exact Nat.le_of_ble_eq_true rfl
  refine mr_iload_n C 1 dX8_isOf_0 rfl rfl ?_
  refine mr_ifeq C 29 4 dX8_isOf_1 (by decide) rfl (fun _ => ?_) (fun c_ => absurd (by decide) c_)
  refine mr_iconst C (nI 1) 30 dX8_isOf_29 rfl rfl ?_
  refine mr_goto C 34 dX8_isOf_30 (by decide) ?_
  refine mr_iret C dX8_isOf_34 rfl rfl (by decide) (by decide) hlen ?_
  rw [hO]
  exact ⟨rfl, rfl⟩

set_option maxRecDepth 20000 in
set_option maxHeartbeats 4000000 in
theorem c_isOf_3_1 (E : EG)  : Ctr E mX8_isOf (0, 0, 0) [.int (nI 3), .int (nI 1)] ([]) (fun v w => v = some (.int (nI 1)) ∧ w = []) := by
  refine Ctr.of (by decide) (Nat.le_of_ble_eq_true rfl) ?_
  intro Z hO hn C
  have hlen : zn Z ≤ 0 := by rw [hn]; exact Nat.le_of_ble_eq_true rfl
  refine mr_iload_n C 1 dX8_isOf_0 rfl rfl ?_
  refine mr_ifeq C 29 4 dX8_isOf_1 (by decide) rfl (fun c_ => absurd c_ (by decide)) (fun _ => ?_)
  refine mr_iload_n C 5 dX8_isOf_4 rfl rfl ?_
  refine mr_iload_n C 6 dX8_isOf_5 rfl rfl ?_
  refine mr_icmpeq C 29 9 dX8_isOf_6 (by decide) rfl (fun c_ => absurd c_ (by decide)) (fun _ => ?_)
  refine mr_iload_n C 10 dX8_isOf_9 rfl rfl ?_
  refine mr_iconst C (nI 1) 11 dX8_isOf_10 rfl rfl ?_
  refine mr_icmpne C 19 14 dX8_isOf_11 (by decide) rfl (fun c_ => absurd (by decide) c_) (fun _ => ?_)
  refine mr_iload_n C 15 dX8_isOf_14 rfl rfl ?_
  refine mr_iconst C (nI 4) 16 dX8_isOf_15 rfl rfl ?_
  refine mr_icmplt C 29 19 dX8_isOf_16 (by decide) rfl (fun _ => ?_) (fun c_ => absurd (by decide) c_)
  refine mr_iconst C (nI 1) 30 dX8_isOf_29 rfl rfl ?_
  refine mr_goto C 34 dX8_isOf_30 (by decide) ?_
  refine mr_iret C dX8_isOf_34 rfl rfl (by decide) (by decide) hlen ?_
  rw [hO]
  exact ⟨rfl, rfl⟩

set_option maxRecDepth 20000 in
set_option maxHeartbeats 4000000 in
theorem c_isOf_3_2 (E : EG)  : Ctr E mX8_isOf (0, 0, 0) [.int (nI 3), .int (nI 2)] ([]) (fun v w => v = some (.int (nI 0)) ∧ w = []) := by
  refine Ctr.of (by decide) (Nat.le_of_ble_eq_true rfl) ?_
  intro Z hO hn C
  have hlen : zn Z ≤ 0 := by rw [hn]; exact Nat.le_of_ble_eq_true rfl
  refine mr_iload_n C 1 dX8_isOf_0 rfl rfl ?_
  refine mr_ifeq C 29 4 dX8_isOf_1 (by decide) rfl (fun c_ => absurd c_ (by decide)) (fun _ => ?_)
  refine mr_iload_n C 5 dX8_isOf_4 rfl rfl ?_
  refine mr_iload_n C 6 dX8_isOf_5 rfl rfl ?_
  refine mr_icmpeq C 29 9 dX8_isOf_6 (by decide) rfl (fun c_ => absurd c_ (by decide)) (fun _ => ?_)
  refine mr_iload_n C 10 dX8_isOf_9 rfl rfl ?_
  refine mr_iconst C (nI 1) 11 dX8_isOf_10 rfl rfl ?_
  refine mr_icmpne C 19 14 dX8_isOf_11 (by decide) rfl (fun _ => ?_) (fun c_ => absurd c_ (by decide))
  refine mr_iload_n C 20 dX8_isOf_19 rfl rfl ?_
  refine mr_iconst C (nI 4) 21 dX8_isOf_20 rfl rfl ?_
  refine mr_icmpne C 33 24 dX8_isOf_21 (by decide) rfl (fun _ => ?_) (fun c_ => absurd c_ (by decide))
  refine mr_iconst C (nI 0) 34 dX8_isOf_33 rfl rfl ?_
  refine mr_iret C dX8_isOf_34 rfl rfl (by decide) (by decide) hlen ?_
  rw [hO]
  exact ⟨rfl, rfl⟩

set_option maxRecDepth 20000 in
set_option maxHeartbeats 4000000 in
theorem c_isOf_3_3 (E : EG)  : Ctr E mX8_isOf (0, 0, 0) [.int (nI 3), .int (nI 3)] ([]) (fun v w => v = some (.int (nI 1)) ∧ w = []) := by
  refine Ctr.of (by decide) (Nat.le_of_ble_eq_true rfl) ?_
  intro Z hO hn C
  have hlen : zn Z ≤ 0 := by rw [hn]; exact Nat.le_of_ble_eq_true rfl
  refine mr_iload_n C 1 dX8_isOf_0 rfl rfl ?_
  refine mr_ifeq C 29 4 dX8_isOf_1 (by decide) rfl (fun c_ => absurd c_ (by decide)) (fun _ => ?_)
  refine mr_iload_n C 5 dX8_isOf_4 rfl rfl ?_
  refine mr_iload_n C 6 dX8_isOf_5 rfl rfl ?_
  refine mr_icmpeq C 29 9 dX8_isOf_6 (by decide) rfl (fun _ => ?_) (fun c_ => absurd (by decide) c_)
  refine mr_iconst C (nI 1) 30 dX8_isOf_29 rfl rfl ?_
  refine mr_goto C 34 dX8_isOf_30 (by decide) ?_
  refine mr_iret C dX8_isOf_34 rfl rfl (by decide) (by decide) hlen ?_
  rw [hO]
  exact ⟨rfl, rfl⟩

set_option maxRecDepth 20000 in
set_option maxHeartbeats 4000000 in
theorem c_isOf_3_4 (E : EG)  : Ctr E mX8_isOf (0, 0, 0) [.int (nI 3), .int (nI 4)] ([]) (fun v w => v = some (.int (nI 0)) ∧ w = []) := by
  refine Ctr.of (by decide) (Nat.le_of_ble_eq_true rfl) ?_
  intro Z hO hn C
  have hlen : zn Z ≤ 0 := by rw [hn]; exact Nat.le_of_ble_eq_true rfl
  refine mr_iload_n C 1 dX8_isOf_0 rfl rfl ?_
  refine mr_ifeq C 29 4 dX8_isOf_1 (by decide) rfl (fun c_ => absurd c_ (by decide)) (fun _ => ?_)
  refine mr_iload_n C 5 dX8_isOf_4 rfl rfl ?_
  refine mr_iload_n C 6 dX8_isOf_5 rfl rfl ?_
  refine mr_icmpeq C 29 9 dX8_isOf_6 (by decide) rfl (fun c_ => absurd c_ (by decide)) (fun _ => ?_)
  refine mr_iload_n C 10 dX8_isOf_9 rfl rfl ?_
  refine mr_iconst C (nI 1) 11 dX8_isOf_10 rfl rfl ?_
  refine mr_icmpne C 19 14 dX8_isOf_11 (by decide) rfl (fun _ => ?_) (fun c_ => absurd c_ (by decide))
  refine mr_iload_n C 20 dX8_isOf_19 rfl rfl ?_
  refine mr_iconst C (nI 4) 21 dX8_isOf_20 rfl rfl ?_
  refine mr_icmpne C 33 24 dX8_isOf_21 (by decide) rfl (fun c_ => absurd (by decide) c_) (fun _ => ?_)
  refine mr_iload_n C 25 dX8_isOf_24 rfl rfl ?_
  refine mr_iconst C (nI 5) 26 dX8_isOf_25 rfl rfl ?_
  refine mr_icmpne C 33 29 dX8_isOf_26 (by decide) rfl (fun _ => ?_) (fun c_ => absurd c_ (by decide))
  refine mr_iconst C (nI 0) 34 dX8_isOf_33 rfl rfl ?_
  refine mr_iret C dX8_isOf_34 rfl rfl (by decide) (by decide) hlen ?_
  rw [hO]
  exact ⟨rfl, rfl⟩

set_option maxRecDepth 20000 in
set_option maxHeartbeats 4000000 in
theorem c_isOf_3_5 (E : EG)  : Ctr E mX8_isOf (0, 0, 0) [.int (nI 3), .int (nI 5)] ([]) (fun v w => v = some (.int (nI 0)) ∧ w = []) := by
  refine Ctr.of (by decide) (Nat.le_of_ble_eq_true rfl) ?_
  intro Z hO hn C
  have hlen : zn Z ≤ 0 := by rw [hn]; exact Nat.le_of_ble_eq_true rfl
  refine mr_iload_n C 1 dX8_isOf_0 rfl rfl ?_
  refine mr_ifeq C 29 4 dX8_isOf_1 (by decide) rfl (fun c_ => absurd c_ (by decide)) (fun _ => ?_)
  refine mr_iload_n C 5 dX8_isOf_4 rfl rfl ?_
  refine mr_iload_n C 6 dX8_isOf_5 rfl rfl ?_
  refine mr_icmpeq C 29 9 dX8_isOf_6 (by decide) rfl (fun c_ => absurd c_ (by decide)) (fun _ => ?_)
  refine mr_iload_n C 10 dX8_isOf_9 rfl rfl ?_
  refine mr_iconst C (nI 1) 11 dX8_isOf_10 rfl rfl ?_
  refine mr_icmpne C 19 14 dX8_isOf_11 (by decide) rfl (fun _ => ?_) (fun c_ => absurd c_ (by decide))
  refine mr_iload_n C 20 dX8_isOf_19 rfl rfl ?_
  refine mr_iconst C (nI 4) 21 dX8_isOf_20 rfl rfl ?_
  refine mr_icmpne C 33 24 dX8_isOf_21 (by decide) rfl (fun _ => ?_) (fun c_ => absurd c_ (by decide))
  refine mr_iconst C (nI 0) 34 dX8_isOf_33 rfl rfl ?_
  refine mr_iret C dX8_isOf_34 rfl rfl (by decide) (by decide) hlen ?_
  rw [hO]
  exact ⟨rfl, rfl⟩

set_option maxRecDepth 20000 in
set_option maxHeartbeats 4000000 in
theorem c_isOf_4_0 (E : EG)  : Ctr E mX8_isOf (0, 0, 0) [.int (nI 4), .int (nI 0)] ([]) (fun v w => v = some (.int (nI 1)) ∧ w = []) := by
  refine Ctr.of (by decide) (Nat.le_of_ble_eq_true rfl) ?_
  intro Z hO hn C
  have hlen : zn Z ≤ 0 := by rw [hn]; exact Nat.le_of_ble_eq_true rfl
  refine mr_iload_n C 1 dX8_isOf_0 rfl rfl ?_
  refine mr_ifeq C 29 4 dX8_isOf_1 (by decide) rfl (fun _ => ?_) (fun c_ => absurd (by decide) c_)
  refine mr_iconst C (nI 1) 30 dX8_isOf_29 rfl rfl ?_
  refine mr_goto C 34 dX8_isOf_30 (by decide) ?_
  refine mr_iret C dX8_isOf_34 rfl rfl (by decide) (by decide) hlen ?_
  rw [hO]
  exact ⟨rfl, rfl⟩

set_option maxRecDepth 20000 in
set_option maxHeartbeats 4000000 in
theorem c_isOf_4_1 (E : EG)  : Ctr E mX8_isOf (0, 0, 0) [.int (nI 4), .int (nI 1)] ([]) (fun v w => v = some (.int (nI 0)) ∧ w = []) := by
  refine Ctr.of (by decide) (Nat.le_of_ble_eq_true rfl) ?_
  intro Z hO hn C
  have hlen : zn Z ≤ 0 := by rw [hn]; exact Nat.le_of_ble_eq_true rfl
  refine mr_iload_n C 1 dX8_isOf_0 rfl rfl ?_
  refine mr_ifeq C 29 4 dX8_isOf_1 (by decide) rfl (fun c_ => absurd c_ (by decide)) (fun _ => ?_)
  refine mr_iload_n C 5 dX8_isOf_4 rfl rfl ?_
  refine mr_iload_n C 6 dX8_isOf_5 rfl rfl ?_
  refine mr_icmpeq C 29 9 dX8_isOf_6 (by decide) rfl (fun c_ => absurd c_ (by decide)) (fun _ => ?_)
  refine mr_iload_n C 10 dX8_isOf_9 rfl rfl ?_
  refine mr_iconst C (nI 1) 11 dX8_isOf_10 rfl rfl ?_
  refine mr_icmpne C 19 14 dX8_isOf_11 (by decide) rfl (fun c_ => absurd (by decide) c_) (fun _ => ?_)
  refine mr_iload_n C 15 dX8_isOf_14 rfl rfl ?_
  refine mr_iconst C (nI 4) 16 dX8_isOf_15 rfl rfl ?_
  refine mr_icmplt C 29 19 dX8_isOf_16 (by decide) rfl (fun c_ => absurd c_ (by decide)) (fun _ => ?_)
  refine mr_iload_n C 20 dX8_isOf_19 rfl rfl ?_
  refine mr_iconst C (nI 4) 21 dX8_isOf_20 rfl rfl ?_
  refine mr_icmpne C 33 24 dX8_isOf_21 (by decide) rfl (fun _ => ?_) (fun c_ => absurd c_ (by decide))
  refine mr_iconst C (nI 0) 34 dX8_isOf_33 rfl rfl ?_
  refine mr_iret C dX8_isOf_34 rfl rfl (by decide) (by decide) hlen ?_
  rw [hO]
  exact ⟨rfl, rfl⟩

set_option maxRecDepth 20000 in
set_option maxHeartbeats 4000000 in
theorem c_isOf_4_2 (E : EG)  : Ctr E mX8_isOf (0, 0, 0) [.int (nI 4), .int (nI 2)] ([]) (fun v w => v = some (.int (nI 0)) ∧ w = []) := by
  refine Ctr.of (by decide) (Nat.le_of_ble_eq_true rfl) ?_
  intro Z hO hn C
  have hlen : zn Z ≤ 0 := by rw [hn]; exact Nat.le_of_ble_eq_true rfl
  refine mr_iload_n C 1 dX8_isOf_0 rfl rfl ?_
  refine mr_ifeq C 29 4 dX8_isOf_1 (by decide) rfl (fun c_ => absurd c_ (by decide)) (fun _ => ?_)
  refine mr_iload_n C 5 dX8_isOf_4 rfl rfl ?_
  refine mr_iload_n C 6 dX8_isOf_5 rfl rfl ?_
  refine mr_icmpeq C 29 9 dX8_isOf_6 (by decide) rfl (fun c_ => absurd c_ (by decide)) (fun _ => ?_)
  refine mr_iload_n C 10 dX8_isOf_9 rfl rfl ?_
  refine mr_iconst C (nI 1) 11 dX8_isOf_10 rfl rfl ?_
  refine mr_icmpne C 19 14 dX8_isOf_11 (by decide) rfl (fun _ => ?_) (fun c_ => absurd c_ (by decide))
  refine mr_iload_n C 20 dX8_isOf_19 rfl rfl ?_
  refine mr_iconst C (nI 4) 21 dX8_isOf_20 rfl rfl ?_
  refine mr_icmpne C 33 24 dX8_isOf_21 (by decide) rfl (fun _ => ?_) (fun c_ => absurd c_ (by decide))
  refine mr_iconst C (nI 0) 34 dX8_isOf_33 rfl rfl ?_
  refine mr_iret C dX8_isOf_34 rfl rfl (by decide) (by decide) hlen ?_
  rw [hO]
  exact ⟨rfl, rfl⟩

set_option maxRecDepth 20000 in
set_option maxHeartbeats 4000000 in
theorem c_isOf_4_3 (E : EG)  : Ctr E mX8_isOf (0, 0, 0) [.int (nI 4), .int (nI 3)] ([]) (fun v w => v = some (.int (nI 0)) ∧ w = []) := by
  refine Ctr.of (by decide) (Nat.le_of_ble_eq_true rfl) ?_
  intro Z hO hn C
  have hlen : zn Z ≤ 0 := by rw [hn]; exact Nat.le_of_ble_eq_true rfl
  refine mr_iload_n C 1 dX8_isOf_0 rfl rfl ?_
  refine mr_ifeq C 29 4 dX8_isOf_1 (by decide) rfl (fun c_ => absurd c_ (by decide)) (fun _ => ?_)
  refine mr_iload_n C 5 dX8_isOf_4 rfl rfl ?_
  refine mr_iload_n C 6 dX8_isOf_5 rfl rfl ?_
  refine mr_icmpeq C 29 9 dX8_isOf_6 (by decide) rfl (fun c_ => absurd c_ (by decide)) (fun _ => ?_)
  refine mr_iload_n C 10 dX8_isOf_9 rfl rfl ?_
  refine mr_iconst C (nI 1) 11 dX8_isOf_10 rfl rfl ?_
  refine mr_icmpne C 19 14 dX8_isOf_11 (by decide) rfl (fun _ => ?_) (fun c_ => absurd c_ (by decide))
  refine mr_iload_n C 20 dX8_isOf_19 rfl rfl ?_
  refine mr_iconst C (nI 4) 21 dX8_isOf_20 rfl rfl ?_
  refine mr_icmpne C 33 24 dX8_isOf_21 (by decide) rfl (fun _ => ?_) (fun c_ => absurd c_ (by decide))
  refine mr_iconst C (nI 0) 34 dX8_isOf_33 rfl rfl ?_
  refine mr_iret C dX8_isOf_34 rfl rfl (by decide) (by decide) hlen ?_
  rw [hO]
  exact ⟨rfl, rfl⟩

set_option maxRecDepth 20000 in
set_option maxHeartbeats 4000000 in
theorem c_isOf_4_4 (E : EG)  : Ctr E mX8_isOf (0, 0, 0) [.int (nI 4), .int (nI 4)] ([]) (fun v w => v = some (.int (nI 1)) ∧ w = []) := by
  refine Ctr.of (by decide) (Nat.le_of_ble_eq_true rfl) ?_
  intro Z hO hn C
  have hlen : zn Z ≤ 0 := by rw [hn]; exact Nat.le_of_ble_eq_true rfl
  refine mr_iload_n C 1 dX8_isOf_0 rfl rfl ?_
  refine mr_ifeq C 29 4 dX8_isOf_1 (by decide) rfl (fun c_ => absurd c_ (by decide)) (fun _ => ?_)
  refine mr_iload_n C 5 dX8_isOf_4 rfl rfl ?_
  refine mr_iload_n C 6 dX8_isOf_5 rfl rfl ?_
  refine mr_icmpeq C 29 9 dX8_isOf_6 (by decide) rfl (fun _ => ?_) (fun c_ => absurd (by decide) c_)
  refine mr_iconst C (nI 1) 30 dX8_isOf_29 rfl rfl ?_
  refine mr_goto C 34 dX8_isOf_30 (by decide) ?_
  refine mr_iret C dX8_isOf_34 rfl rfl (by decide) (by decide) hlen ?_
  rw [hO]
  exact ⟨rfl, rfl⟩

set_option maxRecDepth 20000 in
set_option maxHeartbeats 4000000 in
theorem c_isOf_4_5 (E : EG)  : Ctr E mX8_isOf (0, 0, 0) [.int (nI 4), .int (nI 5)] ([]) (fun v w => v = some (.int (nI 0)) ∧ w = []) := by
  refine Ctr.of (by decide) (Nat.le_of_ble_eq_true rfl) ?_
  intro Z hO hn C
  have hlen : zn Z ≤ 0 := by rw [hn]; exact Nat.le_of_ble_eq_true rfl
  refine mr_iload_n C 1 dX8_isOf_0 rfl rfl ?_
  refine mr_ifeq C 29 4 dX8_isOf_1 (by decide) rfl (fun c_ => absurd c_ (by decide)) (fun _ => ?_)
  refine mr_iload_n C 5 dX8_isOf_4 rfl rfl ?_
  refine mr_iload_n C 6 dX8_isOf_5 rfl rfl ?_
  refine mr_icmpeq C 29 9 dX8_isOf_6 (by decide) rfl (fun c_ => absurd c_ (by decide)) (fun _ => ?_)
  refine mr_iload_n C 10 dX8_isOf_9 rfl rfl ?_
  refine mr_iconst C (nI 1) 11 dX8_isOf_10 rfl rfl ?_
  refine mr_icmpne C 19 14 dX8_isOf_11 (by decide) rfl (fun _ => ?_) (fun c_ => absurd c_ (by decide))
  refine mr_iload_n C 20 dX8_isOf_19 rfl rfl ?_
  refine mr_iconst C (nI 4) 21 dX8_isOf_20 rfl rfl ?_
  refine mr_icmpne C 33 24 dX8_isOf_21 (by decide) rfl (fun _ => ?_) (fun c_ => absurd c_ (by decide))
  refine mr_iconst C (nI 0) 34 dX8_isOf_33 rfl rfl ?_
  refine mr_iret C dX8_isOf_34 rfl rfl (by decide) (by decide) hlen ?_
  rw [hO]
  exact ⟨rfl, rfl⟩

set_option maxRecDepth 20000 in
set_option maxHeartbeats 4000000 in
theorem c_isOf_5_0 (E : EG)  : Ctr E mX8_isOf (0, 0, 0) [.int (nI 5), .int (nI 0)] ([]) (fun v w => v = some (.int (nI 1)) ∧ w = []) := by
  refine Ctr.of (by decide) (Nat.le_of_ble_eq_true rfl) ?_
  intro Z hO hn C
  have hlen : zn Z ≤ 0 := by rw [hn]; exact Nat.le_of_ble_eq_true rfl
  refine mr_iload_n C 1 dX8_isOf_0 rfl rfl ?_
  refine mr_ifeq C 29 4 dX8_isOf_1 (by decide) rfl (fun _ => ?_) (fun c_ => absurd (by decide) c_)
  refine mr_iconst C (nI 1) 30 dX8_isOf_29 rfl rfl ?_
  refine mr_goto C 34 dX8_isOf_30 (by decide) ?_
  refine mr_iret C dX8_isOf_34 rfl rfl (by decide) (by decide) hlen ?_
  rw [hO]
  exact ⟨rfl, rfl⟩

set_option maxRecDepth 20000 in
set_option maxHeartbeats 4000000 in
theorem c_isOf_5_1 (E : EG)  : Ctr E mX8_isOf (0, 0, 0) [.int (nI 5), .int (nI 1)] ([]) (fun v w => v = some (.int (nI 0)) ∧ w = []) := by
  refine Ctr.of (by decide) (Nat.le_of_ble_eq_true rfl) ?_
  intro Z hO hn C
  have hlen : zn Z ≤ 0 := by rw [hn]; exact Nat.le_of_ble_eq_true rfl
  refine mr_iload_n C 1 dX8_isOf_0 rfl rfl ?_
  refine mr_ifeq C 29 4 dX8_isOf_1 (by decide) rfl (fun c_ => absurd c_ (by decide)) (fun _ => ?_)
  refine mr_iload_n C 5 dX8_isOf_4 rfl rfl ?_
  refine mr_iload_n C 6 dX8_isOf_5 rfl rfl ?_
  refine mr_icmpeq C 29 9 dX8_isOf_6 (by decide) rfl (fun c_ => absurd c_ (by decide)) (fun _ => ?_)
  refine mr_iload_n C 10 dX8_isOf_9 rfl rfl ?_
  refine mr_iconst C (nI 1) 11 dX8_isOf_10 rfl rfl ?_
  refine mr_icmpne C 19 14 dX8_isOf_11 (by decide) rfl (fun c_ => absurd (by decide) c_) (fun _ => ?_)
  refine mr_iload_n C 15 dX8_isOf_14 rfl rfl ?_
  refine mr_iconst C (nI 4) 16 dX8_isOf_15 rfl rfl ?_
  refine mr_icmplt C 29 19 dX8_isOf_16 (by decide) rfl (fun c_ => absurd c_ (by decide)) (fun _ => ?_)
  refine mr_iload_n C 20 dX8_isOf_19 rfl rfl ?_
  refine mr_iconst C (nI 4) 21 dX8_isOf_20 rfl rfl ?_
  refine mr_icmpne C 33 24 dX8_isOf_21 (by decide) rfl (fun _ => ?_) (fun c_ => absurd c_ (by decide))
  refine mr_iconst C (nI 0) 34 dX8_isOf_33 rfl rfl ?_
  refine mr_iret C dX8_isOf_34 rfl rfl (by decide) (by decide) hlen ?_
  rw [hO]
  exact ⟨rfl, rfl⟩

set_option maxRecDepth 20000 in
set_option maxHeartbeats 4000000 in
theorem c_isOf_5_2 (E : EG)  : Ctr E mX8_isOf (0, 0, 0) [.int (nI 5), .int (nI 2)] ([]) (fun v w => v = some (.int (nI 0)) ∧ w = []) := by
  refine Ctr.of (by decide) (Nat.le_of_ble_eq_true rfl) ?_
  intro Z hO hn C
  have hlen : zn Z ≤ 0 := by rw [hn]; exact Nat.le_of_ble_eq_true rfl
  refine mr_iload_n C 1 dX8_isOf_0 rfl rfl ?_
  refine mr_ifeq C 29 4 dX8_isOf_1 (by decide) rfl (fun c_ => absurd c_ (by decide)) (fun _ => ?_)
  refine mr_iload_n C 5 dX8_isOf_4 rfl rfl ?_
  refine mr_iload_n C 6 dX8_isOf_5 rfl rfl ?_
  refine mr_icmpeq C 29 9 dX8_isOf_6 (by decide) rfl (fun c_ => absurd c_ (by decide)) (fun _ => ?_)
  refine mr_iload_n C 10 dX8_isOf_9 rfl rfl ?_
  refine mr_iconst C (nI 1) 11 dX8_isOf_10 rfl rfl ?_
  refine mr_icmpne C 19 14 dX8_isOf_11 (by decide) rfl (fun _ => ?_) (fun c_ => absurd c_ (by decide))
  refine mr_iload_n C 20 dX8_isOf_19 rfl rfl ?_
  refine mr_iconst C (nI 4) 21 dX8_isOf_20 rfl rfl ?_
  refine mr_icmpne C 33 24 dX8_isOf_21 (by decide) rfl (fun _ => ?_) (fun c_ => absurd c_ (by decide))
  refine mr_iconst C (nI 0) 34 dX8_isOf_33 rfl rfl ?_
  refine mr_iret C dX8_isOf_34 rfl rfl (by decide) (by decide) hlen ?_
  rw [hO]
  exact ⟨rfl, rfl⟩

set_option maxRecDepth 20000 in
set_option maxHeartbeats 4000000 in
theorem c_isOf_5_3 (E : EG)  : Ctr E mX8_isOf (0, 0, 0) [.int (nI 5), .int (nI 3)] ([]) (fun v w => v = some (.int (nI 0)) ∧ w = []) := by
  refine Ctr.of (by decide) (Nat.le_of_ble_eq_true rfl) ?_
  intro Z hO hn C
  have hlen : zn Z ≤ 0 := by rw [hn]; exact Nat.le_of_ble_eq_true rfl
  refine mr_iload_n C 1 dX8_isOf_0 rfl rfl ?_
  refine mr_ifeq C 29 4 dX8_isOf_1 (by decide) rfl (fun c_ => absurd c_ (by decide)) (fun _ => ?_)
  refine mr_iload_n C 5 dX8_isOf_4 rfl rfl ?_
  refine mr_iload_n C 6 dX8_isOf_5 rfl rfl ?_
  refine mr_icmpeq C 29 9 dX8_isOf_6 (by decide) rfl (fun c_ => absurd c_ (by decide)) (fun _ => ?_)
  refine mr_iload_n C 10 dX8_isOf_9 rfl rfl ?_
  refine mr_iconst C (nI 1) 11 dX8_isOf_10 rfl rfl ?_
  refine mr_icmpne C 19 14 dX8_isOf_11 (by decide) rfl (fun _ => ?_) (fun c_ => absurd c_ (by decide))
  refine mr_iload_n C 20 dX8_isOf_19 rfl rfl ?_
  refine mr_iconst C (nI 4) 21 dX8_isOf_20 rfl rfl ?_
  refine mr_icmpne C 33 24 dX8_isOf_21 (by decide) rfl (fun _ => ?_) (fun c_ => absurd c_ (by decide))
  refine mr_iconst C (nI 0) 34 dX8_isOf_33 rfl rfl ?_
  refine mr_iret C dX8_isOf_34 rfl rfl (by decide) (by decide) hlen ?_
  rw [hO]
  exact ⟨rfl, rfl⟩

set_option maxRecDepth 20000 in
set_option maxHeartbeats 4000000 in
theorem c_isOf_5_4 (E : EG)  : Ctr E mX8_isOf (0, 0, 0) [.int (nI 5), .int (nI 4)] ([]) (fun v w => v = some (.int (nI 1)) ∧ w = []) := by
  refine Ctr.of (by decide) (Nat.le_of_ble_eq_true rfl) ?_
  intro Z hO hn C
  have hlen : zn Z ≤ 0 := by rw [hn]; exact Nat.le_of_ble_eq_true rfl
  refine mr_iload_n C 1 dX8_isOf_0 rfl rfl ?_
  refine mr_ifeq C 29 4 dX8_isOf_1 (by decide) rfl (fun c_ => absurd c_ (by decide)) (fun _ => ?_)
  refine mr_iload_n C 5 dX8_isOf_4 rfl rfl ?_
  refine mr_iload_n C 6 dX8_isOf_5 rfl rfl ?_
  refine mr_icmpeq C 29 9 dX8_isOf_6 (by decide) rfl (fun c_ => absurd c_ (by decide)) (fun _ => ?_)
  refine mr_iload_n C 10 dX8_isOf_9 rfl rfl ?_
  refine mr_iconst C (nI 1) 11 dX8_isOf_10 rfl rfl ?_
  refine mr_icmpne C 19 14 dX8_isOf_11 (by decide) rfl (fun _ => ?_) (fun c_ => absurd c_ (by decide))
  refine mr_iload_n C 20 dX8_isOf_19 rfl rfl ?_
  refine mr_iconst C (nI 4) 21 dX8_isOf_20 rfl rfl ?_
  refine mr_icmpne C 33 24 dX8_isOf_21 (by decide) rfl (fun c_ => absurd (by decide) c_) (fun _ => ?_)
  refine mr_iload_n C 25 dX8_isOf_24 rfl rfl ?_
  refine mr_iconst C (nI 5) 26 dX8_isOf_25 rfl rfl ?_
  refine mr_icmpne C 33 29 dX8_isOf_26 (by decide) rfl (fun c_ => absurd (by decide) c_) (fun _ => ?_)
  refine mr_iconst C (nI 1) 30 dX8_isOf_29 rfl rfl ?_
  refine mr_goto C 34 dX8_isOf_30 (by decide) ?_
  refine mr_iret C dX8_isOf_34 rfl rfl (by decide) (by decide) hlen ?_
  rw [hO]
  exact ⟨rfl, rfl⟩

set_option maxRecDepth 20000 in
set_option maxHeartbeats 4000000 in
theorem c_isOf_5_5 (E : EG)  : Ctr E mX8_isOf (0, 0, 0) [.int (nI 5), .int (nI 5)] ([]) (fun v w => v = some (.int (nI 1)) ∧ w = []) := by
  refine Ctr.of (by decide) (Nat.le_of_ble_eq_true rfl) ?_
  intro Z hO hn C
  have hlen : zn Z ≤ 0 := by rw [hn]; exact Nat.le_of_ble_eq_true rfl
  refine mr_iload_n C 1 dX8_isOf_0 rfl rfl ?_
  refine mr_ifeq C 29 4 dX8_isOf_1 (by decide) rfl (fun c_ => absurd c_ (by decide)) (fun _ => ?_)
  refine mr_iload_n C 5 dX8_isOf_4 rfl rfl ?_
  refine mr_iload_n C 6 dX8_isOf_5 rfl rfl ?_
  refine mr_icmpeq C 29 9 dX8_isOf_6 (by decide) rfl (fun _ => ?_) (fun c_ => absurd (by decide) c_)
  refine mr_iconst C (nI 1) 30 dX8_isOf_29 rfl rfl ?_
  refine mr_goto C 34 dX8_isOf_30 (by decide) ?_
  refine mr_iret C dX8_isOf_34 rfl rfl (by decide) (by decide) hlen ?_
  rw [hO]
  exact ⟨rfl, rfl⟩

theorem c_isOf (E : EG) (s k : Nat) (h1 : 1 ≤ s) (h5 : s ≤ 5) (hk : k ≤ 5) : Ctr E mX8_isOf (0, 0, 0) [.int (nI s), .int (nI k)] ([]) (fun v w => v = some (.int (nI (isaS s k))) ∧ w = []) := by
  have hs : s = 1 ∨ s = 2 ∨ s = 3 ∨ s = 4 ∨ s = 5 := by omega
  have hk2 : k = 0 ∨ k = 1 ∨ k = 2 ∨ k = 3 ∨ k = 4 ∨ k = 5 := by omega
  rcases hs with rfl | rfl | rfl | rfl | rfl <;> rcases hk2 with rfl | rfl | rfl | rfl | rfl | rfl
  · exact c_isOf_1_0 E
  · exact c_isOf_1_1 E
  · exact c_isOf_1_2 E
  · exact c_isOf_1_3 E
  · exact c_isOf_1_4 E
  · exact c_isOf_1_5 E
  · exact c_isOf_2_0 E
  · exact c_isOf_2_1 E
  · exact c_isOf_2_2 E
  · exact c_isOf_2_3 E
  · exact c_isOf_2_4 E
  · exact c_isOf_2_5 E
  · exact c_isOf_3_0 E
  · exact c_isOf_3_1 E
  · exact c_isOf_3_2 E
  · exact c_isOf_3_3 E
  · exact c_isOf_3_4 E
  · exact c_isOf_3_5 E
  · exact c_isOf_4_0 E
  · exact c_isOf_4_1 E
  · exact c_isOf_4_2 E
  · exact c_isOf_4_3 E
  · exact c_isOf_4_4 E
  · exact c_isOf_4_5 E
  · exact c_isOf_5_0 E
  · exact c_isOf_5_1 E
  · exact c_isOf_5_2 E
  · exact c_isOf_5_3 E
  · exact c_isOf_5_4 E
  · exact c_isOf_5_5 E
set_option maxRecDepth 20000 in
set_option maxHeartbeats 4000000 in
theorem c_m_kind (E : EG) (a : Nat → Nat) (tn st ac td lt lg cu tk sr tl fa fp gn gi gm tr : Int32) (la mn im ho fr wa tp wh go se no al be ik ke tc : FN) (R K G : Nat) (se0 sn0 be0 so0 lo0 he0 : FN) (hR : R ≤ 6) (hK : K ≤ 5) (hG : G ≤ 9999) (hl : ∀ c, c < K → lo0 c = nI (lN_ lo0 c) ∧ lN_ lo0 c < R) (hso : ∀ c, c < K → ∃ k, 1 ≤ k ∧ k ≤ 5 ∧ so0 c = nI k) (hrh : RH ho R K G se0 sn0 be0 so0 lo0 he0) (c0 : Int32) : Ctr E mX8_kind (3, 0, 0) [.ref (a 0), .int c0] (wM E a tn st la mn im ho fr wa ac tp td lt lg cu tk sr tl fa fp wh go se no al be gn gi gm ik ke tc tr) (fun v w => v = some (.int (kindV c0 K so0)) ∧ w = wM E a ((nI 0)) st la mn im ho fr wa ac tp td lt lg cu tk sr tl fa fp wh go se no al be gn gi gm ik ke tc tr) := by
  refine Ctr.of (by decide) (Nat.le_of_ble_eq_true rfl) ?_
  intro Z hO hn C
  have hlen : zn Z ≤ 17 := by rw [hn]; exact Nat.le_of_ble_eq_true rfl
  have h0 := hrh.1
  have h2 := hrh.2.1
  have h3 := hrh.2.2.1
  have hk : ∀ c, c < K → ∃ k, 1 ≤ k ∧ k ≤ 5 ∧ hoS ho c = nI k := fun c hc => by
    obtain ⟨k, e1, e2, e3⟩ := hso c hc
    exact ⟨k, e1, e2, (hrh.2.2.2.2.2 c hc).1.trans e3⟩
  refine mr_aload_n C 1 dX8_kind_0 rfl rfl ?_
  refine mr_iconst C (nI 0) 2 dX8_kind_1 rfl rfl ?_
  refine mr_put C 0 5 dX8_kind_2 rfl fs_X8_59 rfl rfl rfl (Nat.le_of_ble_eq_true rfl) ?_
  refine mr_w (ws' := wM E a ((nI 0)) st la mn im ho fr wa ac tp td lt lg cu tk sr tl fa fp wh go se no al be gn gi gm ik ke tc tr) rfl ?_
  refine mr_aload_n C 6 dX8_kind_5 rfl rfl ?_
  refine mr_iload_n C 7 dX8_kind_6 rfl rfl ?_
  refine mr_callV C (c_m_isCrowd E a ((nI 0)) st ac td lt lg cu tk sr tl fa fp gn gi gm tr la mn im ho fr wa tp wh go se no al be ik ke tc K hK h2 c0) [0, 1, 2, 3, 4, 5, 6, 7, 8, 9, 10, 11, 12, 13, 14, 15, 16] 0 8 10 dX8_kind_7 rfl mk_X8_isCrowd mi_X8_isCrowd ml_X8_242 rfl rfl rfl rfl rfl (Nat.le_of_ble_eq_true rfl) (by decide) (by decide) (by decide) rfl rfl (fun r w1 hpost => ?_)
  obtain ⟨rfl, rfl⟩ := hpost
  refine mr_w (wput_all _ _ 17 rfl rfl) ?_
  refine mr_ifeq C 22 13 dX8_kind_10 (by decide) rfl (fun c_10 => ?_) (fun c_10 => ?_)
  · rw [bI_eq] at c_10
    refine mr_ldc C 24 dX8_kind_22 rfl kc_X8_79 ?_
    refine mr_iret C dX8_kind_24 rfl rfl (by decide) (by decide) hlen ?_
    rw [hO]
    exact ⟨congrArg (fun z => some (Value.int z)) ((ifP_f c_10).symm), rfl⟩
  · rw [← Ne, bI_ne] at c_10
    obtain ⟨c, hc, rfl⟩ := tI_of (x := c0) (n := K) (by omega) (by omega)
    have ec : (nI c).toInt = (c : Int) := tI_n (by omega)
    have ic_ : iN (nI c) = c := iN_n (by omega)
    refine mr_aload_n C 14 dX8_kind_13 rfl rfl ?_
    refine mr_iload_n C 15 dX8_kind_14 rfl rfl ?_
    refine mr_iconst C (nI 0) 16 dX8_kind_15 rfl rfl ?_
    refine mr_callV C (c_of E a ((nI 0)) st ac td lt lg cu tk sr tl fa fp gn gi gm tr la mn im ho fr wa tp wh go se no al be ik ke tc c 0 (by omega) (by decide) (so0 c) (hrh.2.2.2.2.2 c hc).1) [0, 1, 2, 3, 4, 5, 6, 7, 8, 9, 10, 11, 12, 13, 14, 15, 16] 0 8 19 dX8_kind_16 rfl mk_X8_of mi_X8_of ml_X8_201 rfl rfl rfl rfl rfl (Nat.le_of_ble_eq_true rfl) (by decide) (by decide) (by decide) rfl rfl (fun r w1 hpost => ?_)
    obtain ⟨rfl, rfl⟩ := hpost
    refine mr_w (wput_all _ _ 17 rfl rfl) ?_
    refine mr_goto C 24 dX8_kind_19 (by decide) ?_
    refine mr_iret C dX8_kind_24 rfl rfl (by decide) (by decide) hlen ?_
    rw [hO]
    exact ⟨congrArg (fun z => some (Value.int z)) (((ifP_t (by omega)).trans (by rw [ic_])).symm), rfl⟩

set_option maxRecDepth 20000 in
set_option maxHeartbeats 4000000 in
theorem c_m_as (E : EG) (a : Nat → Nat) (tn st ac td lt lg cu tk sr tl fa fp gn gi gm tr : Int32) (la mn im ho fr wa tp wh go se no al be ik ke tc : FN) (R K G : Nat) (se0 sn0 be0 so0 lo0 he0 : FN) (hR : R ≤ 6) (hK : K ≤ 5) (hG : G ≤ 9999) (hl : ∀ c, c < K → lo0 c = nI (lN_ lo0 c) ∧ lN_ lo0 c < R) (hso : ∀ c, c < K → ∃ k, 1 ≤ k ∧ k ≤ 5 ∧ so0 c = nI k) (hrh : RH ho R K G se0 sn0 be0 so0 lo0 he0) (c0 k0 : Int32) : Ctr E mX8_as (3, 0, 0) [.ref (a 0), .int c0, .int k0] (wM E a tn st la mn im ho fr wa ac tp td lt lg cu tk sr tl fa fp wh go se no al be gn gi gm ik ke tc tr) (fun v w => ∃ (st' v2 : Int32), v = some (.int v2) ∧ w = wM E a ((nI 0)) (st') la mn im ho fr wa ac tp td lt lg cu tk sr tl fa fp wh go se no al be gn gi gm ik ke tc tr ∧ ∀ v' fd', NxAs c0 k0 K so0 st v' fd' → v' = v2 ∧ fd' = st') := by
  refine Ctr.of (by decide) (Nat.le_of_ble_eq_true rfl) ?_
  intro Z hO hn C
  have hlen : zn Z ≤ 17 := by rw [hn]; exact Nat.le_of_ble_eq_true rfl
  have h0 := hrh.1
  have h2 := hrh.2.1
  have h3 := hrh.2.2.1
  have hk : ∀ c, c < K → ∃ k, 1 ≤ k ∧ k ≤ 5 ∧ hoS ho c = nI k := fun c hc => by
    obtain ⟨k, e1, e2, e3⟩ := hso c hc
    exact ⟨k, e1, e2, (hrh.2.2.2.2.2 c hc).1.trans e3⟩
  refine mr_aload_n C 1 dX8_as_0 rfl rfl ?_
  refine mr_iconst C (nI 0) 2 dX8_as_1 rfl rfl ?_
  refine mr_put C 0 5 dX8_as_2 rfl fs_X8_59 rfl rfl rfl (Nat.le_of_ble_eq_true rfl) ?_
  refine mr_w (ws' := wM E a ((nI 0)) st la mn im ho fr wa ac tp td lt lg cu tk sr tl fa fp wh go se no al be gn gi gm ik ke tc tr) rfl ?_
  refine mr_aload_n C 6 dX8_as_5 rfl rfl ?_
  refine mr_iload_n C 7 dX8_as_6 rfl rfl ?_
  refine mr_callV C (c_m_isCrowd E a ((nI 0)) st ac td lt lg cu tk sr tl fa fp gn gi gm tr la mn im ho fr wa tp wh go se no al be ik ke tc K hK h2 c0) [0, 1, 2, 3, 4, 5, 6, 7, 8, 9, 10, 11, 12, 13, 14, 15, 16] 0 8 10 dX8_as_7 rfl mk_X8_isCrowd mi_X8_isCrowd ml_X8_242 rfl rfl rfl rfl rfl (Nat.le_of_ble_eq_true rfl) (by decide) (by decide) (by decide) rfl rfl (fun r w1 hpost => ?_)
  obtain ⟨rfl, rfl⟩ := hpost
  refine mr_w (wput_all _ _ 17 rfl rfl) ?_
  refine mr_ifeq C 25 13 dX8_as_10 (by decide) rfl (fun c_10 => ?_) (fun c_10 => ?_)
  · rw [bI_eq] at c_10
    refine mr_ldc C 27 dX8_as_25 rfl kc_X8_79 ?_
    refine mr_iret C dX8_as_27 rfl rfl (by decide) (by decide) hlen ?_
    rw [hO]
    refine ⟨_, _, rfl, rfl, ?_⟩
    intro v9 fd9 hx
    exact (ifP_f (by omega)).mp hx
  · rw [← Ne, bI_ne] at c_10
    refine mr_iload_n C 14 dX8_as_13 rfl rfl ?_
    refine mr_i2l C _ 15 dX8_as_14 rfl rfl ?_
    refine mr_lconst C 0 16 dX8_as_15 rfl rfl ?_
    refine mr_ldc2 C 19 dX8_as_16 rfl kc_X8_282 ?_
    refine mr_callS C (c_inK E k0 (0) (5) _ _ rfl rfl) [] 22 dX8_as_19 rfl mk_X8_in ms_X8_in ml_X8_69 rfl rfl rfl rfl (Nat.le_of_ble_eq_true rfl) (by decide) (by decide) (by decide) (fun r w1 hpost => ?_)
    obtain ⟨rfl, rfl⟩ := hpost
    refine mr_w (ws' := wM E a ((nI 0)) st la mn im ho fr wa ac tp td lt lg cu tk sr tl fa fp wh go se no al be gn gi gm ik ke tc tr) rfl ?_
    refine mr_ifne C 28 25 dX8_as_22 (by decide) rfl (fun c_22 => ?_) (fun c_22 => ?_)
    · rw [bI_ne] at c_22
      obtain ⟨c, hc, rfl⟩ := tI_of (x := c0) (n := K) (by omega) (by omega)
      have ec : (nI c).toInt = (c : Int) := tI_n (by omega)
      have ic_ : iN (nI c) = c := iN_n (by omega)
      obtain ⟨k, hk, rfl⟩ := tI_of (x := k0) (n := 6) (by omega) (by omega)
      have ek : (nI k).toInt = (k : Int) := tI_n (by omega)
      have ik_ : iN (nI k) = k := iN_n (by omega)
      refine mr_aload_n C 29 dX8_as_28 rfl rfl ?_
      refine mr_iconst C (nI 0) 30 dX8_as_29 rfl rfl ?_
      refine mr_put C 0 33 dX8_as_30 rfl fs_X8_63 rfl rfl rfl (Nat.le_of_ble_eq_true rfl) ?_
      refine mr_w (ws' := wM E a ((nI 0)) ((nI 0)) la mn im ho fr wa ac tp td lt lg cu tk sr tl fa fp wh go se no al be gn gi gm ik ke tc tr) rfl ?_
      refine mr_aload_n C 34 dX8_as_33 rfl rfl ?_
      refine mr_iload_n C 35 dX8_as_34 rfl rfl ?_
      refine mr_iconst C (nI 0) 36 dX8_as_35 rfl rfl ?_
      refine mr_callV C (c_of E a ((nI 0)) ((nI 0)) ac td lt lg cu tk sr tl fa fp gn gi gm tr la mn im ho fr wa tp wh go se no al be ik ke tc c 0 (by omega) (by decide) (so0 c) (hrh.2.2.2.2.2 c hc).1) [0, 1, 2, 3, 4, 5, 6, 7, 8, 9, 10, 11, 12, 13, 14, 15, 16] 0 8 39 dX8_as_36 rfl mk_X8_of mi_X8_of ml_X8_201 rfl rfl rfl rfl rfl (Nat.le_of_ble_eq_true rfl) (by decide) (by decide) (by decide) rfl rfl (fun r w1 hpost => ?_)
      obtain ⟨rfl, rfl⟩ := hpost
      refine mr_w (wput_all _ _ 17 rfl rfl) ?_
      refine mr_iload_n C 40 dX8_as_39 rfl rfl ?_
      obtain ⟨sk, hs1, hs5, hsk⟩ := hso c hc
      rw [hsk]
      refine mr_callS C (c_isOf E sk k hs1 hs5 (by omega)) [] 43 dX8_as_40 rfl mk_X8_isOf ms_X8_isOf ml_X8_284 rfl rfl rfl rfl (Nat.le_of_ble_eq_true rfl) (by decide) (by decide) (by decide) (fun r w1 hpost => ?_)
      obtain ⟨rfl, rfl⟩ := hpost
      refine mr_w (ws' := wM E a ((nI 0)) ((nI 0)) la mn im ho fr wa ac tp td lt lg cu tk sr tl fa fp wh go se no al be gn gi gm ik ke tc tr) rfl ?_
      refine mr_ifeq C 50 46 dX8_as_43 (by decide) rfl (fun c_43 => ?_) (fun c_43 => ?_)
      · have c_43 : isaS sk k = 0 := by
          rcases isaS_01 sk k hs1 hs5 (by omega) with h | h
          · exact h
          · rw [h] at c_43; exact absurd c_43 (by decide)
        refine mr_aload_n C 51 dX8_as_50 rfl rfl ?_
        refine mr_iconst C (nI 3) 52 dX8_as_51 rfl rfl ?_
        refine mr_callV C (c_m_finding E a ((nI 0)) ((nI 0)) ac td lt lg cu tk sr tl fa fp gn gi gm tr la mn im ho fr wa tp wh go se no al be ik ke tc 3) [0, 1, 2, 3, 4, 5, 6, 7, 8, 9, 10, 11, 12, 13, 14, 15, 16] 0 8 55 dX8_as_52 rfl mk_X8_finding mi_X8_finding ml_X8_80 rfl rfl rfl rfl rfl (Nat.le_of_ble_eq_true rfl) (by decide) (by decide) (by decide) rfl rfl (fun r w1 hpost => ?_)
        obtain ⟨rfl, rfl⟩ := hpost
        refine mr_w (wput_all _ _ 17 rfl rfl) ?_
        refine mr_iret C dX8_as_55 rfl rfl (by decide) (by decide) hlen ?_
        rw [hO]
        refine ⟨_, _, rfl, rfl, ?_⟩
        intro v9 fd9 hx
        exact (ifP_t (by rw [ic_, ik_, hsk, iN_n (by omega)]; exact c_43)).mp ((ifP_t (by omega)).mp hx)
      · have c_43 : ¬ isaS sk k = 0 := fun h => c_43 (by rw [h]; rfl)
        refine mr_iload_n C 47 dX8_as_46 rfl rfl ?_
        refine mr_goto C 55 dX8_as_47 (by decide) ?_
        refine mr_iret C dX8_as_55 rfl rfl (by decide) (by decide) hlen ?_
        rw [hO]
        refine ⟨_, _, rfl, rfl, ?_⟩
        intro v9 fd9 hx
        exact (ifP_f (by rw [ic_, ik_, hsk, iN_n (by omega)]; exact c_43)).mp ((ifP_t (by omega)).mp hx)
    · rw [bI_eq] at c_22
      refine mr_ldc C 27 dX8_as_25 rfl kc_X8_79 ?_
      refine mr_iret C dX8_as_27 rfl rfl (by decide) (by decide) hlen ?_
      rw [hO]
      refine ⟨_, _, rfl, rfl, ?_⟩
      intro v9 fd9 hx
      exact (ifP_f (by omega)).mp hx

set_option maxRecDepth 20000 in
set_option maxHeartbeats 4000000 in
theorem c_plain (E : EG) (a : Nat → Nat) (tn st ac td lt lg cu tk sr tl fa fp gn gi gm : Int32) (la mn im ho fr wa tp wh go se no al be ik ke tc : FN) (c : Nat) (hc : c < 5) (lo1 he1 : Int32) (hlo : ho (22 + 3 * c + 1) = lo1) (hhe : ho (22 + 3 * c + 2) = he1) (n : Nat) (hn0 : n ≤ 16) : Ctr E mX8_plainSize (2, 0, 0) [.ref (a 0), .int (nI c)] (wM E a tn st la mn im ho fr wa ac tp td lt lg cu tk sr tl fa fp wh go se no al be gn gi gm ik ke tc ((nI n))) (fun v w => ∃ (f : FN) (m : Nat), v = some (.int he1) ∧ w = wM E a tn st la mn im ho fr wa ac tp td lt lg cu tk sr tl fa fp wh go se no al be gn gi gm ik ke f ((nI m)) ∧ (f, m) = lvL [nI 10] (tc, n)) := by
  refine Ctr.of (by decide) (Nat.le_of_ble_eq_true rfl) ?_
  intro Z hO hn C
  have hlen : zn Z ≤ 17 := by rw [hn]; exact Nat.le_of_ble_eq_true rfl
  refine mr_aload_n C 1 dX8_plainSize_0 rfl rfl ?_
  refine mr_bipush C (nI 10) 3 dX8_plainSize_1 rfl rfl ?_
  refine mr_callV C (c_stepped E a tn st ac td lt lg cu tk sr tl fa fp gn gi gm la mn im ho fr wa tp wh go se no al be ik ke tc (nI 10) n hn0) [0, 1, 2, 3, 4, 5, 6, 7, 8, 9, 10, 11, 12, 13, 14, 15, 16] 0 8 6 dX8_plainSize_3 rfl mk_X8_stepped mi_X8_stepped ml_X8_290 rfl rfl rfl rfl rfl (Nat.le_of_ble_eq_true rfl) (by decide) (by decide) (by decide) rfl rfl (fun r w1 hpost => ?_)
  obtain ⟨u1, v1, rfl, rfl, hu1⟩ := hpost
  have lhu1 : v1 ≤ 16 := Nat.le_trans (Nat.le_of_eq (congrArg Prod.snd hu1)) (lvT_le hn0)
  refine mr_w (wput_all _ _ 17 rfl rfl) ?_
  refine mr_aload_n C 7 dX8_plainSize_6 rfl rfl ?_
  refine mr_iload_n C 8 dX8_plainSize_7 rfl rfl ?_
  refine mr_iconst C (nI 2) 9 dX8_plainSize_8 rfl rfl ?_
  refine mr_callV C (c_of E a tn st ac td lt lg cu tk sr tl fa fp gn gi gm (nI v1) la mn im ho fr wa tp wh go se no al be ik ke u1 c 2 (by omega) (by decide) he1 hhe) [0, 1, 2, 3, 4, 5, 6, 7, 8, 9, 10, 11, 12, 13, 14, 15, 16] 0 8 12 dX8_plainSize_9 rfl mk_X8_of mi_X8_of ml_X8_201 rfl rfl rfl rfl rfl (Nat.le_of_ble_eq_true rfl) (by decide) (by decide) (by decide) rfl rfl (fun r w1 hpost => ?_)
  obtain ⟨rfl, rfl⟩ := hpost
  refine mr_w (wput_all _ _ 17 rfl rfl) ?_
  refine mr_iret C dX8_plainSize_12 rfl rfl (by decide) (by decide) hlen ?_
  rw [hO]
  exact ⟨_, _, rfl, rfl, hu1⟩

set_option maxRecDepth 20000 in
set_option maxHeartbeats 4000000 in
theorem c_stay4 (E : EG) (a : Nat → Nat) (tn st ac td lt lg cu tk sr tl fa fp gn gi gm : Int32) (la mn im ho fr wa tp wh go se no al be ik ke tc : FN) (c : Nat) (hc : c < 5) (lo1 he1 : Int32) (hlo : ho (22 + 3 * c + 1) = lo1) (hhe : ho (22 + 3 * c + 2) = he1) (hkk : ho (22 + 3 * c + 0) = nI 4) (n : Nat) (hn0 : n ≤ 16) : Ctr E mX8_staySize (3, 0, 0) [.ref (a 0), .int (nI c)] (wM E a tn st la mn im ho fr wa ac tp td lt lg cu tk sr tl fa fp wh go se no al be gn gi gm ik ke tc ((nI n))) (fun v w => ∃ (f : FN) (m : Nat), v = some (.int (he1 - nI 100)) ∧ w = wM E a tn st la mn im ho fr wa ac tp td lt lg cu tk sr tl fa fp wh go se no al be gn gi gm ik ke f ((nI m)) ∧ (f, m) = lvL [nI 13, nI 10] (tc, n)) := by
  refine Ctr.of (by decide) (Nat.le_of_ble_eq_true rfl) ?_
  intro Z hO hn C
  have hlen : zn Z ≤ 17 := by rw [hn]; exact Nat.le_of_ble_eq_true rfl
  refine mr_aload_n C 1 dX8_staySize_0 rfl rfl ?_
  refine mr_iload_n C 2 dX8_staySize_1 rfl rfl ?_
  refine mr_iconst C (nI 0) 3 dX8_staySize_2 rfl rfl ?_
  refine mr_callV C (c_of E a tn st ac td lt lg cu tk sr tl fa fp gn gi gm (nI n) la mn im ho fr wa tp wh go se no al be ik ke tc c 0 (by omega) (by decide) (nI 4) hkk) [0, 1, 2, 3, 4, 5, 6, 7, 8, 9, 10, 11, 12, 13, 14, 15, 16] 0 8 6 dX8_staySize_3 rfl mk_X8_of mi_X8_of ml_X8_201 rfl rfl rfl rfl rfl (Nat.le_of_ble_eq_true rfl) (by decide) (by decide) (by decide) rfl rfl (fun r w1 hpost => ?_)
  obtain ⟨rfl, rfl⟩ := hpost
  refine mr_w (wput_all _ _ 17 rfl rfl) ?_
  refine mr_iconst C (nI 5) 7 dX8_staySize_6 rfl rfl ?_
  refine mr_icmpne C 16 10 dX8_staySize_7 (by decide) rfl (fun _ => ?_) (fun c_ => absurd c_ (by decide))
  refine mr_aload_n C 17 dX8_staySize_16 rfl rfl ?_
  refine mr_bipush C (nI 13) 19 dX8_staySize_17 rfl rfl ?_
  refine mr_callV C (c_stepped E a tn st ac td lt lg cu tk sr tl fa fp gn gi gm la mn im ho fr wa tp wh go se no al be ik ke tc (nI 13) n hn0) [0, 1, 2, 3, 4, 5, 6, 7, 8, 9, 10, 11, 12, 13, 14, 15, 16] 0 8 22 dX8_staySize_19 rfl mk_X8_stepped mi_X8_stepped ml_X8_290 rfl rfl rfl rfl rfl (Nat.le_of_ble_eq_true rfl) (by decide) (by decide) (by decide) rfl rfl (fun r w1 hpost => ?_)
  obtain ⟨u2, v2, rfl, rfl, hu2⟩ := hpost
  have lhu2 : v2 ≤ 16 := Nat.le_trans (Nat.le_of_eq (congrArg Prod.snd hu2)) (lvT_le hn0)
  refine mr_w (wput_all _ _ 17 rfl rfl) ?_
  refine mr_aload_n C 23 dX8_staySize_22 rfl rfl ?_
  refine mr_iload_n C 24 dX8_staySize_23 rfl rfl ?_
  refine mr_callV C (c_plain E a tn st ac td lt lg cu tk sr tl fa fp gn gi gm la mn im ho fr wa tp wh go se no al be ik ke u2 c hc lo1 he1 hlo hhe v2 lhu2) [0, 1, 2, 3, 4, 5, 6, 7, 8, 9, 10, 11, 12, 13, 14, 15, 16] 0 8 27 dX8_staySize_24 rfl mk_X8_plainSize mi_X8_plainSize ml_X8_293 rfl rfl rfl rfl rfl (Nat.le_of_ble_eq_true rfl) (by decide) (by decide) (by decide) rfl rfl (fun r w1 hpost => ?_)
  obtain ⟨u3, v3, rfl, rfl, hu3⟩ := hpost
  have lhu3 : v3 ≤ 16 := Nat.le_trans (Nat.le_of_eq (congrArg Prod.snd hu3)) (lvL_le _ lhu2)
  refine mr_w (wput_all _ _ 17 rfl rfl) ?_
  refine mr_bipush C (nI 100) 29 dX8_staySize_27 rfl rfl ?_
  refine mr_isub C _ 30 dX8_staySize_29 rfl rfl ?_
  refine mr_istore_n C 31 dX8_staySize_30 rfl rfl (by decide) ?_
  refine mr_aload_n C 32 dX8_staySize_31 rfl rfl ?_
  refine mr_iload_n C 33 dX8_staySize_32 rfl rfl ?_
  refine mr_iconst C (nI 0) 34 dX8_staySize_33 rfl rfl ?_
  refine mr_callV C (c_of E a tn st ac td lt lg cu tk sr tl fa fp gn gi gm (nI v3) la mn im ho fr wa tp wh go se no al be ik ke u3 c 0 (by omega) (by decide) (nI 4) hkk) [0, 1, 2, 3, 4, 5, 6, 7, 8, 9, 10, 11, 12, 13, 14, 15, 16] 0 8 37 dX8_staySize_34 rfl mk_X8_of mi_X8_of ml_X8_201 rfl rfl rfl rfl rfl (Nat.le_of_ble_eq_true rfl) (by decide) (by decide) (by decide) rfl rfl (fun r w1 hpost => ?_)
  obtain ⟨rfl, rfl⟩ := hpost
  refine mr_w (wput_all _ _ 17 rfl rfl) ?_
  refine mr_iconst C (nI 5) 38 dX8_staySize_37 rfl rfl ?_
  refine mr_icmpne C 47 41 dX8_staySize_38 (by decide) rfl (fun _ => ?_) (fun c_ => absurd c_ (by decide))
  refine mr_iload_n C 48 dX8_staySize_47 rfl rfl ?_
  refine mr_iret C dX8_staySize_48 rfl rfl (by decide) (by decide) hlen ?_
  rw [hO]
  exact ⟨_, _, rfl, rfl, (hu3.trans (congrArg (lvL [nI 10]) hu2))⟩

set_option maxRecDepth 20000 in
set_option maxHeartbeats 4000000 in
theorem c_stay5 (E : EG) (a : Nat → Nat) (tn st ac td lt lg cu tk sr tl fa fp gn gi gm : Int32) (la mn im ho fr wa tp wh go se no al be ik ke tc : FN) (c : Nat) (hc : c < 5) (lo1 he1 : Int32) (hlo : ho (22 + 3 * c + 1) = lo1) (hhe : ho (22 + 3 * c + 2) = he1) (hkk : ho (22 + 3 * c + 0) = nI 5) (n : Nat) (hn0 : n ≤ 16) : Ctr E mX8_staySize (3, 0, 0) [.ref (a 0), .int (nI c)] (wM E a tn st la mn im ho fr wa ac tp td lt lg cu tk sr tl fa fp wh go se no al be gn gi gm ik ke tc ((nI n))) (fun v w => ∃ (f : FN) (m : Nat), v = some (.int (nI 2 * (he1 - nI 100))) ∧ w = wM E a tn st la mn im ho fr wa ac tp td lt lg cu tk sr tl fa fp wh go se no al be gn gi gm ik ke f ((nI m)) ∧ (f, m) = lvL [nI 14, nI 13, nI 10] (tc, n)) := by
  refine Ctr.of (by decide) (Nat.le_of_ble_eq_true rfl) ?_
  intro Z hO hn C
  have hlen : zn Z ≤ 17 := by rw [hn]; exact Nat.le_of_ble_eq_true rfl
  refine mr_aload_n C 1 dX8_staySize_0 rfl rfl ?_
  refine mr_iload_n C 2 dX8_staySize_1 rfl rfl ?_
  refine mr_iconst C (nI 0) 3 dX8_staySize_2 rfl rfl ?_
  refine mr_callV C (c_of E a tn st ac td lt lg cu tk sr tl fa fp gn gi gm (nI n) la mn im ho fr wa tp wh go se no al be ik ke tc c 0 (by omega) (by decide) (nI 5) hkk) [0, 1, 2, 3, 4, 5, 6, 7, 8, 9, 10, 11, 12, 13, 14, 15, 16] 0 8 6 dX8_staySize_3 rfl mk_X8_of mi_X8_of ml_X8_201 rfl rfl rfl rfl rfl (Nat.le_of_ble_eq_true rfl) (by decide) (by decide) (by decide) rfl rfl (fun r w1 hpost => ?_)
  obtain ⟨rfl, rfl⟩ := hpost
  refine mr_w (wput_all _ _ 17 rfl rfl) ?_
  refine mr_iconst C (nI 5) 7 dX8_staySize_6 rfl rfl ?_
  refine mr_icmpne C 16 10 dX8_staySize_7 (by decide) rfl (fun c_ => absurd (by decide) c_) (fun _ => ?_)
  refine mr_aload_n C 11 dX8_staySize_10 rfl rfl ?_
  refine mr_bipush C (nI 14) 13 dX8_staySize_11 rfl rfl ?_
  refine mr_callV C (c_stepped E a tn st ac td lt lg cu tk sr tl fa fp gn gi gm la mn im ho fr wa tp wh go se no al be ik ke tc (nI 14) n hn0) [0, 1, 2, 3, 4, 5, 6, 7, 8, 9, 10, 11, 12, 13, 14, 15, 16] 0 8 16 dX8_staySize_13 rfl mk_X8_stepped mi_X8_stepped ml_X8_290 rfl rfl rfl rfl rfl (Nat.le_of_ble_eq_true rfl) (by decide) (by decide) (by decide) rfl rfl (fun r w1 hpost => ?_)
  obtain ⟨u4, v4, rfl, rfl, hu4⟩ := hpost
  have lhu4 : v4 ≤ 16 := Nat.le_trans (Nat.le_of_eq (congrArg Prod.snd hu4)) (lvT_le hn0)
  refine mr_w (wput_all _ _ 17 rfl rfl) ?_
  refine mr_aload_n C 17 dX8_staySize_16 rfl rfl ?_
  refine mr_bipush C (nI 13) 19 dX8_staySize_17 rfl rfl ?_
  refine mr_callV C (c_stepped E a tn st ac td lt lg cu tk sr tl fa fp gn gi gm la mn im ho fr wa tp wh go se no al be ik ke u4 (nI 13) v4 lhu4) [0, 1, 2, 3, 4, 5, 6, 7, 8, 9, 10, 11, 12, 13, 14, 15, 16] 0 8 22 dX8_staySize_19 rfl mk_X8_stepped mi_X8_stepped ml_X8_290 rfl rfl rfl rfl rfl (Nat.le_of_ble_eq_true rfl) (by decide) (by decide) (by decide) rfl rfl (fun r w1 hpost => ?_)
  obtain ⟨u5, v5, rfl, rfl, hu5⟩ := hpost
  have lhu5 : v5 ≤ 16 := Nat.le_trans (Nat.le_of_eq (congrArg Prod.snd hu5)) (lvT_le lhu4)
  refine mr_w (wput_all _ _ 17 rfl rfl) ?_
  refine mr_aload_n C 23 dX8_staySize_22 rfl rfl ?_
  refine mr_iload_n C 24 dX8_staySize_23 rfl rfl ?_
  refine mr_callV C (c_plain E a tn st ac td lt lg cu tk sr tl fa fp gn gi gm la mn im ho fr wa tp wh go se no al be ik ke u5 c hc lo1 he1 hlo hhe v5 lhu5) [0, 1, 2, 3, 4, 5, 6, 7, 8, 9, 10, 11, 12, 13, 14, 15, 16] 0 8 27 dX8_staySize_24 rfl mk_X8_plainSize mi_X8_plainSize ml_X8_293 rfl rfl rfl rfl rfl (Nat.le_of_ble_eq_true rfl) (by decide) (by decide) (by decide) rfl rfl (fun r w1 hpost => ?_)
  obtain ⟨u6, v6, rfl, rfl, hu6⟩ := hpost
  have lhu6 : v6 ≤ 16 := Nat.le_trans (Nat.le_of_eq (congrArg Prod.snd hu6)) (lvL_le _ lhu5)
  refine mr_w (wput_all _ _ 17 rfl rfl) ?_
  refine mr_bipush C (nI 100) 29 dX8_staySize_27 rfl rfl ?_
  refine mr_isub C _ 30 dX8_staySize_29 rfl rfl ?_
  refine mr_istore_n C 31 dX8_staySize_30 rfl rfl (by decide) ?_
  refine mr_aload_n C 32 dX8_staySize_31 rfl rfl ?_
  refine mr_iload_n C 33 dX8_staySize_32 rfl rfl ?_
  refine mr_iconst C (nI 0) 34 dX8_staySize_33 rfl rfl ?_
  refine mr_callV C (c_of E a tn st ac td lt lg cu tk sr tl fa fp gn gi gm (nI v6) la mn im ho fr wa tp wh go se no al be ik ke u6 c 0 (by omega) (by decide) (nI 5) hkk) [0, 1, 2, 3, 4, 5, 6, 7, 8, 9, 10, 11, 12, 13, 14, 15, 16] 0 8 37 dX8_staySize_34 rfl mk_X8_of mi_X8_of ml_X8_201 rfl rfl rfl rfl rfl (Nat.le_of_ble_eq_true rfl) (by decide) (by decide) (by decide) rfl rfl (fun r w1 hpost => ?_)
  obtain ⟨rfl, rfl⟩ := hpost
  refine mr_w (wput_all _ _ 17 rfl rfl) ?_
  refine mr_iconst C (nI 5) 38 dX8_staySize_37 rfl rfl ?_
  refine mr_icmpne C 47 41 dX8_staySize_38 (by decide) rfl (fun c_ => absurd (by decide) c_) (fun _ => ?_)
  refine mr_iconst C (nI 2) 42 dX8_staySize_41 rfl rfl ?_
  refine mr_iload_n C 43 dX8_staySize_42 rfl rfl ?_
  refine mr_imul C _ 44 dX8_staySize_43 rfl rfl ?_
  refine mr_goto C 48 dX8_staySize_44 (by decide) ?_
  refine mr_iret C dX8_staySize_48 rfl rfl (by decide) (by decide) hlen ?_
  rw [hO]
  exact ⟨_, _, rfl, rfl, (hu6.trans (congrArg (lvL [nI 10]) (hu5.trans (congrArg (lvT (nI 13)) hu4))))⟩

set_option maxRecDepth 20000 in
set_option maxHeartbeats 4000000 in
theorem c_mark1 (E : EG) (a : Nat → Nat) (tn st ac td lt lg cu tk sr tl fa fp gn gi gm : Int32) (la mn im ho fr wa tp wh go se no al be ik ke tc : FN) (c : Nat) (hc : c < 5) (lo1 he1 : Int32) (hlo : ho (22 + 3 * c + 1) = lo1) (hhe : ho (22 + 3 * c + 2) = he1) (hkk : ho (22 + 3 * c + 0) = nI 1) (n : Nat) (hn0 : n ≤ 16) : Ctr E mX8_markOf (4, 0, 0) [.ref (a 0), .int (nI c)] (wM E a tn st la mn im ho fr wa ac tp td lt lg cu tk sr tl fa fp wh go se no al be gn gi gm ik ke tc ((nI n))) (fun v w => ∃ (f : FN) (m : Nat), v = some (.int (nI c + lo1)) ∧ w = wM E a tn st la mn im ho fr wa ac tp td lt lg cu tk sr tl fa fp wh go se no al be gn gi gm ik ke f ((nI m)) ∧ (f, m) = lvL [nI 21, nI 20] (tc, n)) := by
  refine Ctr.of (by decide) (Nat.le_of_ble_eq_true rfl) ?_
  intro Z hO hn C
  have hlen : zn Z ≤ 17 := by rw [hn]; exact Nat.le_of_ble_eq_true rfl
  refine mr_aload_n C 1 dX8_markOf_0 rfl rfl ?_
  refine mr_iload_n C 2 dX8_markOf_1 rfl rfl ?_
  refine mr_iconst C (nI 0) 3 dX8_markOf_2 rfl rfl ?_
  refine mr_callV C (c_of E a tn st ac td lt lg cu tk sr tl fa fp gn gi gm (nI n) la mn im ho fr wa tp wh go se no al be ik ke tc c 0 (by omega) (by decide) (nI 1) hkk) [0, 1, 2, 3, 4, 5, 6, 7, 8, 9, 10, 11, 12, 13, 14, 15, 16] 0 8 6 dX8_markOf_3 rfl mk_X8_of mi_X8_of ml_X8_201 rfl rfl rfl rfl rfl (Nat.le_of_ble_eq_true rfl) (by decide) (by decide) (by decide) rfl rfl (fun r w1 hpost => ?_)
  obtain ⟨rfl, rfl⟩ := hpost
  refine mr_w (wput_all _ _ 17 rfl rfl) ?_
  refine mr_istore_n C 7 dX8_markOf_6 rfl rfl (by decide) ?_
  refine mr_iload_n C 8 dX8_markOf_7 rfl rfl ?_
  refine mr_iconst C (nI 4) 9 dX8_markOf_8 rfl rfl ?_
  refine mr_icmplt C 32 12 dX8_markOf_9 (by decide) rfl (fun _ => ?_) (fun c_ => absurd (by decide) c_)
  refine mr_iload_n C 33 dX8_markOf_32 rfl rfl ?_
  refine mr_iconst C (nI 1) 34 dX8_markOf_33 rfl rfl ?_
  refine mr_icmpeq C 53 37 dX8_markOf_34 (by decide) rfl (fun _ => ?_) (fun c_ => absurd (by decide) c_)
  refine mr_aload_n C 54 dX8_markOf_53 rfl rfl ?_
  refine mr_bipush C (nI 21) 56 dX8_markOf_54 rfl rfl ?_
  refine mr_callV C (c_stepped E a tn st ac td lt lg cu tk sr tl fa fp gn gi gm la mn im ho fr wa tp wh go se no al be ik ke tc (nI 21) n hn0) [0, 1, 2, 3, 4, 5, 6, 7, 8, 9, 10, 11, 12, 13, 14, 15, 16] 0 8 59 dX8_markOf_56 rfl mk_X8_stepped mi_X8_stepped ml_X8_290 rfl rfl rfl rfl rfl (Nat.le_of_ble_eq_true rfl) (by decide) (by decide) (by decide) rfl rfl (fun r w1 hpost => ?_)
  obtain ⟨u7, v7, rfl, rfl, hu7⟩ := hpost
  have lhu7 : v7 ≤ 16 := Nat.le_trans (Nat.le_of_eq (congrArg Prod.snd hu7)) (lvT_le hn0)
  refine mr_w (wput_all _ _ 17 rfl rfl) ?_
  refine mr_aload_n C 60 dX8_markOf_59 rfl rfl ?_
  refine mr_bipush C (nI 20) 62 dX8_markOf_60 rfl rfl ?_
  refine mr_callV C (c_stepped E a tn st ac td lt lg cu tk sr tl fa fp gn gi gm la mn im ho fr wa tp wh go se no al be ik ke u7 (nI 20) v7 lhu7) [0, 1, 2, 3, 4, 5, 6, 7, 8, 9, 10, 11, 12, 13, 14, 15, 16] 0 8 65 dX8_markOf_62 rfl mk_X8_stepped mi_X8_stepped ml_X8_290 rfl rfl rfl rfl rfl (Nat.le_of_ble_eq_true rfl) (by decide) (by decide) (by decide) rfl rfl (fun r w1 hpost => ?_)
  obtain ⟨u8, v8, rfl, rfl, hu8⟩ := hpost
  have lhu8 : v8 ≤ 16 := Nat.le_trans (Nat.le_of_eq (congrArg Prod.snd hu8)) (lvT_le lhu7)
  refine mr_w (wput_all _ _ 17 rfl rfl) ?_
  refine mr_iload_n C 66 dX8_markOf_65 rfl rfl ?_
  refine mr_aload_n C 67 dX8_markOf_66 rfl rfl ?_
  refine mr_iload_n C 68 dX8_markOf_67 rfl rfl ?_
  refine mr_iconst C (nI 1) 69 dX8_markOf_68 rfl rfl ?_
  refine mr_callV C (c_of E a tn st ac td lt lg cu tk sr tl fa fp gn gi gm (nI v8) la mn im ho fr wa tp wh go se no al be ik ke u8 c 1 (by omega) (by decide) lo1 hlo) [0, 1, 2, 3, 4, 5, 6, 7, 8, 9, 10, 11, 12, 13, 14, 15, 16] 0 8 72 dX8_markOf_69 rfl mk_X8_of mi_X8_of ml_X8_201 rfl rfl rfl rfl rfl (Nat.le_of_ble_eq_true rfl) (by decide) (by decide) (by decide) rfl rfl (fun r w1 hpost => ?_)
  obtain ⟨rfl, rfl⟩ := hpost
  refine mr_w (wput_all _ _ 17 rfl rfl) ?_
  refine mr_iadd C _ 73 dX8_markOf_72 rfl rfl ?_
  refine mr_istore_n C 74 dX8_markOf_73 rfl rfl (by decide) ?_
  refine mr_iload_n C 75 dX8_markOf_74 rfl rfl ?_
  refine mr_iconst C (nI 1) 76 dX8_markOf_75 rfl rfl ?_
  refine mr_icmpne C 83 79 dX8_markOf_76 (by decide) rfl (fun c_ => absurd (by decide) c_) (fun _ => ?_)
  refine mr_iload_n C 80 dX8_markOf_79 rfl rfl ?_
  refine mr_goto C 99 dX8_markOf_80 (by decide) ?_
  refine mr_iret C dX8_markOf_99 rfl rfl (by decide) (by decide) hlen ?_
  rw [hO]
  exact ⟨_, _, rfl, rfl, (hu8.trans (congrArg (lvT (nI 20)) hu7))⟩

set_option maxRecDepth 20000 in
set_option maxHeartbeats 4000000 in
theorem c_mark2 (E : EG) (a : Nat → Nat) (tn st ac td lt lg cu tk sr tl fa fp gn gi gm : Int32) (la mn im ho fr wa tp wh go se no al be ik ke tc : FN) (c : Nat) (hc : c < 5) (lo1 he1 : Int32) (hlo : ho (22 + 3 * c + 1) = lo1) (hhe : ho (22 + 3 * c + 2) = he1) (hkk : ho (22 + 3 * c + 0) = nI 2) (n : Nat) (hn0 : n ≤ 16) : Ctr E mX8_markOf (4, 0, 0) [.ref (a 0), .int (nI c)] (wM E a tn st la mn im ho fr wa ac tp td lt lg cu tk sr tl fa fp wh go se no al be gn gi gm ik ke tc ((nI n))) (fun v w => ∃ (f : FN) (m : Nat), v = some (.int (nI 2 * (nI c + lo1))) ∧ w = wM E a tn st la mn im ho fr wa ac tp td lt lg cu tk sr tl fa fp wh go se no al be gn gi gm ik ke f ((nI m)) ∧ (f, m) = lvL [nI 24, nI 21, nI 20] (tc, n)) := by
  refine Ctr.of (by decide) (Nat.le_of_ble_eq_true rfl) ?_
  intro Z hO hn C
  have hlen : zn Z ≤ 17 := by rw [hn]; exact Nat.le_of_ble_eq_true rfl
  refine mr_aload_n C 1 dX8_markOf_0 rfl rfl ?_
  refine mr_iload_n C 2 dX8_markOf_1 rfl rfl ?_
  refine mr_iconst C (nI 0) 3 dX8_markOf_2 rfl rfl ?_
  refine mr_callV C (c_of E a tn st ac td lt lg cu tk sr tl fa fp gn gi gm (nI n) la mn im ho fr wa tp wh go se no al be ik ke tc c 0 (by omega) (by decide) (nI 2) hkk) [0, 1, 2, 3, 4, 5, 6, 7, 8, 9, 10, 11, 12, 13, 14, 15, 16] 0 8 6 dX8_markOf_3 rfl mk_X8_of mi_X8_of ml_X8_201 rfl rfl rfl rfl rfl (Nat.le_of_ble_eq_true rfl) (by decide) (by decide) (by decide) rfl rfl (fun r w1 hpost => ?_)
  obtain ⟨rfl, rfl⟩ := hpost
  refine mr_w (wput_all _ _ 17 rfl rfl) ?_
  refine mr_istore_n C 7 dX8_markOf_6 rfl rfl (by decide) ?_
  refine mr_iload_n C 8 dX8_markOf_7 rfl rfl ?_
  refine mr_iconst C (nI 4) 9 dX8_markOf_8 rfl rfl ?_
  refine mr_icmplt C 32 12 dX8_markOf_9 (by decide) rfl (fun _ => ?_) (fun c_ => absurd (by decide) c_)
  refine mr_iload_n C 33 dX8_markOf_32 rfl rfl ?_
  refine mr_iconst C (nI 1) 34 dX8_markOf_33 rfl rfl ?_
  refine mr_icmpeq C 53 37 dX8_markOf_34 (by decide) rfl (fun c_ => absurd c_ (by decide)) (fun _ => ?_)
  refine mr_aload_n C 38 dX8_markOf_37 rfl rfl ?_
  refine mr_iload_n C 39 dX8_markOf_38 rfl rfl ?_
  refine mr_iconst C (nI 3) 40 dX8_markOf_39 rfl rfl ?_
  refine mr_icmpne C 48 43 dX8_markOf_40 (by decide) rfl (fun _ => ?_) (fun c_ => absurd c_ (by decide))
  refine mr_bipush C (nI 24) 50 dX8_markOf_48 rfl rfl ?_
  refine mr_callV C (c_stepped E a tn st ac td lt lg cu tk sr tl fa fp gn gi gm la mn im ho fr wa tp wh go se no al be ik ke tc (nI 24) n hn0) [0, 1, 2, 3, 4, 5, 6, 7, 8, 9, 10, 11, 12, 13, 14, 15, 16] 0 8 53 dX8_markOf_50 rfl mk_X8_stepped mi_X8_stepped ml_X8_290 rfl rfl rfl rfl rfl (Nat.le_of_ble_eq_true rfl) (by decide) (by decide) (by decide) rfl rfl (fun r w1 hpost => ?_)
  obtain ⟨u9, v9, rfl, rfl, hu9⟩ := hpost
  have lhu9 : v9 ≤ 16 := Nat.le_trans (Nat.le_of_eq (congrArg Prod.snd hu9)) (lvT_le hn0)
  refine mr_w (wput_all _ _ 17 rfl rfl) ?_
  refine mr_aload_n C 54 dX8_markOf_53 rfl rfl ?_
  refine mr_bipush C (nI 21) 56 dX8_markOf_54 rfl rfl ?_
  refine mr_callV C (c_stepped E a tn st ac td lt lg cu tk sr tl fa fp gn gi gm la mn im ho fr wa tp wh go se no al be ik ke u9 (nI 21) v9 lhu9) [0, 1, 2, 3, 4, 5, 6, 7, 8, 9, 10, 11, 12, 13, 14, 15, 16] 0 8 59 dX8_markOf_56 rfl mk_X8_stepped mi_X8_stepped ml_X8_290 rfl rfl rfl rfl rfl (Nat.le_of_ble_eq_true rfl) (by decide) (by decide) (by decide) rfl rfl (fun r w1 hpost => ?_)
  obtain ⟨u10, v10, rfl, rfl, hu10⟩ := hpost
  have lhu10 : v10 ≤ 16 := Nat.le_trans (Nat.le_of_eq (congrArg Prod.snd hu10)) (lvT_le lhu9)
  refine mr_w (wput_all _ _ 17 rfl rfl) ?_
  refine mr_aload_n C 60 dX8_markOf_59 rfl rfl ?_
  refine mr_bipush C (nI 20) 62 dX8_markOf_60 rfl rfl ?_
  refine mr_callV C (c_stepped E a tn st ac td lt lg cu tk sr tl fa fp gn gi gm la mn im ho fr wa tp wh go se no al be ik ke u10 (nI 20) v10 lhu10) [0, 1, 2, 3, 4, 5, 6, 7, 8, 9, 10, 11, 12, 13, 14, 15, 16] 0 8 65 dX8_markOf_62 rfl mk_X8_stepped mi_X8_stepped ml_X8_290 rfl rfl rfl rfl rfl (Nat.le_of_ble_eq_true rfl) (by decide) (by decide) (by decide) rfl rfl (fun r w1 hpost => ?_)
  obtain ⟨u11, v11, rfl, rfl, hu11⟩ := hpost
  have lhu11 : v11 ≤ 16 := Nat.le_trans (Nat.le_of_eq (congrArg Prod.snd hu11)) (lvT_le lhu10)
  refine mr_w (wput_all _ _ 17 rfl rfl) ?_
  refine mr_iload_n C 66 dX8_markOf_65 rfl rfl ?_
  refine mr_aload_n C 67 dX8_markOf_66 rfl rfl ?_
  refine mr_iload_n C 68 dX8_markOf_67 rfl rfl ?_
  refine mr_iconst C (nI 1) 69 dX8_markOf_68 rfl rfl ?_
  refine mr_callV C (c_of E a tn st ac td lt lg cu tk sr tl fa fp gn gi gm (nI v11) la mn im ho fr wa tp wh go se no al be ik ke u11 c 1 (by omega) (by decide) lo1 hlo) [0, 1, 2, 3, 4, 5, 6, 7, 8, 9, 10, 11, 12, 13, 14, 15, 16] 0 8 72 dX8_markOf_69 rfl mk_X8_of mi_X8_of ml_X8_201 rfl rfl rfl rfl rfl (Nat.le_of_ble_eq_true rfl) (by decide) (by decide) (by decide) rfl rfl (fun r w1 hpost => ?_)
  obtain ⟨rfl, rfl⟩ := hpost
  refine mr_w (wput_all _ _ 17 rfl rfl) ?_
  refine mr_iadd C _ 73 dX8_markOf_72 rfl rfl ?_
  refine mr_istore_n C 74 dX8_markOf_73 rfl rfl (by decide) ?_
  refine mr_iload_n C 75 dX8_markOf_74 rfl rfl ?_
  refine mr_iconst C (nI 1) 76 dX8_markOf_75 rfl rfl ?_
  refine mr_icmpne C 83 79 dX8_markOf_76 (by decide) rfl (fun _ => ?_) (fun c_ => absurd c_ (by decide))
  refine mr_iload_n C 84 dX8_markOf_83 rfl rfl ?_
  refine mr_iconst C (nI 3) 85 dX8_markOf_84 rfl rfl ?_
  refine mr_icmpne C 96 88 dX8_markOf_85 (by decide) rfl (fun _ => ?_) (fun c_ => absurd c_ (by decide))
  refine mr_iconst C (nI 2) 97 dX8_markOf_96 rfl rfl ?_
  refine mr_iload_n C 98 dX8_markOf_97 rfl rfl ?_
  refine mr_imul C _ 99 dX8_markOf_98 rfl rfl ?_
  refine mr_iret C dX8_markOf_99 rfl rfl (by decide) (by decide) hlen ?_
  rw [hO]
  exact ⟨_, _, rfl, rfl, (hu11.trans (congrArg (lvT (nI 20)) (hu10.trans (congrArg (lvT (nI 21)) hu9))))⟩

set_option maxRecDepth 20000 in
set_option maxHeartbeats 4000000 in
theorem c_mark3 (E : EG) (a : Nat → Nat) (tn st ac td lt lg cu tk sr tl fa fp gn gi gm : Int32) (la mn im ho fr wa tp wh go se no al be ik ke tc : FN) (c : Nat) (hc : c < 5) (lo1 he1 : Int32) (hlo : ho (22 + 3 * c + 1) = lo1) (hhe : ho (22 + 3 * c + 2) = he1) (hkk : ho (22 + 3 * c + 0) = nI 3) (n : Nat) (hn0 : n ≤ 16) : Ctr E mX8_markOf (4, 0, 0) [.ref (a 0), .int (nI c)] (wM E a tn st la mn im ho fr wa ac tp td lt lg cu tk sr tl fa fp wh go se no al be gn gi gm ik ke tc ((nI n))) (fun v w => ∃ (f : FN) (m : Nat), v = some (.int (nI c + lo1 - nI 1000)) ∧ w = wM E a tn st la mn im ho fr wa ac tp td lt lg cu tk sr tl fa fp wh go se no al be gn gi gm ik ke f ((nI m)) ∧ (f, m) = lvL [nI 22, nI 21, nI 20] (tc, n)) := by
  refine Ctr.of (by decide) (Nat.le_of_ble_eq_true rfl) ?_
  intro Z hO hn C
  have hlen : zn Z ≤ 17 := by rw [hn]; exact Nat.le_of_ble_eq_true rfl
  refine mr_aload_n C 1 dX8_markOf_0 rfl rfl ?_
  refine mr_iload_n C 2 dX8_markOf_1 rfl rfl ?_
  refine mr_iconst C (nI 0) 3 dX8_markOf_2 rfl rfl ?_
  refine mr_callV C (c_of E a tn st ac td lt lg cu tk sr tl fa fp gn gi gm (nI n) la mn im ho fr wa tp wh go se no al be ik ke tc c 0 (by omega) (by decide) (nI 3) hkk) [0, 1, 2, 3, 4, 5, 6, 7, 8, 9, 10, 11, 12, 13, 14, 15, 16] 0 8 6 dX8_markOf_3 rfl mk_X8_of mi_X8_of ml_X8_201 rfl rfl rfl rfl rfl (Nat.le_of_ble_eq_true rfl) (by decide) (by decide) (by decide) rfl rfl (fun r w1 hpost => ?_)
  obtain ⟨rfl, rfl⟩ := hpost
  refine mr_w (wput_all _ _ 17 rfl rfl) ?_
  refine mr_istore_n C 7 dX8_markOf_6 rfl rfl (by decide) ?_
  refine mr_iload_n C 8 dX8_markOf_7 rfl rfl ?_
  refine mr_iconst C (nI 4) 9 dX8_markOf_8 rfl rfl ?_
  refine mr_icmplt C 32 12 dX8_markOf_9 (by decide) rfl (fun _ => ?_) (fun c_ => absurd (by decide) c_)
  refine mr_iload_n C 33 dX8_markOf_32 rfl rfl ?_
  refine mr_iconst C (nI 1) 34 dX8_markOf_33 rfl rfl ?_
  refine mr_icmpeq C 53 37 dX8_markOf_34 (by decide) rfl (fun c_ => absurd c_ (by decide)) (fun _ => ?_)
  refine mr_aload_n C 38 dX8_markOf_37 rfl rfl ?_
  refine mr_iload_n C 39 dX8_markOf_38 rfl rfl ?_
  refine mr_iconst C (nI 3) 40 dX8_markOf_39 rfl rfl ?_
  refine mr_icmpne C 48 43 dX8_markOf_40 (by decide) rfl (fun c_ => absurd (by decide) c_) (fun _ => ?_)
  refine mr_bipush C (nI 22) 45 dX8_markOf_43 rfl rfl ?_
  refine mr_goto C 50 dX8_markOf_45 (by decide) ?_
  refine mr_callV C (c_stepped E a tn st ac td lt lg cu tk sr tl fa fp gn gi gm la mn im ho fr wa tp wh go se no al be ik ke tc (nI 22) n hn0) [0, 1, 2, 3, 4, 5, 6, 7, 8, 9, 10, 11, 12, 13, 14, 15, 16] 0 8 53 dX8_markOf_50 rfl mk_X8_stepped mi_X8_stepped ml_X8_290 rfl rfl rfl rfl rfl (Nat.le_of_ble_eq_true rfl) (by decide) (by decide) (by decide) rfl rfl (fun r w1 hpost => ?_)
  obtain ⟨u12, v12, rfl, rfl, hu12⟩ := hpost
  have lhu12 : v12 ≤ 16 := Nat.le_trans (Nat.le_of_eq (congrArg Prod.snd hu12)) (lvT_le hn0)
  refine mr_w (wput_all _ _ 17 rfl rfl) ?_
  refine mr_aload_n C 54 dX8_markOf_53 rfl rfl ?_
  refine mr_bipush C (nI 21) 56 dX8_markOf_54 rfl rfl ?_
  refine mr_callV C (c_stepped E a tn st ac td lt lg cu tk sr tl fa fp gn gi gm la mn im ho fr wa tp wh go se no al be ik ke u12 (nI 21) v12 lhu12) [0, 1, 2, 3, 4, 5, 6, 7, 8, 9, 10, 11, 12, 13, 14, 15, 16] 0 8 59 dX8_markOf_56 rfl mk_X8_stepped mi_X8_stepped ml_X8_290 rfl rfl rfl rfl rfl (Nat.le_of_ble_eq_true rfl) (by decide) (by decide) (by decide) rfl rfl (fun r w1 hpost => ?_)
  obtain ⟨u13, v13, rfl, rfl, hu13⟩ := hpost
  have lhu13 : v13 ≤ 16 := Nat.le_trans (Nat.le_of_eq (congrArg Prod.snd hu13)) (lvT_le lhu12)
  refine mr_w (wput_all _ _ 17 rfl rfl) ?_
  refine mr_aload_n C 60 dX8_markOf_59 rfl rfl ?_
  refine mr_bipush C (nI 20) 62 dX8_markOf_60 rfl rfl ?_
  refine mr_callV C (c_stepped E a tn st ac td lt lg cu tk sr tl fa fp gn gi gm la mn im ho fr wa tp wh go se no al be ik ke u13 (nI 20) v13 lhu13) [0, 1, 2, 3, 4, 5, 6, 7, 8, 9, 10, 11, 12, 13, 14, 15, 16] 0 8 65 dX8_markOf_62 rfl mk_X8_stepped mi_X8_stepped ml_X8_290 rfl rfl rfl rfl rfl (Nat.le_of_ble_eq_true rfl) (by decide) (by decide) (by decide) rfl rfl (fun r w1 hpost => ?_)
  obtain ⟨u14, v14, rfl, rfl, hu14⟩ := hpost
  have lhu14 : v14 ≤ 16 := Nat.le_trans (Nat.le_of_eq (congrArg Prod.snd hu14)) (lvT_le lhu13)
  refine mr_w (wput_all _ _ 17 rfl rfl) ?_
  refine mr_iload_n C 66 dX8_markOf_65 rfl rfl ?_
  refine mr_aload_n C 67 dX8_markOf_66 rfl rfl ?_
  refine mr_iload_n C 68 dX8_markOf_67 rfl rfl ?_
  refine mr_iconst C (nI 1) 69 dX8_markOf_68 rfl rfl ?_
  refine mr_callV C (c_of E a tn st ac td lt lg cu tk sr tl fa fp gn gi gm (nI v14) la mn im ho fr wa tp wh go se no al be ik ke u14 c 1 (by omega) (by decide) lo1 hlo) [0, 1, 2, 3, 4, 5, 6, 7, 8, 9, 10, 11, 12, 13, 14, 15, 16] 0 8 72 dX8_markOf_69 rfl mk_X8_of mi_X8_of ml_X8_201 rfl rfl rfl rfl rfl (Nat.le_of_ble_eq_true rfl) (by decide) (by decide) (by decide) rfl rfl (fun r w1 hpost => ?_)
  obtain ⟨rfl, rfl⟩ := hpost
  refine mr_w (wput_all _ _ 17 rfl rfl) ?_
  refine mr_iadd C _ 73 dX8_markOf_72 rfl rfl ?_
  refine mr_istore_n C 74 dX8_markOf_73 rfl rfl (by decide) ?_
  refine mr_iload_n C 75 dX8_markOf_74 rfl rfl ?_
  refine mr_iconst C (nI 1) 76 dX8_markOf_75 rfl rfl ?_
  refine mr_icmpne C 83 79 dX8_markOf_76 (by decide) rfl (fun _ => ?_) (fun c_ => absurd c_ (by decide))
  refine mr_iload_n C 84 dX8_markOf_83 rfl rfl ?_
  refine mr_iconst C (nI 3) 85 dX8_markOf_84 rfl rfl ?_
  refine mr_icmpne C 96 88 dX8_markOf_85 (by decide) rfl (fun c_ => absurd (by decide) c_) (fun _ => ?_)
  refine mr_iload_n C 89 dX8_markOf_88 rfl rfl ?_
  refine mr_sipush C (nI 1000) 92 dX8_markOf_89 rfl rfl ?_
  refine mr_isub C _ 93 dX8_markOf_92 rfl rfl ?_
  refine mr_goto C 99 dX8_markOf_93 (by decide) ?_
  refine mr_iret C dX8_markOf_99 rfl rfl (by decide) (by decide) hlen ?_
  rw [hO]
  exact ⟨_, _, rfl, rfl, (hu14.trans (congrArg (lvT (nI 20)) (hu13.trans (congrArg (lvT (nI 21)) hu12))))⟩

set_option maxRecDepth 20000 in
set_option maxHeartbeats 4000000 in
theorem c_mark4 (E : EG) (a : Nat → Nat) (tn st ac td lt lg cu tk sr tl fa fp gn gi gm : Int32) (la mn im ho fr wa tp wh go se no al be ik ke tc : FN) (c : Nat) (hc : c < 5) (lo1 he1 : Int32) (hlo : ho (22 + 3 * c + 1) = lo1) (hhe : ho (22 + 3 * c + 2) = he1) (hkk : ho (22 + 3 * c + 0) = nI 4) (n : Nat) (hn0 : n ≤ 16) : Ctr E mX8_markOf (4, 0, 0) [.ref (a 0), .int (nI c)] (wM E a tn st la mn im ho fr wa ac tp td lt lg cu tk sr tl fa fp wh go se no al be gn gi gm ik ke tc ((nI n))) (fun v w => ∃ (f : FN) (m : Nat), v = some (.int (nI c - (he1 - nI 100))) ∧ w = wM E a tn st la mn im ho fr wa ac tp td lt lg cu tk sr tl fa fp wh go se no al be gn gi gm ik ke f ((nI m)) ∧ (f, m) = lvL [nI 23, nI 20, nI 13, nI 10] (tc, n)) := by
  refine Ctr.of (by decide) (Nat.le_of_ble_eq_true rfl) ?_
  intro Z hO hn C
  have hlen : zn Z ≤ 17 := by rw [hn]; exact Nat.le_of_ble_eq_true rfl
  refine mr_aload_n C 1 dX8_markOf_0 rfl rfl ?_
  refine mr_iload_n C 2 dX8_markOf_1 rfl rfl ?_
  refine mr_iconst C (nI 0) 3 dX8_markOf_2 rfl rfl ?_
  refine mr_callV C (c_of E a tn st ac td lt lg cu tk sr tl fa fp gn gi gm (nI n) la mn im ho fr wa tp wh go se no al be ik ke tc c 0 (by omega) (by decide) (nI 4) hkk) [0, 1, 2, 3, 4, 5, 6, 7, 8, 9, 10, 11, 12, 13, 14, 15, 16] 0 8 6 dX8_markOf_3 rfl mk_X8_of mi_X8_of ml_X8_201 rfl rfl rfl rfl rfl (Nat.le_of_ble_eq_true rfl) (by decide) (by decide) (by decide) rfl rfl (fun r w1 hpost => ?_)
  obtain ⟨rfl, rfl⟩ := hpost
  refine mr_w (wput_all _ _ 17 rfl rfl) ?_
  refine mr_istore_n C 7 dX8_markOf_6 rfl rfl (by decide) ?_
  refine mr_iload_n C 8 dX8_markOf_7 rfl rfl ?_
  refine mr_iconst C (nI 4) 9 dX8_markOf_8 rfl rfl ?_
  refine mr_icmplt C 32 12 dX8_markOf_9 (by decide) rfl (fun c_ => absurd c_ (by decide)) (fun _ => ?_)
  refine mr_aload_n C 13 dX8_markOf_12 rfl rfl ?_
  refine mr_bipush C (nI 23) 15 dX8_markOf_13 rfl rfl ?_
  refine mr_callV C (c_stepped E a tn st ac td lt lg cu tk sr tl fa fp gn gi gm la mn im ho fr wa tp wh go se no al be ik ke tc (nI 23) n hn0) [0, 1, 2, 3, 4, 5, 6, 7, 8, 9, 10, 11, 12, 13, 14, 15, 16] 0 8 18 dX8_markOf_15 rfl mk_X8_stepped mi_X8_stepped ml_X8_290 rfl rfl rfl rfl rfl (Nat.le_of_ble_eq_true rfl) (by decide) (by decide) (by decide) rfl rfl (fun r w1 hpost => ?_)
  obtain ⟨u15, v15, rfl, rfl, hu15⟩ := hpost
  have lhu15 : v15 ≤ 16 := Nat.le_trans (Nat.le_of_eq (congrArg Prod.snd hu15)) (lvT_le hn0)
  refine mr_w (wput_all _ _ 17 rfl rfl) ?_
  refine mr_aload_n C 19 dX8_markOf_18 rfl rfl ?_
  refine mr_bipush C (nI 20) 21 dX8_markOf_19 rfl rfl ?_
  refine mr_callV C (c_stepped E a tn st ac td lt lg cu tk sr tl fa fp gn gi gm la mn im ho fr wa tp wh go se no al be ik ke u15 (nI 20) v15 lhu15) [0, 1, 2, 3, 4, 5, 6, 7, 8, 9, 10, 11, 12, 13, 14, 15, 16] 0 8 24 dX8_markOf_21 rfl mk_X8_stepped mi_X8_stepped ml_X8_290 rfl rfl rfl rfl rfl (Nat.le_of_ble_eq_true rfl) (by decide) (by decide) (by decide) rfl rfl (fun r w1 hpost => ?_)
  obtain ⟨u16, v16, rfl, rfl, hu16⟩ := hpost
  have lhu16 : v16 ≤ 16 := Nat.le_trans (Nat.le_of_eq (congrArg Prod.snd hu16)) (lvT_le lhu15)
  refine mr_w (wput_all _ _ 17 rfl rfl) ?_
  refine mr_iload_n C 25 dX8_markOf_24 rfl rfl ?_
  refine mr_aload_n C 26 dX8_markOf_25 rfl rfl ?_
  refine mr_iload_n C 27 dX8_markOf_26 rfl rfl ?_
  refine mr_callV C (c_stay4 E a tn st ac td lt lg cu tk sr tl fa fp gn gi gm la mn im ho fr wa tp wh go se no al be ik ke u16 c hc lo1 he1 hlo hhe hkk v16 lhu16) [0, 1, 2, 3, 4, 5, 6, 7, 8, 9, 10, 11, 12, 13, 14, 15, 16] 0 8 30 dX8_markOf_27 rfl mk_X8_staySize mi_X8_staySize ml_X8_296 rfl rfl rfl rfl rfl (Nat.le_of_ble_eq_true rfl) (by decide) (by decide) (by decide) rfl rfl (fun r w1 hpost => ?_)
  obtain ⟨u17, v17, rfl, rfl, hu17⟩ := hpost
  have lhu17 : v17 ≤ 16 := Nat.le_trans (Nat.le_of_eq (congrArg Prod.snd hu17)) (lvL_le _ lhu16)
  refine mr_w (wput_all _ _ 17 rfl rfl) ?_
  refine mr_isub C _ 31 dX8_markOf_30 rfl rfl ?_
  refine mr_iret C dX8_markOf_31 rfl rfl (by decide) (by decide) hlen ?_
  rw [hO]
  exact ⟨_, _, rfl, rfl, (hu17.trans (congrArg (lvL [nI 13, nI 10]) (hu16.trans (congrArg (lvT (nI 20)) hu15))))⟩

set_option maxRecDepth 20000 in
set_option maxHeartbeats 4000000 in
theorem c_mark5 (E : EG) (a : Nat → Nat) (tn st ac td lt lg cu tk sr tl fa fp gn gi gm : Int32) (la mn im ho fr wa tp wh go se no al be ik ke tc : FN) (c : Nat) (hc : c < 5) (lo1 he1 : Int32) (hlo : ho (22 + 3 * c + 1) = lo1) (hhe : ho (22 + 3 * c + 2) = he1) (hkk : ho (22 + 3 * c + 0) = nI 5) (n : Nat) (hn0 : n ≤ 16) : Ctr E mX8_markOf (4, 0, 0) [.ref (a 0), .int (nI c)] (wM E a tn st la mn im ho fr wa ac tp td lt lg cu tk sr tl fa fp wh go se no al be gn gi gm ik ke tc ((nI n))) (fun v w => ∃ (f : FN) (m : Nat), v = some (.int (nI c - (nI 2 * (he1 - nI 100)))) ∧ w = wM E a tn st la mn im ho fr wa ac tp td lt lg cu tk sr tl fa fp wh go se no al be gn gi gm ik ke f ((nI m)) ∧ (f, m) = lvL [nI 23, nI 20, nI 14, nI 13, nI 10] (tc, n)) := by
  refine Ctr.of (by decide) (Nat.le_of_ble_eq_true rfl) ?_
  intro Z hO hn C
  have hlen : zn Z ≤ 17 := by rw [hn]; exact Nat.le_of_ble_eq_true rfl
  refine mr_aload_n C 1 dX8_markOf_0 rfl rfl ?_
  refine mr_iload_n C 2 dX8_markOf_1 rfl rfl ?_
  refine mr_iconst C (nI 0) 3 dX8_markOf_2 rfl rfl ?_
  refine mr_callV C (c_of E a tn st ac td lt lg cu tk sr tl fa fp gn gi gm (nI n) la mn im ho fr wa tp wh go se no al be ik ke tc c 0 (by omega) (by decide) (nI 5) hkk) [0, 1, 2, 3, 4, 5, 6, 7, 8, 9, 10, 11, 12, 13, 14, 15, 16] 0 8 6 dX8_markOf_3 rfl mk_X8_of mi_X8_of ml_X8_201 rfl rfl rfl rfl rfl (Nat.le_of_ble_eq_true rfl) (by decide) (by decide) (by decide) rfl rfl (fun r w1 hpost => ?_)
  obtain ⟨rfl, rfl⟩ := hpost
  refine mr_w (wput_all _ _ 17 rfl rfl) ?_
  refine mr_istore_n C 7 dX8_markOf_6 rfl rfl (by decide) ?_
  refine mr_iload_n C 8 dX8_markOf_7 rfl rfl ?_
  refine mr_iconst C (nI 4) 9 dX8_markOf_8 rfl rfl ?_
  refine mr_icmplt C 32 12 dX8_markOf_9 (by decide) rfl (fun c_ => absurd c_ (by decide)) (fun _ => ?_)
  refine mr_aload_n C 13 dX8_markOf_12 rfl rfl ?_
  refine mr_bipush C (nI 23) 15 dX8_markOf_13 rfl rfl ?_
  refine mr_callV C (c_stepped E a tn st ac td lt lg cu tk sr tl fa fp gn gi gm la mn im ho fr wa tp wh go se no al be ik ke tc (nI 23) n hn0) [0, 1, 2, 3, 4, 5, 6, 7, 8, 9, 10, 11, 12, 13, 14, 15, 16] 0 8 18 dX8_markOf_15 rfl mk_X8_stepped mi_X8_stepped ml_X8_290 rfl rfl rfl rfl rfl (Nat.le_of_ble_eq_true rfl) (by decide) (by decide) (by decide) rfl rfl (fun r w1 hpost => ?_)
  obtain ⟨u18, v18, rfl, rfl, hu18⟩ := hpost
  have lhu18 : v18 ≤ 16 := Nat.le_trans (Nat.le_of_eq (congrArg Prod.snd hu18)) (lvT_le hn0)
  refine mr_w (wput_all _ _ 17 rfl rfl) ?_
  refine mr_aload_n C 19 dX8_markOf_18 rfl rfl ?_
  refine mr_bipush C (nI 20) 21 dX8_markOf_19 rfl rfl ?_
  refine mr_callV C (c_stepped E a tn st ac td lt lg cu tk sr tl fa fp gn gi gm la mn im ho fr wa tp wh go se no al be ik ke u18 (nI 20) v18 lhu18) [0, 1, 2, 3, 4, 5, 6, 7, 8, 9, 10, 11, 12, 13, 14, 15, 16] 0 8 24 dX8_markOf_21 rfl mk_X8_stepped mi_X8_stepped ml_X8_290 rfl rfl rfl rfl rfl (Nat.le_of_ble_eq_true rfl) (by decide) (by decide) (by decide) rfl rfl (fun r w1 hpost => ?_)
  obtain ⟨u19, v19, rfl, rfl, hu19⟩ := hpost
  have lhu19 : v19 ≤ 16 := Nat.le_trans (Nat.le_of_eq (congrArg Prod.snd hu19)) (lvT_le lhu18)
  refine mr_w (wput_all _ _ 17 rfl rfl) ?_
  refine mr_iload_n C 25 dX8_markOf_24 rfl rfl ?_
  refine mr_aload_n C 26 dX8_markOf_25 rfl rfl ?_
  refine mr_iload_n C 27 dX8_markOf_26 rfl rfl ?_
  refine mr_callV C (c_stay5 E a tn st ac td lt lg cu tk sr tl fa fp gn gi gm la mn im ho fr wa tp wh go se no al be ik ke u19 c hc lo1 he1 hlo hhe hkk v19 lhu19) [0, 1, 2, 3, 4, 5, 6, 7, 8, 9, 10, 11, 12, 13, 14, 15, 16] 0 8 30 dX8_markOf_27 rfl mk_X8_staySize mi_X8_staySize ml_X8_296 rfl rfl rfl rfl rfl (Nat.le_of_ble_eq_true rfl) (by decide) (by decide) (by decide) rfl rfl (fun r w1 hpost => ?_)
  obtain ⟨u20, v20, rfl, rfl, hu20⟩ := hpost
  have lhu20 : v20 ≤ 16 := Nat.le_trans (Nat.le_of_eq (congrArg Prod.snd hu20)) (lvL_le _ lhu19)
  refine mr_w (wput_all _ _ 17 rfl rfl) ?_
  refine mr_isub C _ 31 dX8_markOf_30 rfl rfl ?_
  refine mr_iret C dX8_markOf_31 rfl rfl (by decide) (by decide) hlen ?_
  rw [hO]
  exact ⟨_, _, rfl, rfl, (hu20.trans (congrArg (lvL [nI 14, nI 13, nI 10]) (hu19.trans (congrArg (lvT (nI 20)) hu18))))⟩

set_option maxRecDepth 20000 in
set_option maxHeartbeats 4000000 in
theorem c_size1 (E : EG) (a : Nat → Nat) (tn st ac td lt lg cu tk sr tl fa fp gn gi gm : Int32) (la mn im ho fr wa tp wh go se no al be ik ke tc : FN) (c : Nat) (hc : c < 5) (lo1 he1 : Int32) (hlo : ho (22 + 3 * c + 1) = lo1) (hhe : ho (22 + 3 * c + 2) = he1) (hkk : ho (22 + 3 * c + 0) = nI 1) (n : Nat) (hn0 : n ≤ 16) : Ctr E mX8_sizeOf (5, 0, 0) [.ref (a 0), .int (nI c)] (wM E a tn st la mn im ho fr wa ac tp td lt lg cu tk sr tl fa fp wh go se no al be gn gi gm ik ke tc ((nI n))) (fun v w => ∃ (f : FN) (m : Nat), v = some (.int (he1 + (nI c + lo1))) ∧ w = wM E a tn st la mn im ho fr wa ac tp td lt lg cu tk sr tl fa fp wh go se no al be gn gi gm ik ke f ((nI m)) ∧ (f, m) = lvL [nI 11, nI 10, nI 21, nI 20] (tc, n)) := by
  refine Ctr.of (by decide) (Nat.le_of_ble_eq_true rfl) ?_
  intro Z hO hn C
  have hlen : zn Z ≤ 17 := by rw [hn]; exact Nat.le_of_ble_eq_true rfl
  refine mr_aload_n C 1 dX8_sizeOf_0 rfl rfl ?_
  refine mr_iload_n C 2 dX8_sizeOf_1 rfl rfl ?_
  refine mr_iconst C (nI 0) 3 dX8_sizeOf_2 rfl rfl ?_
  refine mr_callV C (c_of E a tn st ac td lt lg cu tk sr tl fa fp gn gi gm (nI n) la mn im ho fr wa tp wh go se no al be ik ke tc c 0 (by omega) (by decide) (nI 1) hkk) [0, 1, 2, 3, 4, 5, 6, 7, 8, 9, 10, 11, 12, 13, 14, 15, 16] 0 8 6 dX8_sizeOf_3 rfl mk_X8_of mi_X8_of ml_X8_201 rfl rfl rfl rfl rfl (Nat.le_of_ble_eq_true rfl) (by decide) (by decide) (by decide) rfl rfl (fun r w1 hpost => ?_)
  obtain ⟨rfl, rfl⟩ := hpost
  refine mr_w (wput_all _ _ 17 rfl rfl) ?_
  refine mr_istore_n C 7 dX8_sizeOf_6 rfl rfl (by decide) ?_
  refine mr_iload_n C 8 dX8_sizeOf_7 rfl rfl ?_
  refine mr_iconst C (nI 4) 9 dX8_sizeOf_8 rfl rfl ?_
  refine mr_icmplt C 18 12 dX8_sizeOf_9 (by decide) rfl (fun _ => ?_) (fun c_ => absurd (by decide) c_)
  refine mr_iload_n C 19 dX8_sizeOf_18 rfl rfl ?_
  refine mr_iconst C (nI 2) 20 dX8_sizeOf_19 rfl rfl ?_
  refine mr_icmpne C 29 23 dX8_sizeOf_20 (by decide) rfl (fun _ => ?_) (fun c_ => absurd c_ (by decide))
  refine mr_aload_n C 30 dX8_sizeOf_29 rfl rfl ?_
  refine mr_bipush C (nI 11) 32 dX8_sizeOf_30 rfl rfl ?_
  refine mr_callV C (c_stepped E a tn st ac td lt lg cu tk sr tl fa fp gn gi gm la mn im ho fr wa tp wh go se no al be ik ke tc (nI 11) n hn0) [0, 1, 2, 3, 4, 5, 6, 7, 8, 9, 10, 11, 12, 13, 14, 15, 16] 0 8 35 dX8_sizeOf_32 rfl mk_X8_stepped mi_X8_stepped ml_X8_290 rfl rfl rfl rfl rfl (Nat.le_of_ble_eq_true rfl) (by decide) (by decide) (by decide) rfl rfl (fun r w1 hpost => ?_)
  obtain ⟨u21, v21, rfl, rfl, hu21⟩ := hpost
  have lhu21 : v21 ≤ 16 := Nat.le_trans (Nat.le_of_eq (congrArg Prod.snd hu21)) (lvT_le hn0)
  refine mr_w (wput_all _ _ 17 rfl rfl) ?_
  refine mr_aload_n C 36 dX8_sizeOf_35 rfl rfl ?_
  refine mr_iload_n C 37 dX8_sizeOf_36 rfl rfl ?_
  refine mr_callV C (c_plain E a tn st ac td lt lg cu tk sr tl fa fp gn gi gm la mn im ho fr wa tp wh go se no al be ik ke u21 c hc lo1 he1 hlo hhe v21 lhu21) [0, 1, 2, 3, 4, 5, 6, 7, 8, 9, 10, 11, 12, 13, 14, 15, 16] 0 8 40 dX8_sizeOf_37 rfl mk_X8_plainSize mi_X8_plainSize ml_X8_293 rfl rfl rfl rfl rfl (Nat.le_of_ble_eq_true rfl) (by decide) (by decide) (by decide) rfl rfl (fun r w1 hpost => ?_)
  obtain ⟨u22, v22, rfl, rfl, hu22⟩ := hpost
  have lhu22 : v22 ≤ 16 := Nat.le_trans (Nat.le_of_eq (congrArg Prod.snd hu22)) (lvL_le _ lhu21)
  refine mr_w (wput_all _ _ 17 rfl rfl) ?_
  refine mr_istore_n C 41 dX8_sizeOf_40 rfl rfl (by decide) ?_
  refine mr_iload_n C 42 dX8_sizeOf_41 rfl rfl ?_
  refine mr_aload_n C 43 dX8_sizeOf_42 rfl rfl ?_
  refine mr_iload_n C 44 dX8_sizeOf_43 rfl rfl ?_
  refine mr_callV C (c_mark1 E a tn st ac td lt lg cu tk sr tl fa fp gn gi gm la mn im ho fr wa tp wh go se no al be ik ke u22 c hc lo1 he1 hlo hhe hkk v22 lhu22) [0, 1, 2, 3, 4, 5, 6, 7, 8, 9, 10, 11, 12, 13, 14, 15, 16] 0 8 47 dX8_sizeOf_44 rfl mk_X8_markOf mi_X8_markOf ml_X8_299 rfl rfl rfl rfl rfl (Nat.le_of_ble_eq_true rfl) (by decide) (by decide) (by decide) rfl rfl (fun r w1 hpost => ?_)
  obtain ⟨u23, v23, rfl, rfl, hu23⟩ := hpost
  have lhu23 : v23 ≤ 16 := Nat.le_trans (Nat.le_of_eq (congrArg Prod.snd hu23)) (lvL_le _ lhu22)
  refine mr_w (wput_all _ _ 17 rfl rfl) ?_
  refine mr_iadd C _ 48 dX8_sizeOf_47 rfl rfl ?_
  refine mr_istore_n C 49 dX8_sizeOf_48 rfl rfl (by decide) ?_
  refine mr_iload_n C 50 dX8_sizeOf_49 rfl rfl ?_
  refine mr_iconst C (nI 2) 51 dX8_sizeOf_50 rfl rfl ?_
  refine mr_icmpne C 59 54 dX8_sizeOf_51 (by decide) rfl (fun _ => ?_) (fun c_ => absurd c_ (by decide))
  refine mr_iload_n C 60 dX8_sizeOf_59 rfl rfl ?_
  refine mr_iret C dX8_sizeOf_60 rfl rfl (by decide) (by decide) hlen ?_
  rw [hO]
  exact ⟨_, _, rfl, rfl, (hu23.trans (congrArg (lvL [nI 21, nI 20]) (hu22.trans (congrArg (lvL [nI 10]) hu21))))⟩

set_option maxRecDepth 20000 in
set_option maxHeartbeats 4000000 in
theorem c_size2 (E : EG) (a : Nat → Nat) (tn st ac td lt lg cu tk sr tl fa fp gn gi gm : Int32) (la mn im ho fr wa tp wh go se no al be ik ke tc : FN) (c : Nat) (hc : c < 5) (lo1 he1 : Int32) (hlo : ho (22 + 3 * c + 1) = lo1) (hhe : ho (22 + 3 * c + 2) = he1) (hkk : ho (22 + 3 * c + 0) = nI 2) (n : Nat) (hn0 : n ≤ 16) : Ctr E mX8_sizeOf (5, 0, 0) [.ref (a 0), .int (nI c)] (wM E a tn st la mn im ho fr wa ac tp td lt lg cu tk sr tl fa fp wh go se no al be gn gi gm ik ke tc ((nI n))) (fun v w => ∃ (f : FN) (m : Nat), v = some (.int (-(he1 + (nI 2 * (nI c + lo1))))) ∧ w = wM E a tn st la mn im ho fr wa ac tp td lt lg cu tk sr tl fa fp wh go se no al be gn gi gm ik ke f ((nI m)) ∧ (f, m) = lvL [nI 12, nI 11, nI 10, nI 24, nI 21, nI 20] (tc, n)) := by
  refine Ctr.of (by decide) (Nat.le_of_ble_eq_true rfl) ?_
  intro Z hO hn C
  have hlen : zn Z ≤ 17 := by rw [hn]; exact Nat.le_of_ble_eq_true rfl
  refine mr_aload_n C 1 dX8_sizeOf_0 rfl rfl ?_
  refine mr_iload_n C 2 dX8_sizeOf_1 rfl rfl ?_
  refine mr_iconst C (nI 0) 3 dX8_sizeOf_2 rfl rfl ?_
  refine mr_callV C (c_of E a tn st ac td lt lg cu tk sr tl fa fp gn gi gm (nI n) la mn im ho fr wa tp wh go se no al be ik ke tc c 0 (by omega) (by decide) (nI 2) hkk) [0, 1, 2, 3, 4, 5, 6, 7, 8, 9, 10, 11, 12, 13, 14, 15, 16] 0 8 6 dX8_sizeOf_3 rfl mk_X8_of mi_X8_of ml_X8_201 rfl rfl rfl rfl rfl (Nat.le_of_ble_eq_true rfl) (by decide) (by decide) (by decide) rfl rfl (fun r w1 hpost => ?_)
  obtain ⟨rfl, rfl⟩ := hpost
  refine mr_w (wput_all _ _ 17 rfl rfl) ?_
  refine mr_istore_n C 7 dX8_sizeOf_6 rfl rfl (by decide) ?_
  refine mr_iload_n C 8 dX8_sizeOf_7 rfl rfl ?_
  refine mr_iconst C (nI 4) 9 dX8_sizeOf_8 rfl rfl ?_
  refine mr_icmplt C 18 12 dX8_sizeOf_9 (by decide) rfl (fun _ => ?_) (fun c_ => absurd (by decide) c_)
  refine mr_iload_n C 19 dX8_sizeOf_18 rfl rfl ?_
  refine mr_iconst C (nI 2) 20 dX8_sizeOf_19 rfl rfl ?_
  refine mr_icmpne C 29 23 dX8_sizeOf_20 (by decide) rfl (fun c_ => absurd (by decide) c_) (fun _ => ?_)
  refine mr_aload_n C 24 dX8_sizeOf_23 rfl rfl ?_
  refine mr_bipush C (nI 12) 26 dX8_sizeOf_24 rfl rfl ?_
  refine mr_callV C (c_stepped E a tn st ac td lt lg cu tk sr tl fa fp gn gi gm la mn im ho fr wa tp wh go se no al be ik ke tc (nI 12) n hn0) [0, 1, 2, 3, 4, 5, 6, 7, 8, 9, 10, 11, 12, 13, 14, 15, 16] 0 8 29 dX8_sizeOf_26 rfl mk_X8_stepped mi_X8_stepped ml_X8_290 rfl rfl rfl rfl rfl (Nat.le_of_ble_eq_true rfl) (by decide) (by decide) (by decide) rfl rfl (fun r w1 hpost => ?_)
  obtain ⟨u24, v24, rfl, rfl, hu24⟩ := hpost
  have lhu24 : v24 ≤ 16 := Nat.le_trans (Nat.le_of_eq (congrArg Prod.snd hu24)) (lvT_le hn0)
  refine mr_w (wput_all _ _ 17 rfl rfl) ?_
  refine mr_aload_n C 30 dX8_sizeOf_29 rfl rfl ?_
  refine mr_bipush C (nI 11) 32 dX8_sizeOf_30 rfl rfl ?_
  refine mr_callV C (c_stepped E a tn st ac td lt lg cu tk sr tl fa fp gn gi gm la mn im ho fr wa tp wh go se no al be ik ke u24 (nI 11) v24 lhu24) [0, 1, 2, 3, 4, 5, 6, 7, 8, 9, 10, 11, 12, 13, 14, 15, 16] 0 8 35 dX8_sizeOf_32 rfl mk_X8_stepped mi_X8_stepped ml_X8_290 rfl rfl rfl rfl rfl (Nat.le_of_ble_eq_true rfl) (by decide) (by decide) (by decide) rfl rfl (fun r w1 hpost => ?_)
  obtain ⟨u25, v25, rfl, rfl, hu25⟩ := hpost
  have lhu25 : v25 ≤ 16 := Nat.le_trans (Nat.le_of_eq (congrArg Prod.snd hu25)) (lvT_le lhu24)
  refine mr_w (wput_all _ _ 17 rfl rfl) ?_
  refine mr_aload_n C 36 dX8_sizeOf_35 rfl rfl ?_
  refine mr_iload_n C 37 dX8_sizeOf_36 rfl rfl ?_
  refine mr_callV C (c_plain E a tn st ac td lt lg cu tk sr tl fa fp gn gi gm la mn im ho fr wa tp wh go se no al be ik ke u25 c hc lo1 he1 hlo hhe v25 lhu25) [0, 1, 2, 3, 4, 5, 6, 7, 8, 9, 10, 11, 12, 13, 14, 15, 16] 0 8 40 dX8_sizeOf_37 rfl mk_X8_plainSize mi_X8_plainSize ml_X8_293 rfl rfl rfl rfl rfl (Nat.le_of_ble_eq_true rfl) (by decide) (by decide) (by decide) rfl rfl (fun r w1 hpost => ?_)
  obtain ⟨u26, v26, rfl, rfl, hu26⟩ := hpost
  have lhu26 : v26 ≤ 16 := Nat.le_trans (Nat.le_of_eq (congrArg Prod.snd hu26)) (lvL_le _ lhu25)
  refine mr_w (wput_all _ _ 17 rfl rfl) ?_
  refine mr_istore_n C 41 dX8_sizeOf_40 rfl rfl (by decide) ?_
  refine mr_iload_n C 42 dX8_sizeOf_41 rfl rfl ?_
  refine mr_aload_n C 43 dX8_sizeOf_42 rfl rfl ?_
  refine mr_iload_n C 44 dX8_sizeOf_43 rfl rfl ?_
  refine mr_callV C (c_mark2 E a tn st ac td lt lg cu tk sr tl fa fp gn gi gm la mn im ho fr wa tp wh go se no al be ik ke u26 c hc lo1 he1 hlo hhe hkk v26 lhu26) [0, 1, 2, 3, 4, 5, 6, 7, 8, 9, 10, 11, 12, 13, 14, 15, 16] 0 8 47 dX8_sizeOf_44 rfl mk_X8_markOf mi_X8_markOf ml_X8_299 rfl rfl rfl rfl rfl (Nat.le_of_ble_eq_true rfl) (by decide) (by decide) (by decide) rfl rfl (fun r w1 hpost => ?_)
  obtain ⟨u27, v27, rfl, rfl, hu27⟩ := hpost
  have lhu27 : v27 ≤ 16 := Nat.le_trans (Nat.le_of_eq (congrArg Prod.snd hu27)) (lvL_le _ lhu26)
  refine mr_w (wput_all _ _ 17 rfl rfl) ?_
  refine mr_iadd C _ 48 dX8_sizeOf_47 rfl rfl ?_
  refine mr_istore_n C 49 dX8_sizeOf_48 rfl rfl (by decide) ?_
  refine mr_iload_n C 50 dX8_sizeOf_49 rfl rfl ?_
  refine mr_iconst C (nI 2) 51 dX8_sizeOf_50 rfl rfl ?_
  refine mr_icmpne C 59 54 dX8_sizeOf_51 (by decide) rfl (fun c_ => absurd (by decide) c_) (fun _ => ?_)
  refine mr_iload_n C 55 dX8_sizeOf_54 rfl rfl ?_
  refine mr_ineg C 56 dX8_sizeOf_55 rfl ?_
  refine mr_goto C 60 dX8_sizeOf_56 (by decide) ?_
  refine mr_iret C dX8_sizeOf_60 rfl rfl (by decide) (by decide) hlen ?_
  rw [hO]
  exact ⟨_, _, rfl, rfl, (hu27.trans (congrArg (lvL [nI 24, nI 21, nI 20]) (hu26.trans (congrArg (lvL [nI 10]) (hu25.trans (congrArg (lvT (nI 11)) hu24))))))⟩

set_option maxRecDepth 20000 in
set_option maxHeartbeats 4000000 in
theorem c_size3 (E : EG) (a : Nat → Nat) (tn st ac td lt lg cu tk sr tl fa fp gn gi gm : Int32) (la mn im ho fr wa tp wh go se no al be ik ke tc : FN) (c : Nat) (hc : c < 5) (lo1 he1 : Int32) (hlo : ho (22 + 3 * c + 1) = lo1) (hhe : ho (22 + 3 * c + 2) = he1) (hkk : ho (22 + 3 * c + 0) = nI 3) (n : Nat) (hn0 : n ≤ 16) : Ctr E mX8_sizeOf (5, 0, 0) [.ref (a 0), .int (nI c)] (wM E a tn st la mn im ho fr wa ac tp td lt lg cu tk sr tl fa fp wh go se no al be gn gi gm ik ke tc ((nI n))) (fun v w => ∃ (f : FN) (m : Nat), v = some (.int (he1 + (nI c + lo1 - nI 1000))) ∧ w = wM E a tn st la mn im ho fr wa ac tp td lt lg cu tk sr tl fa fp wh go se no al be gn gi gm ik ke f ((nI m)) ∧ (f, m) = lvL [nI 11, nI 10, nI 22, nI 21, nI 20] (tc, n)) := by
  refine Ctr.of (by decide) (Nat.le_of_ble_eq_true rfl) ?_
  intro Z hO hn C
  have hlen : zn Z ≤ 17 := by rw [hn]; exact Nat.le_of_ble_eq_true rfl
  refine mr_aload_n C 1 dX8_sizeOf_0 rfl rfl ?_
  refine mr_iload_n C 2 dX8_sizeOf_1 rfl rfl ?_
  refine mr_iconst C (nI 0) 3 dX8_sizeOf_2 rfl rfl ?_
  refine mr_callV C (c_of E a tn st ac td lt lg cu tk sr tl fa fp gn gi gm (nI n) la mn im ho fr wa tp wh go se no al be ik ke tc c 0 (by omega) (by decide) (nI 3) hkk) [0, 1, 2, 3, 4, 5, 6, 7, 8, 9, 10, 11, 12, 13, 14, 15, 16] 0 8 6 dX8_sizeOf_3 rfl mk_X8_of mi_X8_of ml_X8_201 rfl rfl rfl rfl rfl (Nat.le_of_ble_eq_true rfl) (by decide) (by decide) (by decide) rfl rfl (fun r w1 hpost => ?_)
  obtain ⟨rfl, rfl⟩ := hpost
  refine mr_w (wput_all _ _ 17 rfl rfl) ?_
  refine mr_istore_n C 7 dX8_sizeOf_6 rfl rfl (by decide) ?_
  refine mr_iload_n C 8 dX8_sizeOf_7 rfl rfl ?_
  refine mr_iconst C (nI 4) 9 dX8_sizeOf_8 rfl rfl ?_
  refine mr_icmplt C 18 12 dX8_sizeOf_9 (by decide) rfl (fun _ => ?_) (fun c_ => absurd (by decide) c_)
  refine mr_iload_n C 19 dX8_sizeOf_18 rfl rfl ?_
  refine mr_iconst C (nI 2) 20 dX8_sizeOf_19 rfl rfl ?_
  refine mr_icmpne C 29 23 dX8_sizeOf_20 (by decide) rfl (fun _ => ?_) (fun c_ => absurd c_ (by decide))
  refine mr_aload_n C 30 dX8_sizeOf_29 rfl rfl ?_
  refine mr_bipush C (nI 11) 32 dX8_sizeOf_30 rfl rfl ?_
  refine mr_callV C (c_stepped E a tn st ac td lt lg cu tk sr tl fa fp gn gi gm la mn im ho fr wa tp wh go se no al be ik ke tc (nI 11) n hn0) [0, 1, 2, 3, 4, 5, 6, 7, 8, 9, 10, 11, 12, 13, 14, 15, 16] 0 8 35 dX8_sizeOf_32 rfl mk_X8_stepped mi_X8_stepped ml_X8_290 rfl rfl rfl rfl rfl (Nat.le_of_ble_eq_true rfl) (by decide) (by decide) (by decide) rfl rfl (fun r w1 hpost => ?_)
  obtain ⟨u28, v28, rfl, rfl, hu28⟩ := hpost
  have lhu28 : v28 ≤ 16 := Nat.le_trans (Nat.le_of_eq (congrArg Prod.snd hu28)) (lvT_le hn0)
  refine mr_w (wput_all _ _ 17 rfl rfl) ?_
  refine mr_aload_n C 36 dX8_sizeOf_35 rfl rfl ?_
  refine mr_iload_n C 37 dX8_sizeOf_36 rfl rfl ?_
  refine mr_callV C (c_plain E a tn st ac td lt lg cu tk sr tl fa fp gn gi gm la mn im ho fr wa tp wh go se no al be ik ke u28 c hc lo1 he1 hlo hhe v28 lhu28) [0, 1, 2, 3, 4, 5, 6, 7, 8, 9, 10, 11, 12, 13, 14, 15, 16] 0 8 40 dX8_sizeOf_37 rfl mk_X8_plainSize mi_X8_plainSize ml_X8_293 rfl rfl rfl rfl rfl (Nat.le_of_ble_eq_true rfl) (by decide) (by decide) (by decide) rfl rfl (fun r w1 hpost => ?_)
  obtain ⟨u29, v29, rfl, rfl, hu29⟩ := hpost
  have lhu29 : v29 ≤ 16 := Nat.le_trans (Nat.le_of_eq (congrArg Prod.snd hu29)) (lvL_le _ lhu28)
  refine mr_w (wput_all _ _ 17 rfl rfl) ?_
  refine mr_istore_n C 41 dX8_sizeOf_40 rfl rfl (by decide) ?_
  refine mr_iload_n C 42 dX8_sizeOf_41 rfl rfl ?_
  refine mr_aload_n C 43 dX8_sizeOf_42 rfl rfl ?_
  refine mr_iload_n C 44 dX8_sizeOf_43 rfl rfl ?_
  refine mr_callV C (c_mark3 E a tn st ac td lt lg cu tk sr tl fa fp gn gi gm la mn im ho fr wa tp wh go se no al be ik ke u29 c hc lo1 he1 hlo hhe hkk v29 lhu29) [0, 1, 2, 3, 4, 5, 6, 7, 8, 9, 10, 11, 12, 13, 14, 15, 16] 0 8 47 dX8_sizeOf_44 rfl mk_X8_markOf mi_X8_markOf ml_X8_299 rfl rfl rfl rfl rfl (Nat.le_of_ble_eq_true rfl) (by decide) (by decide) (by decide) rfl rfl (fun r w1 hpost => ?_)
  obtain ⟨u30, v30, rfl, rfl, hu30⟩ := hpost
  have lhu30 : v30 ≤ 16 := Nat.le_trans (Nat.le_of_eq (congrArg Prod.snd hu30)) (lvL_le _ lhu29)
  refine mr_w (wput_all _ _ 17 rfl rfl) ?_
  refine mr_iadd C _ 48 dX8_sizeOf_47 rfl rfl ?_
  refine mr_istore_n C 49 dX8_sizeOf_48 rfl rfl (by decide) ?_
  refine mr_iload_n C 50 dX8_sizeOf_49 rfl rfl ?_
  refine mr_iconst C (nI 2) 51 dX8_sizeOf_50 rfl rfl ?_
  refine mr_icmpne C 59 54 dX8_sizeOf_51 (by decide) rfl (fun _ => ?_) (fun c_ => absurd c_ (by decide))
  refine mr_iload_n C 60 dX8_sizeOf_59 rfl rfl ?_
  refine mr_iret C dX8_sizeOf_60 rfl rfl (by decide) (by decide) hlen ?_
  rw [hO]
  exact ⟨_, _, rfl, rfl, (hu30.trans (congrArg (lvL [nI 22, nI 21, nI 20]) (hu29.trans (congrArg (lvL [nI 10]) hu28))))⟩

set_option maxRecDepth 20000 in
set_option maxHeartbeats 4000000 in
theorem c_size4 (E : EG) (a : Nat → Nat) (tn st ac td lt lg cu tk sr tl fa fp gn gi gm : Int32) (la mn im ho fr wa tp wh go se no al be ik ke tc : FN) (c : Nat) (hc : c < 5) (lo1 he1 : Int32) (hlo : ho (22 + 3 * c + 1) = lo1) (hhe : ho (22 + 3 * c + 2) = he1) (hkk : ho (22 + 3 * c + 0) = nI 4) (n : Nat) (hn0 : n ≤ 16) : Ctr E mX8_sizeOf (5, 0, 0) [.ref (a 0), .int (nI c)] (wM E a tn st la mn im ho fr wa ac tp td lt lg cu tk sr tl fa fp wh go se no al be gn gi gm ik ke tc ((nI n))) (fun v w => ∃ (f : FN) (m : Nat), v = some (.int (he1 - nI 100)) ∧ w = wM E a tn st la mn im ho fr wa ac tp td lt lg cu tk sr tl fa fp wh go se no al be gn gi gm ik ke f ((nI m)) ∧ (f, m) = lvL [nI 13, nI 10] (tc, n)) := by
  refine Ctr.of (by decide) (Nat.le_of_ble_eq_true rfl) ?_
  intro Z hO hn C
  have hlen : zn Z ≤ 17 := by rw [hn]; exact Nat.le_of_ble_eq_true rfl
  refine mr_aload_n C 1 dX8_sizeOf_0 rfl rfl ?_
  refine mr_iload_n C 2 dX8_sizeOf_1 rfl rfl ?_
  refine mr_iconst C (nI 0) 3 dX8_sizeOf_2 rfl rfl ?_
  refine mr_callV C (c_of E a tn st ac td lt lg cu tk sr tl fa fp gn gi gm (nI n) la mn im ho fr wa tp wh go se no al be ik ke tc c 0 (by omega) (by decide) (nI 4) hkk) [0, 1, 2, 3, 4, 5, 6, 7, 8, 9, 10, 11, 12, 13, 14, 15, 16] 0 8 6 dX8_sizeOf_3 rfl mk_X8_of mi_X8_of ml_X8_201 rfl rfl rfl rfl rfl (Nat.le_of_ble_eq_true rfl) (by decide) (by decide) (by decide) rfl rfl (fun r w1 hpost => ?_)
  obtain ⟨rfl, rfl⟩ := hpost
  refine mr_w (wput_all _ _ 17 rfl rfl) ?_
  refine mr_istore_n C 7 dX8_sizeOf_6 rfl rfl (by decide) ?_
  refine mr_iload_n C 8 dX8_sizeOf_7 rfl rfl ?_
  refine mr_iconst C (nI 4) 9 dX8_sizeOf_8 rfl rfl ?_
  refine mr_icmplt C 18 12 dX8_sizeOf_9 (by decide) rfl (fun c_ => absurd c_ (by decide)) (fun _ => ?_)
  refine mr_aload_n C 13 dX8_sizeOf_12 rfl rfl ?_
  refine mr_iload_n C 14 dX8_sizeOf_13 rfl rfl ?_
  refine mr_callV C (c_stay4 E a tn st ac td lt lg cu tk sr tl fa fp gn gi gm la mn im ho fr wa tp wh go se no al be ik ke tc c hc lo1 he1 hlo hhe hkk n hn0) [0, 1, 2, 3, 4, 5, 6, 7, 8, 9, 10, 11, 12, 13, 14, 15, 16] 0 8 17 dX8_sizeOf_14 rfl mk_X8_staySize mi_X8_staySize ml_X8_296 rfl rfl rfl rfl rfl (Nat.le_of_ble_eq_true rfl) (by decide) (by decide) (by decide) rfl rfl (fun r w1 hpost => ?_)
  obtain ⟨u31, v31, rfl, rfl, hu31⟩ := hpost
  have lhu31 : v31 ≤ 16 := Nat.le_trans (Nat.le_of_eq (congrArg Prod.snd hu31)) (lvL_le _ hn0)
  refine mr_w (wput_all _ _ 17 rfl rfl) ?_
  refine mr_iret C dX8_sizeOf_17 rfl rfl (by decide) (by decide) hlen ?_
  rw [hO]
  exact ⟨_, _, rfl, rfl, hu31⟩

set_option maxRecDepth 20000 in
set_option maxHeartbeats 4000000 in
theorem c_size5 (E : EG) (a : Nat → Nat) (tn st ac td lt lg cu tk sr tl fa fp gn gi gm : Int32) (la mn im ho fr wa tp wh go se no al be ik ke tc : FN) (c : Nat) (hc : c < 5) (lo1 he1 : Int32) (hlo : ho (22 + 3 * c + 1) = lo1) (hhe : ho (22 + 3 * c + 2) = he1) (hkk : ho (22 + 3 * c + 0) = nI 5) (n : Nat) (hn0 : n ≤ 16) : Ctr E mX8_sizeOf (5, 0, 0) [.ref (a 0), .int (nI c)] (wM E a tn st la mn im ho fr wa ac tp td lt lg cu tk sr tl fa fp wh go se no al be gn gi gm ik ke tc ((nI n))) (fun v w => ∃ (f : FN) (m : Nat), v = some (.int (nI 2 * (he1 - nI 100))) ∧ w = wM E a tn st la mn im ho fr wa ac tp td lt lg cu tk sr tl fa fp wh go se no al be gn gi gm ik ke f ((nI m)) ∧ (f, m) = lvL [nI 14, nI 13, nI 10] (tc, n)) := by
  refine Ctr.of (by decide) (Nat.le_of_ble_eq_true rfl) ?_
  intro Z hO hn C
  have hlen : zn Z ≤ 17 := by rw [hn]; exact Nat.le_of_ble_eq_true rfl
  refine mr_aload_n C 1 dX8_sizeOf_0 rfl rfl ?_
  refine mr_iload_n C 2 dX8_sizeOf_1 rfl rfl ?_
  refine mr_iconst C (nI 0) 3 dX8_sizeOf_2 rfl rfl ?_
  refine mr_callV C (c_of E a tn st ac td lt lg cu tk sr tl fa fp gn gi gm (nI n) la mn im ho fr wa tp wh go se no al be ik ke tc c 0 (by omega) (by decide) (nI 5) hkk) [0, 1, 2, 3, 4, 5, 6, 7, 8, 9, 10, 11, 12, 13, 14, 15, 16] 0 8 6 dX8_sizeOf_3 rfl mk_X8_of mi_X8_of ml_X8_201 rfl rfl rfl rfl rfl (Nat.le_of_ble_eq_true rfl) (by decide) (by decide) (by decide) rfl rfl (fun r w1 hpost => ?_)
  obtain ⟨rfl, rfl⟩ := hpost
  refine mr_w (wput_all _ _ 17 rfl rfl) ?_
  refine mr_istore_n C 7 dX8_sizeOf_6 rfl rfl (by decide) ?_
  refine mr_iload_n C 8 dX8_sizeOf_7 rfl rfl ?_
  refine mr_iconst C (nI 4) 9 dX8_sizeOf_8 rfl rfl ?_
  refine mr_icmplt C 18 12 dX8_sizeOf_9 (by decide) rfl (fun c_ => absurd c_ (by decide)) (fun _ => ?_)
  refine mr_aload_n C 13 dX8_sizeOf_12 rfl rfl ?_
  refine mr_iload_n C 14 dX8_sizeOf_13 rfl rfl ?_
  refine mr_callV C (c_stay5 E a tn st ac td lt lg cu tk sr tl fa fp gn gi gm la mn im ho fr wa tp wh go se no al be ik ke tc c hc lo1 he1 hlo hhe hkk n hn0) [0, 1, 2, 3, 4, 5, 6, 7, 8, 9, 10, 11, 12, 13, 14, 15, 16] 0 8 17 dX8_sizeOf_14 rfl mk_X8_staySize mi_X8_staySize ml_X8_296 rfl rfl rfl rfl rfl (Nat.le_of_ble_eq_true rfl) (by decide) (by decide) (by decide) rfl rfl (fun r w1 hpost => ?_)
  obtain ⟨u32, v32, rfl, rfl, hu32⟩ := hpost
  have lhu32 : v32 ≤ 16 := Nat.le_trans (Nat.le_of_eq (congrArg Prod.snd hu32)) (lvL_le _ hn0)
  refine mr_w (wput_all _ _ 17 rfl rfl) ?_
  refine mr_iret C dX8_sizeOf_17 rfl rfl (by decide) (by decide) hlen ?_
  rw [hO]
  exact ⟨_, _, rfl, rfl, hu32⟩

theorem c_mark (E : EG) (a : Nat → Nat) (tn st ac td lt lg cu tk sr tl fa fp gn gi gm : Int32) (la mn im ho fr wa tp wh go se no al be ik ke tc : FN) (k c : Nat) (hc : c < 5) (lo1 he1 : Int32) (hlo : ho (22 + 3 * c + 1) = lo1) (hhe : ho (22 + 3 * c + 2) = he1) (hk1 : 1 ≤ k) (hk5 : k ≤ 5) (hkk : ho (22 + 3 * c + 0) = nI k) (n : Nat) (hn0 : n ≤ 16) : Ctr E mX8_markOf (4, 0, 0) [.ref (a 0), .int (nI c)] (wM E a tn st la mn im ho fr wa ac tp td lt lg cu tk sr tl fa fp wh go se no al be gn gi gm ik ke tc ((nI n))) (fun v w => ∃ (f : FN) (m : Nat), v = some (.int (askV k 1 c he1 lo1)) ∧ w = wM E a tn st la mn im ho fr wa ac tp td lt lg cu tk sr tl fa fp wh go se no al be gn gi gm ik ke f ((nI m)) ∧ (f, m) = lvL (askT k 1) (tc, n)) := by
  have h : k = 1 ∨ k = 2 ∨ k = 3 ∨ k = 4 ∨ k = 5 := by omega
  rcases h with rfl | rfl | rfl | rfl | rfl
  · exact c_mark1 E a tn st ac td lt lg cu tk sr tl fa fp gn gi gm la mn im ho fr wa tp wh go se no al be ik ke tc c hc lo1 he1 hlo hhe hkk n hn0
  · exact c_mark2 E a tn st ac td lt lg cu tk sr tl fa fp gn gi gm la mn im ho fr wa tp wh go se no al be ik ke tc c hc lo1 he1 hlo hhe hkk n hn0
  · exact c_mark3 E a tn st ac td lt lg cu tk sr tl fa fp gn gi gm la mn im ho fr wa tp wh go se no al be ik ke tc c hc lo1 he1 hlo hhe hkk n hn0
  · exact c_mark4 E a tn st ac td lt lg cu tk sr tl fa fp gn gi gm la mn im ho fr wa tp wh go se no al be ik ke tc c hc lo1 he1 hlo hhe hkk n hn0
  · exact c_mark5 E a tn st ac td lt lg cu tk sr tl fa fp gn gi gm la mn im ho fr wa tp wh go se no al be ik ke tc c hc lo1 he1 hlo hhe hkk n hn0
theorem c_size (E : EG) (a : Nat → Nat) (tn st ac td lt lg cu tk sr tl fa fp gn gi gm : Int32) (la mn im ho fr wa tp wh go se no al be ik ke tc : FN) (k c : Nat) (hc : c < 5) (lo1 he1 : Int32) (hlo : ho (22 + 3 * c + 1) = lo1) (hhe : ho (22 + 3 * c + 2) = he1) (hk1 : 1 ≤ k) (hk5 : k ≤ 5) (hkk : ho (22 + 3 * c + 0) = nI k) (n : Nat) (hn0 : n ≤ 16) : Ctr E mX8_sizeOf (5, 0, 0) [.ref (a 0), .int (nI c)] (wM E a tn st la mn im ho fr wa ac tp td lt lg cu tk sr tl fa fp wh go se no al be gn gi gm ik ke tc ((nI n))) (fun v w => ∃ (f : FN) (m : Nat), v = some (.int (askV k 0 c he1 lo1)) ∧ w = wM E a tn st la mn im ho fr wa ac tp td lt lg cu tk sr tl fa fp wh go se no al be gn gi gm ik ke f ((nI m)) ∧ (f, m) = lvL (askT k 0) (tc, n)) := by
  have h : k = 1 ∨ k = 2 ∨ k = 3 ∨ k = 4 ∨ k = 5 := by omega
  rcases h with rfl | rfl | rfl | rfl | rfl
  · exact c_size1 E a tn st ac td lt lg cu tk sr tl fa fp gn gi gm la mn im ho fr wa tp wh go se no al be ik ke tc c hc lo1 he1 hlo hhe hkk n hn0
  · exact c_size2 E a tn st ac td lt lg cu tk sr tl fa fp gn gi gm la mn im ho fr wa tp wh go se no al be ik ke tc c hc lo1 he1 hlo hhe hkk n hn0
  · exact c_size3 E a tn st ac td lt lg cu tk sr tl fa fp gn gi gm la mn im ho fr wa tp wh go se no al be ik ke tc c hc lo1 he1 hlo hhe hkk n hn0
  · exact c_size4 E a tn st ac td lt lg cu tk sr tl fa fp gn gi gm la mn im ho fr wa tp wh go se no al be ik ke tc c hc lo1 he1 hlo hhe hkk n hn0
  · exact c_size5 E a tn st ac td lt lg cu tk sr tl fa fp gn gi gm la mn im ho fr wa tp wh go se no al be ik ke tc c hc lo1 he1 hlo hhe hkk n hn0
/-- the trace in the class and in the reference -/
def RTc (s t : TRC) : Prop := s.2 = t.2 ∧ s.2 ≤ 16 ∧ ∀ j, j < s.2 → t.1 j = s.1 j
theorem RTc.go {s t : TRC} (h : RTc s t) (x : Int32) : RTc (lvT x s) (lvT x t) := by
  obtain ⟨h1, h2, h3⟩ := h
  unfold lvT
  rw [← h1]
  by_cases e : s.2 < 16
  · rw [if_pos e, if_pos e]
    refine ⟨rfl, by show s.2 + 1 ≤ 16; omega, fun j hj => ?_⟩
    show upd t.1 s.2 x j = upd s.1 s.2 x j
    rw [up_at, up_at]
    by_cases e2 : j = s.2
    · rw [if_pos e2, if_pos e2]
    · rw [if_neg e2, if_neg e2]; exact h3 j (by have : j < s.2 + 1 := hj; omega)
  · rw [if_neg e, if_neg e]; exact ⟨h1, h2, h3⟩
theorem RTc.goL : ∀ (l : List Int32) {s t : TRC}, RTc s t → RTc (lvL l s) (lvL l t)
  | [], _, _, h => h
  | x :: l, _, _, h => RTc.goL l (h.go x)
set_option maxRecDepth 20000 in
set_option maxHeartbeats 4000000 in
theorem c_m_ask (E : EG) (a : Nat → Nat) (tn st ac td lt lg cu tk sr tl fa fp gn gi gm : Int32) (la mn im ho fr wa tp wh go se no al be ik ke tc : FN) (R K G : Nat) (se0 sn0 be0 so0 lo0 he0 : FN) (hR : R ≤ 6) (hK : K ≤ 5) (hG : G ≤ 9999) (hl : ∀ c, c < K → lo0 c = nI (lN_ lo0 c) ∧ lN_ lo0 c < R) (hso : ∀ c, c < K → ∃ k, 1 ≤ k ∧ k ≤ 5 ∧ so0 c = nI k) (hrh : RH ho R K G se0 sn0 be0 so0 lo0 he0) (c0 y0 : Int32) (n : Nat) (s : TRC) (hrt : RTc s (tc, n)) : Ctr E mX8_ask (6, 0, 0) [.ref (a 0), .int c0, .int y0] (wM E a tn st la mn im ho fr wa ac tp td lt lg cu tk sr tl fa fp wh go se no al be gn gi gm ik ke tc ((nI n))) (fun v w => ∃ (tc' : FN) (n' : Nat) (v2 : Int32), v = some (.int v2) ∧ w = wM E a ((nI 0)) st la mn im ho fr wa ac tp td lt lg cu tk sr tl fa fp wh go se no al be gn gi gm ik ke (tc') ((nI n')) ∧ ∀ v' s', NxAsk c0 y0 K so0 lo0 he0 s v' s' → v' = v2 ∧ RTc s' (tc', n')) := by
  refine Ctr.of (by decide) (Nat.le_of_ble_eq_true rfl) ?_
  intro Z hO hn C
  have hlen : zn Z ≤ 17 := by rw [hn]; exact Nat.le_of_ble_eq_true rfl
  have h0 := hrh.1
  have h2 := hrh.2.1
  have h3 := hrh.2.2.1
  have hk : ∀ c, c < K → ∃ k, 1 ≤ k ∧ k ≤ 5 ∧ hoS ho c = nI k := fun c hc => by
    obtain ⟨k, e1, e2, e3⟩ := hso c hc
    exact ⟨k, e1, e2, (hrh.2.2.2.2.2 c hc).1.trans e3⟩
  refine mr_aload_n C 1 dX8_ask_0 rfl rfl ?_
  refine mr_iconst C (nI 0) 2 dX8_ask_1 rfl rfl ?_
  refine mr_put C 0 5 dX8_ask_2 rfl fs_X8_59 rfl rfl rfl (Nat.le_of_ble_eq_true rfl) ?_
  refine mr_w (ws' := wM E a ((nI 0)) st la mn im ho fr wa ac tp td lt lg cu tk sr tl fa fp wh go se no al be gn gi gm ik ke tc (nI n)) rfl ?_
  refine mr_aload_n C 6 dX8_ask_5 rfl rfl ?_
  refine mr_iload_n C 7 dX8_ask_6 rfl rfl ?_
  refine mr_callV C (c_m_isCrowd E a ((nI 0)) st ac td lt lg cu tk sr tl fa fp gn gi gm (nI n) la mn im ho fr wa tp wh go se no al be ik ke tc K hK h2 c0) [0, 1, 2, 3, 4, 5, 6, 7, 8, 9, 10, 11, 12, 13, 14, 15, 16] 0 8 10 dX8_ask_7 rfl mk_X8_isCrowd mi_X8_isCrowd ml_X8_242 rfl rfl rfl rfl rfl (Nat.le_of_ble_eq_true rfl) (by decide) (by decide) (by decide) rfl rfl (fun r w1 hpost => ?_)
  obtain ⟨rfl, rfl⟩ := hpost
  refine mr_w (wput_all _ _ 17 rfl rfl) ?_
  refine mr_ifeq C 23 13 dX8_ask_10 (by decide) rfl (fun c_10 => ?_) (fun c_10 => ?_)
  · rw [bI_eq] at c_10
    refine mr_ldc C 25 dX8_ask_23 rfl kc_X8_79 ?_
    refine mr_iret C dX8_ask_25 rfl rfl (by decide) (by decide) hlen ?_
    rw [hO]
    refine ⟨tc, n, _, rfl, rfl, ?_⟩
    intro v9 s9 hx
    obtain ⟨rfl, rfl⟩ := (ifP_f (by omega)).mp hx
    exact ⟨rfl, hrt⟩
  · rw [← Ne, bI_ne] at c_10
    refine mr_iload_n C 14 dX8_ask_13 rfl rfl ?_
    refine mr_i2l C _ 15 dX8_ask_14 rfl rfl ?_
    refine mr_lconst C 0 16 dX8_ask_15 rfl rfl ?_
    refine mr_lconst C 1 17 dX8_ask_16 rfl rfl ?_
    refine mr_callS C (c_inK E y0 (0) (1) _ _ rfl rfl) [] 20 dX8_ask_17 rfl mk_X8_in ms_X8_in ml_X8_69 rfl rfl rfl rfl (Nat.le_of_ble_eq_true rfl) (by decide) (by decide) (by decide) (fun r w1 hpost => ?_)
    obtain ⟨rfl, rfl⟩ := hpost
    refine mr_w (ws' := wM E a ((nI 0)) st la mn im ho fr wa ac tp td lt lg cu tk sr tl fa fp wh go se no al be gn gi gm ik ke tc (nI n)) rfl ?_
    refine mr_ifne C 26 23 dX8_ask_20 (by decide) rfl (fun c_20 => ?_) (fun c_20 => ?_)
    · rw [bI_ne] at c_20
      obtain ⟨c, hc, rfl⟩ := tI_of (x := c0) (n := K) (by omega) (by omega)
      have ec : (nI c).toInt = (c : Int) := tI_n (by omega)
      have ic_ : iN (nI c) = c := iN_n (by omega)
      obtain ⟨y, hy, rfl⟩ := tI_of (x := y0) (n := 2) (by omega) (by omega)
      have ey : (nI y).toInt = (y : Int) := tI_n (by omega)
      have iy_ : iN (nI y) = y := iN_n (by omega)
      refine mr_aload_n C 27 dX8_ask_26 rfl rfl ?_
      refine mr_iconst C (nI 0) 28 dX8_ask_27 rfl rfl ?_
      refine mr_put C 0 31 dX8_ask_28 rfl fs_X8_287 rfl rfl rfl (Nat.le_of_ble_eq_true rfl) ?_
      refine mr_w (ws' := wM E a ((nI 0)) st la mn im ho fr wa ac tp td lt lg cu tk sr tl fa fp wh go se no al be gn gi gm ik ke tc ((nI 0))) rfl ?_
      refine mr_iload_n C 32 dX8_ask_31 rfl rfl ?_
      refine mr_ifne C 43 35 dX8_ask_32 (by decide) rfl (fun c_32 => ?_) (fun c_32 => ?_)
      · have c_32 : ¬ y = 0 := fun h => c_32 (by rw [h]; rfl)
        refine mr_aload_n C 44 dX8_ask_43 rfl rfl ?_
        refine mr_iload_n C 45 dX8_ask_44 rfl rfl ?_
        obtain ⟨sk, hs1, hs5, hsk⟩ := hso c hc
        refine mr_callV C (c_mark E a ((nI 0)) st ac td lt lg cu tk sr tl fa fp gn gi gm la mn im ho fr wa tp wh go se no al be ik ke tc sk c (by omega) (lo0 c) (he0 c) (hrh.2.2.2.2.2 c hc).2.1 (hrh.2.2.2.2.2 c hc).2.2 hs1 hs5 ((hrh.2.2.2.2.2 c hc).1.trans hsk) 0 (by decide)) [0, 1, 2, 3, 4, 5, 6, 7, 8, 9, 10, 11, 12, 13, 14, 15, 16] 0 8 48 dX8_ask_45 rfl mk_X8_markOf mi_X8_markOf ml_X8_299 rfl rfl rfl rfl rfl (Nat.le_of_ble_eq_true rfl) (by decide) (by decide) (by decide) rfl rfl (fun r w1 hpost => ?_)
        obtain ⟨uf, um, rfl, rfl, hu⟩ := hpost
        refine mr_w (wput_all _ _ 17 rfl rfl) ?_
        refine mr_iret C dX8_ask_48 rfl rfl (by decide) (by decide) hlen ?_
        rw [hO]
        refine ⟨uf, um, _, rfl, rfl, ?_⟩
        intro v9 s9 hx
        obtain ⟨rfl, rfl⟩ := (ifP_t (by omega)).mp hx
        have hy : y = 1 := by omega
        subst hy
        rw [ic_, iy_, hsk, iN_n (by omega), hu]
        exact ⟨rfl, RTc.goL _ ⟨rfl, Nat.zero_le _, fun j h => absurd h (Nat.not_lt_zero j)⟩⟩
      · have c_32 : y = 0 := (nI_eq (b := 0) (by omega) (by omega)).mp c_32
        refine mr_aload_n C 36 dX8_ask_35 rfl rfl ?_
        refine mr_iload_n C 37 dX8_ask_36 rfl rfl ?_
        obtain ⟨sk, hs1, hs5, hsk⟩ := hso c hc
        refine mr_callV C (c_size E a ((nI 0)) st ac td lt lg cu tk sr tl fa fp gn gi gm la mn im ho fr wa tp wh go se no al be ik ke tc sk c (by omega) (lo0 c) (he0 c) (hrh.2.2.2.2.2 c hc).2.1 (hrh.2.2.2.2.2 c hc).2.2 hs1 hs5 ((hrh.2.2.2.2.2 c hc).1.trans hsk) 0 (by decide)) [0, 1, 2, 3, 4, 5, 6, 7, 8, 9, 10, 11, 12, 13, 14, 15, 16] 0 8 40 dX8_ask_37 rfl mk_X8_sizeOf mi_X8_sizeOf ml_X8_302 rfl rfl rfl rfl rfl (Nat.le_of_ble_eq_true rfl) (by decide) (by decide) (by decide) rfl rfl (fun r w1 hpost => ?_)
        obtain ⟨uf, um, rfl, rfl, hu⟩ := hpost
        refine mr_w (wput_all _ _ 17 rfl rfl) ?_
        refine mr_goto C 48 dX8_ask_40 (by decide) ?_
        refine mr_iret C dX8_ask_48 rfl rfl (by decide) (by decide) hlen ?_
        rw [hO]
        refine ⟨uf, um, _, rfl, rfl, ?_⟩
        intro v9 s9 hx
        obtain ⟨rfl, rfl⟩ := (ifP_t (by omega)).mp hx
        have hy : y = 0 := by omega
        subst hy
        rw [ic_, iy_, hsk, iN_n (by omega), hu]
        exact ⟨rfl, RTc.goL _ ⟨rfl, Nat.zero_le _, fun j h => absurd h (Nat.not_lt_zero j)⟩⟩
    · rw [bI_eq] at c_20
      refine mr_ldc C 25 dX8_ask_23 rfl kc_X8_79 ?_
      refine mr_iret C dX8_ask_25 rfl rfl (by decide) (by decide) hlen ?_
      rw [hO]
      refine ⟨tc, n, _, rfl, rfl, ?_⟩
      intro v9 s9 hx
      obtain ⟨rfl, rfl⟩ := (ifP_f (by omega)).mp hx
      exact ⟨rfl, hrt⟩

set_option maxRecDepth 20000 in
set_option maxHeartbeats 4000000 in
theorem c_m_trace (E : EG) (a : Nat → Nat) (tn st ac td lt lg cu tk sr tl fa fp gn gi gm : Int32) (la mn im ho fr wa tp wh go se no al be ik ke tc : FN) (i0 : Int32) (n : Nat) (hn16 : n ≤ 16) (s : TRC) (hrt : RTc s (tc, n)) : Ctr E mX8_trace (2, 0, 0) [.ref (a 0), .int i0] (wM E a tn st la mn im ho fr wa ac tp td lt lg cu tk sr tl fa fp wh go se no al be gn gi gm ik ke tc ((nI n))) (fun v w => v = some (.int (traceV i0 s)) ∧ w = wM E a ((nI 0)) st la mn im ho fr wa ac tp td lt lg cu tk sr tl fa fp wh go se no al be gn gi gm ik ke tc ((nI n))) := by
  refine Ctr.of (by decide) (Nat.le_of_ble_eq_true rfl) ?_
  intro Z hO hn C
  have hlen : zn Z ≤ 17 := by rw [hn]; exact Nat.le_of_ble_eq_true rfl
  refine mr_aload_n C 1 dX8_trace_0 rfl rfl ?_
  refine mr_iconst C (nI 0) 2 dX8_trace_1 rfl rfl ?_
  refine mr_put C 0 5 dX8_trace_2 rfl fs_X8_59 rfl rfl rfl (Nat.le_of_ble_eq_true rfl) ?_
  refine mr_w (ws' := wM E a ((nI 0)) st la mn im ho fr wa ac tp td lt lg cu tk sr tl fa fp wh go se no al be gn gi gm ik ke tc (nI n)) rfl ?_
  refine mr_iload_n C 6 dX8_trace_5 rfl rfl ?_
  refine mr_i2l C _ 7 dX8_trace_6 rfl rfl ?_
  refine mr_lconst C 0 8 dX8_trace_7 rfl rfl ?_
  refine mr_aload_n C 9 dX8_trace_8 rfl rfl ?_
  refine mr_get C 0 12 dX8_trace_9 rfl fl_X8_287 rfl rfl ?_
  refine mr_iconst C (nI 1) 13 dX8_trace_12 rfl rfl ?_
  refine mr_isub C (nI n - nI 1) 14 dX8_trace_13 rfl rfl ?_
  refine mr_i2l C _ 15 dX8_trace_14 rfl rfl ?_
  refine mr_callS C (c_inK E i0 (0) ((n : Int) - 1) _ _ rfl (ends1 (by omega))) [] 18 dX8_trace_15 rfl mk_X8_in ms_X8_in ml_X8_69 rfl rfl rfl rfl (Nat.le_of_ble_eq_true rfl) (by decide) (by decide) (by decide) (fun r w1 hpost => ?_)
  obtain ⟨rfl, rfl⟩ := hpost
  refine mr_w (ws' := wM E a ((nI 0)) st la mn im ho fr wa ac tp td lt lg cu tk sr tl fa fp wh go se no al be gn gi gm ik ke tc (nI n)) rfl ?_
  refine mr_ifeq C 30 21 dX8_trace_18 (by decide) rfl (fun c_18 => ?_) (fun c_18 => ?_)
  · rw [bI_eq] at c_18
    refine mr_ldc C 32 dX8_trace_30 rfl kc_X8_95 ?_
    refine mr_iret C dX8_trace_32 rfl rfl (by decide) (by decide) hlen ?_
    rw [hO]
    have e1 := hrt.1
    exact ⟨congrArg (fun z => some (Value.int z)) ((ifP_f (by rw [e1]; omega)).symm), rfl⟩
  · rw [← Ne, bI_ne] at c_18
    have hn16_ : n ≤ 16 := Nat.le_trans (Nat.le_of_eq hrt.1.symm) hrt.2.1
    obtain ⟨i, hi, rfl⟩ := tI_of (x := i0) (n := n) (by omega) (by omega)
    have ei : (nI i).toInt = (i : Int) := tI_n (by omega)
    have ii_ : iN (nI i) = i := iN_n (by omega)
    refine mr_aload_n C 22 dX8_trace_21 rfl rfl ?_
    refine mr_get C 0 25 dX8_trace_22 rfl fl_X8_56 rfl rfl ?_
    refine mr_iload_n C 26 dX8_trace_25 rfl rfl ?_
    refine mr_iald C 16 i 27 dX8_trace_26 rfl rfl rfl (by omega) (by decide) ?_
    refine mr_goto C 32 dX8_trace_27 (by decide) ?_
    refine mr_iret C dX8_trace_32 rfl rfl (by decide) (by decide) hlen ?_
    rw [hO]
    exact ⟨congrArg (fun z => some (Value.int z)) ((((ifP_t (by rw [hrt.1]; omega)).trans (by rw [ii_])).trans (hrt.2.2 i (by rw [hrt.1]; omega)).symm).symm), rfl⟩

set_option maxRecDepth 20000 in
set_option maxHeartbeats 4000000 in
theorem c_headsOfAll (E : EG) (a : Nat → Nat) (tn st ac td lt lg cu tk sr tl fa fp gn gi gm tr : Int32) (la mn im ho fr wa tp wh go se no al be ik ke tc : FN) (K : Nat) (hK : K ≤ 5) (h2 : ho 2 = nI K) (he0 : FN) (hhe : ∀ c, c < K → ho (22 + 3 * c + 2) = he0 c) : Ctr E mX8_headsOfAll (2, 0, 0) [.ref (a 0)] (wM E a tn st la mn im ho fr wa ac tp td lt lg cu tk sr tl fa fp wh go se no al be gn gi gm ik ke tc tr) (fun v w => v = some (.int (sumA he0 K)) ∧ w = wM E a tn st la mn im ho fr wa ac tp td lt lg cu tk sr tl fa fp wh go se no al be gn gi gm ik ke tc tr) := by
  refine Ctr.of (by decide) (Nat.le_of_ble_eq_true rfl) ?_
  intro Z hO hn C
  have hlen : zn Z ≤ 17 := by rw [hn]; exact Nat.le_of_ble_eq_true rfl
  have L : ∀ i, i ≤ K → V E mX8_headsOfAll (2, 0, 0) Z 0 0 (wM E a tn st la mn im ho fr wa ac tp td lt lg cu tk sr tl fa fp wh go se no al be gn gi gm ik ke tc tr) [(0, .ref (a 0)), (1, .int (sumA he0 i)), (2, .int (nI i))] [] 4 := by
    refine lp_up K ?_
    intro i hi ih
    refine mr_iload_n C 5 dX8_headsOfAll_4 rfl rfl ?_
    refine mr_aload_n C 6 dX8_headsOfAll_5 rfl rfl ?_
    refine mr_get C 0 9 dX8_headsOfAll_6 rfl fl_X8_19 rfl rfl ?_
    refine mr_iconst C (nI 2) 10 dX8_headsOfAll_9 rfl rfl ?_
    refine mr_iale C 4 2 (nI K) 11 dX8_headsOfAll_10 rfl rfl rfl (by omega) (by decide) h2 ?_
    refine mr_icmpge C 29 14 dX8_headsOfAll_11 (by decide) rfl (fun c_11 => ?_) (fun c_11 => ?_)
    · rw [nI_leI (by omega) (by omega)] at c_11
      refine mr_iload_n C 30 dX8_headsOfAll_29 rfl rfl ?_
      refine mr_iret C dX8_headsOfAll_30 rfl rfl (by decide) (by decide) hlen ?_
      rw [hO]
      obtain rfl : i = K := by omega
      exact ⟨rfl, rfl⟩
    · rw [nI_leI (by omega) (by omega)] at c_11
      refine mr_iload_n C 15 dX8_headsOfAll_14 rfl rfl ?_
      refine mr_aload_n C 16 dX8_headsOfAll_15 rfl rfl ?_
      refine mr_iload_n C 17 dX8_headsOfAll_16 rfl rfl ?_
      refine mr_iconst C (nI 2) 18 dX8_headsOfAll_17 rfl rfl ?_
      refine mr_callV C (c_of E a tn st ac td lt lg cu tk sr tl fa fp gn gi gm tr la mn im ho fr wa tp wh go se no al be ik ke tc i 2 (by omega) (by decide) (he0 i) (hhe i (by omega))) [0, 1, 2, 3, 4, 5, 6, 7, 8, 9, 10, 11, 12, 13, 14, 15, 16] 0 8 21 dX8_headsOfAll_18 rfl mk_X8_of mi_X8_of ml_X8_201 rfl rfl rfl rfl rfl (Nat.le_of_ble_eq_true rfl) (by decide) (by decide) (by decide) rfl rfl (fun r w1 hpost => ?_)
      obtain ⟨rfl, rfl⟩ := hpost
      refine mr_w (wput_all _ _ 17 rfl rfl) ?_
      refine mr_iadd C _ 22 dX8_headsOfAll_21 rfl rfl ?_
      refine mr_istore_n C 23 dX8_headsOfAll_22 rfl rfl (by decide) ?_
      refine mr_iinc C (nI (i + 1)) 26 dX8_headsOfAll_23 rfl rfl (by decide) (nI_add i 1) ?_
      refine mr_goto C 4 dX8_headsOfAll_26 (by decide) ?_
      exact mr_at (ih (by omega)) rfl rfl rfl
  refine mr_iconst C (nI 0) 1 dX8_headsOfAll_0 rfl rfl ?_
  refine mr_istore_n C 2 dX8_headsOfAll_1 rfl rfl (by decide) ?_
  refine mr_iconst C (nI 0) 3 dX8_headsOfAll_2 rfl rfl ?_
  refine mr_istore_n C 4 dX8_headsOfAll_3 rfl rfl (by decide) ?_
  exact mr_at (L 0 (Nat.zero_le _)) rfl rfl rfl

set_option maxRecDepth 20000 in
set_option maxHeartbeats 4000000 in
theorem c_m_count (E : EG) (a : Nat → Nat) (tn st lt lg cu tk sr tl fa fp gn gi gm tr : Int32) (la mn im ho fr wa tp wh go se no al be ik ke tc : FN) (R K G : Nat) (se0 sn0 be0 so0 lo0 he0 : FN) (hR : R ≤ 6) (hK : K ≤ 5) (hG : G ≤ 9999) (hl : ∀ c, c < K → lo0 c = nI (lN_ lo0 c) ∧ lN_ lo0 c < R) (hso : ∀ c, c < K → ∃ k, 1 ≤ k ∧ k ≤ 5 ∧ so0 c = nI k) (hrh : RH ho R K G se0 sn0 be0 so0 lo0 he0) (y0 : Int32) (it : Nat → FN) (th ln sz : FN) (hrr : RRow it th ln sz la mn im) (h S : Nat) : Ctr E mX8_count (3, 0, 0) [.ref (a 0), .int y0] (wM E a tn st la mn im ho fr wa ((nI h)) tp ((nI S)) lt lg cu tk sr tl fa fp wh go se no al be gn gi gm ik ke tc tr) (fun v w => v = some (.int (countV y0 th R K G h S he0)) ∧ w = wM E a ((nI 0)) st la mn im ho fr wa ((nI h)) tp ((nI S)) lt lg cu tk sr tl fa fp wh go se no al be gn gi gm ik ke tc tr) := by
  refine Ctr.of (by decide) (Nat.le_of_ble_eq_true rfl) ?_
  intro Z hO hn C
  have hlen : zn Z ≤ 17 := by rw [hn]; exact Nat.le_of_ble_eq_true rfl
  have h0 := hrh.1
  have h2 := hrh.2.1
  have h3 := hrh.2.2.1
  have hk : ∀ c, c < K → ∃ k, 1 ≤ k ∧ k ≤ 5 ∧ hoS ho c = nI k := fun c hc => by
    obtain ⟨k, e1, e2, e3⟩ := hso c hc
    exact ⟨k, e1, e2, (hrh.2.2.2.2.2 c hc).1.trans e3⟩
  by_cases h0_ : y0 = nI 0
  · subst h0_
    refine mr_aload_n C 1 dX8_count_0 rfl rfl ?_
    refine mr_iconst C (nI 0) 2 dX8_count_1 rfl rfl ?_
    refine mr_put C 0 5 dX8_count_2 rfl fs_X8_59 rfl rfl rfl (Nat.le_of_ble_eq_true rfl) ?_
    refine mr_w (ws' := wM E a ((nI 0)) st la mn im ho fr wa (nI h) tp (nI S) lt lg cu tk sr tl fa fp wh go se no al be gn gi gm ik ke tc tr) rfl ?_
    refine mr_iconst C (nI 0) 6 dX8_count_5 rfl rfl ?_
    refine mr_istore_n C 7 dX8_count_6 rfl rfl (by decide) ?_
    refine mr_iload_n C 8 dX8_count_7 rfl rfl ?_
    refine mr_tabIn C 52 dX8_count_8 (by decide) (by decide) rfl (by decide) ?_
    refine mr_iconst C (nI 0) 53 dX8_count_52 rfl rfl ?_
    refine mr_istore_n C 54 dX8_count_53 rfl rfl (by decide) ?_
    have L : ∀ i, i ≤ 8 → V E mX8_count (3, 0, 0) Z 0 0 (wM E a ((nI 0)) st la mn im ho fr wa ((nI h)) tp ((nI S)) lt lg cu tk sr tl fa fp wh go se no al be gn gi gm ik ke tc tr) [(0, .ref (a 0)), (2, .int (cntT th i)), (3, .int (nI i))] [] 54 := by
      refine lp_up 8 ?_
      intro i hi ih
      refine mr_iload_n C 55 dX8_count_54 rfl rfl ?_
      refine mr_bipush C (nI 8) 57 dX8_count_55 rfl rfl ?_
      refine mr_icmpge C 83 60 dX8_count_57 (by decide) rfl (fun c_57 => ?_) (fun c_57 => ?_)
      · rw [nI_leI (by omega) (by omega)] at c_57
        refine mr_iload_n C 84 dX8_count_83 rfl rfl ?_
        refine mr_iret C dX8_count_84 rfl rfl (by decide) (by decide) hlen ?_
        rw [hO]
        obtain rfl : i = 8 := by omega
        exact ⟨congrArg (fun z => some (Value.int z)) ((ifP_t rfl).symm), rfl⟩
      · rw [nI_leI (by omega) (by omega)] at c_57
        refine mr_iload_n C 61 dX8_count_60 rfl rfl ?_
        refine mr_aload_n C 62 dX8_count_61 rfl rfl ?_
        refine mr_get C 0 65 dX8_count_62 rfl fl_X8_7 rfl rfl ?_
        refine mr_iload_n C 66 dX8_count_65 rfl rfl ?_
        refine mr_iald C 1 i 67 dX8_count_66 rfl rfl rfl (by omega) (by decide) ?_
        refine mr_iflt C 74 70 dX8_count_67 (by decide) rfl (fun c_67 => ?_) (fun c_67 => ?_)
        · refine mr_iconst C (nI 0) 75 dX8_count_74 rfl rfl ?_
          refine mr_iadd C _ 76 dX8_count_75 rfl rfl ?_
          refine mr_istore_n C 77 dX8_count_76 rfl rfl (by decide) ?_
          refine mr_iinc C (nI (i + 1)) 80 dX8_count_77 rfl rfl (by decide) (nI_add i 1) ?_
          refine mr_goto C 54 dX8_count_80 (by decide) ?_
          have hth : th i = 0 := hrr.is (by omega) (Int32.not_le.mpr c_67)
          have ih2 := ih (by omega)
          rw [show cntT th (i + 1) = cntT th i from if_pos hth] at ih2
          rw [show cntT th i + nI 0 = cntT th i from Int32.add_zero _]
          exact mr_at ih2 rfl rfl rfl
        · refine mr_iconst C (nI 1) 71 dX8_count_70 rfl rfl ?_
          refine mr_goto C 75 dX8_count_71 (by decide) ?_
          refine mr_iadd C _ 76 dX8_count_75 rfl rfl ?_
          refine mr_istore_n C 77 dX8_count_76 rfl rfl (by decide) ?_
          refine mr_iinc C (nI (i + 1)) 80 dX8_count_77 rfl rfl (by decide) (nI_add i 1) ?_
          refine mr_goto C 54 dX8_count_80 (by decide) ?_
          have hth : ¬ th i = 0 := th_01 (hrr.at (by omega) (Int32.not_lt.mp c_67)).1
          have ih2 := ih (by omega)
          rw [show cntT th (i + 1) = cntT th i + nI 1 from if_neg hth] at ih2
          exact mr_at ih2 rfl rfl rfl
    exact mr_at (L 0 (Nat.zero_le _)) rfl rfl rfl
  by_cases h1_ : y0 = nI 1
  · subst h1_
    refine mr_aload_n C 1 dX8_count_0 rfl rfl ?_
    refine mr_iconst C (nI 0) 2 dX8_count_1 rfl rfl ?_
    refine mr_put C 0 5 dX8_count_2 rfl fs_X8_59 rfl rfl rfl (Nat.le_of_ble_eq_true rfl) ?_
    refine mr_w (ws' := wM E a ((nI 0)) st la mn im ho fr wa (nI h) tp (nI S) lt lg cu tk sr tl fa fp wh go se no al be gn gi gm ik ke tc tr) rfl ?_
    refine mr_iconst C (nI 0) 6 dX8_count_5 rfl rfl ?_
    refine mr_istore_n C 7 dX8_count_6 rfl rfl (by decide) ?_
    refine mr_iload_n C 8 dX8_count_7 rfl rfl ?_
    refine mr_tabIn C 85 dX8_count_8 (by decide) (by decide) rfl (by decide) ?_
    refine mr_aload_n C 86 dX8_count_85 rfl rfl ?_
    refine mr_get C 0 89 dX8_count_86 rfl fl_X8_19 rfl rfl ?_
    refine mr_iconst C (nI 0) 90 dX8_count_89 rfl rfl ?_
    refine mr_iale C 4 0 (nI R) 91 dX8_count_90 rfl rfl rfl (by omega) (by decide) h0 ?_
    refine mr_iret C dX8_count_91 rfl rfl (by decide) (by decide) hlen ?_
    rw [hO]
    exact ⟨congrArg (fun z => some (Value.int z)) (((ifP_f (by decide)).trans (ifP_t rfl)).symm), rfl⟩
  by_cases h2_ : y0 = nI 2
  · subst h2_
    refine mr_aload_n C 1 dX8_count_0 rfl rfl ?_
    refine mr_iconst C (nI 0) 2 dX8_count_1 rfl rfl ?_
    refine mr_put C 0 5 dX8_count_2 rfl fs_X8_59 rfl rfl rfl (Nat.le_of_ble_eq_true rfl) ?_
    refine mr_w (ws' := wM E a ((nI 0)) st la mn im ho fr wa (nI h) tp (nI S) lt lg cu tk sr tl fa fp wh go se no al be gn gi gm ik ke tc tr) rfl ?_
    refine mr_iconst C (nI 0) 6 dX8_count_5 rfl rfl ?_
    refine mr_istore_n C 7 dX8_count_6 rfl rfl (by decide) ?_
    refine mr_iload_n C 8 dX8_count_7 rfl rfl ?_
    refine mr_tabIn C 92 dX8_count_8 (by decide) (by decide) rfl (by decide) ?_
    refine mr_aload_n C 93 dX8_count_92 rfl rfl ?_
    refine mr_get C 0 96 dX8_count_93 rfl fl_X8_19 rfl rfl ?_
    refine mr_iconst C (nI 2) 97 dX8_count_96 rfl rfl ?_
    refine mr_iale C 4 2 (nI K) 98 dX8_count_97 rfl rfl rfl (by omega) (by decide) h2 ?_
    refine mr_iret C dX8_count_98 rfl rfl (by decide) (by decide) hlen ?_
    rw [hO]
    exact ⟨congrArg (fun z => some (Value.int z)) (((ifP_f (by decide)).trans ((ifP_f (by decide)).trans (ifP_t rfl))).symm), rfl⟩
  by_cases h3_ : y0 = nI 3
  · subst h3_
    refine mr_aload_n C 1 dX8_count_0 rfl rfl ?_
    refine mr_iconst C (nI 0) 2 dX8_count_1 rfl rfl ?_
    refine mr_put C 0 5 dX8_count_2 rfl fs_X8_59 rfl rfl rfl (Nat.le_of_ble_eq_true rfl) ?_
    refine mr_w (ws' := wM E a ((nI 0)) st la mn im ho fr wa (nI h) tp (nI S) lt lg cu tk sr tl fa fp wh go se no al be gn gi gm ik ke tc tr) rfl ?_
    refine mr_iconst C (nI 0) 6 dX8_count_5 rfl rfl ?_
    refine mr_istore_n C 7 dX8_count_6 rfl rfl (by decide) ?_
    refine mr_iload_n C 8 dX8_count_7 rfl rfl ?_
    refine mr_tabIn C 99 dX8_count_8 (by decide) (by decide) rfl (by decide) ?_
    refine mr_aload_n C 100 dX8_count_99 rfl rfl ?_
    refine mr_get C 0 103 dX8_count_100 rfl fl_X8_19 rfl rfl ?_
    refine mr_iconst C (nI 3) 104 dX8_count_103 rfl rfl ?_
    refine mr_iale C 4 3 (nI G) 105 dX8_count_104 rfl rfl rfl (by omega) (by decide) h3 ?_
    refine mr_iret C dX8_count_105 rfl rfl (by decide) (by decide) hlen ?_
    rw [hO]
    exact ⟨congrArg (fun z => some (Value.int z)) (((ifP_f (by decide)).trans ((ifP_f (by decide)).trans ((ifP_f (by decide)).trans (ifP_t rfl)))).symm), rfl⟩
  by_cases h4_ : y0 = nI 4
  · subst h4_
    refine mr_aload_n C 1 dX8_count_0 rfl rfl ?_
    refine mr_iconst C (nI 0) 2 dX8_count_1 rfl rfl ?_
    refine mr_put C 0 5 dX8_count_2 rfl fs_X8_59 rfl rfl rfl (Nat.le_of_ble_eq_true rfl) ?_
    refine mr_w (ws' := wM E a ((nI 0)) st la mn im ho fr wa (nI h) tp (nI S) lt lg cu tk sr tl fa fp wh go se no al be gn gi gm ik ke tc tr) rfl ?_
    refine mr_iconst C (nI 0) 6 dX8_count_5 rfl rfl ?_
    refine mr_istore_n C 7 dX8_count_6 rfl rfl (by decide) ?_
    refine mr_iload_n C 8 dX8_count_7 rfl rfl ?_
    refine mr_tabIn C 106 dX8_count_8 (by decide) (by decide) rfl (by decide) ?_
    refine mr_aload_n C 107 dX8_count_106 rfl rfl ?_
    refine mr_get C 0 110 dX8_count_107 rfl fl_X8_189 rfl rfl ?_
    refine mr_iret C dX8_count_110 rfl rfl (by decide) (by decide) hlen ?_
    rw [hO]
    exact ⟨congrArg (fun z => some (Value.int z)) (((ifP_f (by decide)).trans ((ifP_f (by decide)).trans ((ifP_f (by decide)).trans ((ifP_f (by decide)).trans (ifP_t rfl))))).symm), rfl⟩
  by_cases h5_ : y0 = nI 5
  · subst h5_
    refine mr_aload_n C 1 dX8_count_0 rfl rfl ?_
    refine mr_iconst C (nI 0) 2 dX8_count_1 rfl rfl ?_
    refine mr_put C 0 5 dX8_count_2 rfl fs_X8_59 rfl rfl rfl (Nat.le_of_ble_eq_true rfl) ?_
    refine mr_w (ws' := wM E a ((nI 0)) st la mn im ho fr wa (nI h) tp (nI S) lt lg cu tk sr tl fa fp wh go se no al be gn gi gm ik ke tc tr) rfl ?_
    refine mr_iconst C (nI 0) 6 dX8_count_5 rfl rfl ?_
    refine mr_istore_n C 7 dX8_count_6 rfl rfl (by decide) ?_
    refine mr_iload_n C 8 dX8_count_7 rfl rfl ?_
    refine mr_tabIn C 111 dX8_count_8 (by decide) (by decide) rfl (by decide) ?_
    refine mr_aload_n C 112 dX8_count_111 rfl rfl ?_
    refine mr_callV C (c_headsOfAll E a ((nI 0)) st (nI h) (nI S) lt lg cu tk sr tl fa fp gn gi gm tr la mn im ho fr wa tp wh go se no al be ik ke tc K hK h2 he0 (fun c hc => (hrh.2.2.2.2.2 c hc).2.2)) [0, 1, 2, 3, 4, 5, 6, 7, 8, 9, 10, 11, 12, 13, 14, 15, 16] 0 8 115 dX8_count_112 rfl mk_X8_headsOfAll mi_X8_headsOfAll ml_X8_236 rfl rfl rfl rfl rfl (Nat.le_of_ble_eq_true rfl) (by decide) (by decide) (by decide) rfl rfl (fun r w1 hpost => ?_)
    obtain ⟨rfl, rfl⟩ := hpost
    refine mr_w (wput_all _ _ 17 rfl rfl) ?_
    refine mr_iret C dX8_count_115 rfl rfl (by decide) (by decide) hlen ?_
    rw [hO]
    exact ⟨congrArg (fun z => some (Value.int z)) (((ifP_f (by decide)).trans ((ifP_f (by decide)).trans ((ifP_f (by decide)).trans ((ifP_f (by decide)).trans ((ifP_f (by decide)).trans (ifP_t rfl)))))).symm), rfl⟩
  by_cases h6_ : y0 = nI 6
  · subst h6_
    refine mr_aload_n C 1 dX8_count_0 rfl rfl ?_
    refine mr_iconst C (nI 0) 2 dX8_count_1 rfl rfl ?_
    refine mr_put C 0 5 dX8_count_2 rfl fs_X8_59 rfl rfl rfl (Nat.le_of_ble_eq_true rfl) ?_
    refine mr_w (ws' := wM E a ((nI 0)) st la mn im ho fr wa (nI h) tp (nI S) lt lg cu tk sr tl fa fp wh go se no al be gn gi gm ik ke tc tr) rfl ?_
    refine mr_iconst C (nI 0) 6 dX8_count_5 rfl rfl ?_
    refine mr_istore_n C 7 dX8_count_6 rfl rfl (by decide) ?_
    refine mr_iload_n C 8 dX8_count_7 rfl rfl ?_
    refine mr_tabIn C 116 dX8_count_8 (by decide) (by decide) rfl (by decide) ?_
    refine mr_aload_n C 117 dX8_count_116 rfl rfl ?_
    refine mr_get C 0 120 dX8_count_117 rfl fl_X8_86 rfl rfl ?_
    refine mr_iret C dX8_count_120 rfl rfl (by decide) (by decide) hlen ?_
    rw [hO]
    exact ⟨congrArg (fun z => some (Value.int z)) (((ifP_f (by decide)).trans ((ifP_f (by decide)).trans ((ifP_f (by decide)).trans ((ifP_f (by decide)).trans ((ifP_f (by decide)).trans ((ifP_f (by decide)).trans (ifP_t rfl))))))).symm), rfl⟩
  have hno : y0.toInt < 0 ∨ 6 < y0.toInt := by
    have g0 : ¬ y0.toInt = 0 := fun e => h0_ ((tI_eq (by omega)).mpr e)
    have g1 : ¬ y0.toInt = 1 := fun e => h1_ ((tI_eq (by omega)).mpr e)
    have g2 : ¬ y0.toInt = 2 := fun e => h2_ ((tI_eq (by omega)).mpr e)
    have g3 : ¬ y0.toInt = 3 := fun e => h3_ ((tI_eq (by omega)).mpr e)
    have g4 : ¬ y0.toInt = 4 := fun e => h4_ ((tI_eq (by omega)).mpr e)
    have g5 : ¬ y0.toInt = 5 := fun e => h5_ ((tI_eq (by omega)).mpr e)
    have g6 : ¬ y0.toInt = 6 := fun e => h6_ ((tI_eq (by omega)).mpr e)
    omega
  refine mr_aload_n C 1 dX8_count_0 rfl rfl ?_
  refine mr_iconst C (nI 0) 2 dX8_count_1 rfl rfl ?_
  refine mr_put C 0 5 dX8_count_2 rfl fs_X8_59 rfl rfl rfl (Nat.le_of_ble_eq_true rfl) ?_
  refine mr_w (ws' := wM E a ((nI 0)) st la mn im ho fr wa (nI h) tp (nI S) lt lg cu tk sr tl fa fp wh go se no al be gn gi gm ik ke tc tr) rfl ?_
  refine mr_iconst C (nI 0) 6 dX8_count_5 rfl rfl ?_
  refine mr_istore_n C 7 dX8_count_6 rfl rfl (by decide) ?_
  refine mr_iload_n C 8 dX8_count_7 rfl rfl ?_
  refine mr_tabOut C 121 dX8_count_8 hno (by decide) ?_
  refine mr_ldc C 123 dX8_count_121 rfl kc_X8_79 ?_
  refine mr_iret C dX8_count_123 rfl rfl (by decide) (by decide) hlen ?_
  rw [hO]
  exact ⟨congrArg (fun z => some (Value.int z)) (((ifP_f h0_).trans ((ifP_f h1_).trans ((ifP_f h2_).trans ((ifP_f h3_).trans ((ifP_f h4_).trans ((ifP_f h5_).trans (ifP_f h6_))))))).symm), rfl⟩

