/-! constructors -/
set_option maxRecDepth 100000 in
theorem cl_L_10 : Cond.classLink R_law 10 RX8 ∈ gw := gw_mem (List.mem_of_getElem? (i := 822) rfl) rfl
set_option maxRecDepth 100000 in
theorem cl_L_7 : Cond.classLink R_law 7 RX7 ∈ gw := gw_mem (List.mem_of_getElem? (i := 85) rfl) rfl
set_option maxRecDepth 100000 in
theorem cl_X2_9 : Cond.classLink RX2 9 RX3 ∈ gw := gw_mem (List.mem_of_getElem? (i := 253) rfl) rfl
set_option maxRecDepth 100000 in
theorem cl_X4_9 : Cond.classLink RX4 9 RX3 ∈ gw := gw_mem (List.mem_of_getElem? (i := 131) rfl) rfl
set_option maxRecDepth 100000 in
theorem cl_X7_15 : Cond.classLink RX7 15 RX6 ∈ gw := gw_mem (List.mem_of_getElem? (i := 95) rfl) rfl
set_option maxRecDepth 100000 in
theorem cl_X7_22 : Cond.classLink RX7 22 RX4 ∈ gw := gw_mem (List.mem_of_getElem? (i := 125) rfl) rfl
set_option maxRecDepth 100000 in
theorem cl_X7_31 : Cond.classLink RX7 31 RX3 ∈ gw := gw_mem (List.mem_of_getElem? (i := 227) rfl) rfl
set_option maxRecDepth 100000 in
theorem cl_X7_42 : Cond.classLink RX7 42 RX0 ∈ gw := gw_mem (List.mem_of_getElem? (i := 230) rfl) rfl
set_option maxRecDepth 100000 in
theorem cl_X7_49 : Cond.classLink RX7 49 RX2 ∈ gw := gw_mem (List.mem_of_getElem? (i := 247) rfl) rfl
set_option maxRecDepth 100000 in
theorem cl_X7_58 : Cond.classLink RX7 58 RX1 ∈ gw := gw_mem (List.mem_of_getElem? (i := 281) rfl) rfl
set_option maxRecDepth 100000 in
theorem cl_X7_9 : Cond.classLink RX7 9 RX5 ∈ gw := gw_mem (List.mem_of_getElem? (i := 93) rfl) rfl
set_option maxRecDepth 100000 in
theorem ins_0 : Cond.instantiable RX0 3 ∈ gw := gw_mem (List.mem_of_getElem? (i := 231) rfl) rfl
set_option maxRecDepth 100000 in
theorem ini_0 : Cond.initialized RX0 ∈ gw := gw_mem (List.mem_of_getElem? (i := 74) rfl) rfl
set_option maxRecDepth 100000 in
theorem ins_1 : Cond.instantiable RX1 3 ∈ gw := gw_mem (List.mem_of_getElem? (i := 282) rfl) rfl
set_option maxRecDepth 100000 in
theorem ini_1 : Cond.initialized RX1 ∈ gw := gw_mem (List.mem_of_getElem? (i := 76) rfl) rfl
set_option maxRecDepth 100000 in
theorem ins_2 : Cond.instantiable RX2 7 ∈ gw := gw_mem (List.mem_of_getElem? (i := 248) rfl) rfl
set_option maxRecDepth 100000 in
theorem ini_2 : Cond.initialized RX2 ∈ gw := gw_mem (List.mem_of_getElem? (i := 75) rfl) rfl
set_option maxRecDepth 100000 in
theorem ins_3 : Cond.instantiable RX3 14 ∈ gw := gw_mem (List.mem_of_getElem? (i := 132) rfl) rfl
set_option maxRecDepth 100000 in
theorem ini_3 : Cond.initialized RX3 ∈ gw := gw_mem (List.mem_of_getElem? (i := 73) rfl) rfl
set_option maxRecDepth 100000 in
theorem ins_4 : Cond.instantiable RX4 5 ∈ gw := gw_mem (List.mem_of_getElem? (i := 126) rfl) rfl
set_option maxRecDepth 100000 in
theorem ini_4 : Cond.initialized RX4 ∈ gw := gw_mem (List.mem_of_getElem? (i := 72) rfl) rfl
set_option maxRecDepth 100000 in
theorem ins_5 : Cond.instantiable RX5 4 ∈ gw := gw_mem (List.mem_of_getElem? (i := 299) rfl) rfl
set_option maxRecDepth 100000 in
theorem ini_5 : Cond.initialized RX5 ∈ gw := gw_mem (List.mem_of_getElem? (i := 77) rfl) rfl
set_option maxRecDepth 100000 in
theorem ins_6 : Cond.instantiable RX6 6 ∈ gw := gw_mem (List.mem_of_getElem? (i := 96) rfl) rfl
set_option maxRecDepth 100000 in
theorem ini_6 : Cond.initialized RX6 ∈ gw := gw_mem (List.mem_of_getElem? (i := 71) rfl) rfl
set_option maxRecDepth 100000 in
theorem ins_7 : Cond.instantiable RX7 10 ∈ gw := gw_mem (List.mem_of_getElem? (i := 86) rfl) rfl
set_option maxRecDepth 100000 in
theorem ini_7 : Cond.initialized RX7 ∈ gw := gw_mem (List.mem_of_getElem? (i := 70) rfl) rfl
set_option maxRecDepth 100000 in
theorem ins_8 : Cond.instantiable RX8 32 ∈ gw := gw_mem (List.mem_of_getElem? (i := 823) rfl) rfl
set_option maxRecDepth 100000 in
theorem ini_8 : Cond.initialized RX8 ∈ gw := gw_mem (List.mem_of_getElem? (i := 78) rfl) rfl
set_option maxRecDepth 20000 in
set_option maxHeartbeats 4000000 in
theorem c_Row_init (E : EG) (h0 : Nat)  : Ctr E mX5_init (2, 1, 40) [.ref h0] ([(h0, .inr (5, [.null, .int (0), .int (0), .int (0)]))]) (fun v w => ∃ x1 : Nat, v = none ∧ w = [(h0, .inr (5, [.ref x1, .int (0), .int (0), .int (0)])), (x1, iA E 40 (fun _ => 0))]) := by
  refine Ctr.of (by decide) (Nat.le_of_ble_eq_true rfl) ?_
  intro Z hO hn C
  have hlen : zn Z ≤ 1 := by rw [hn]; exact Nat.le_of_ble_eq_true rfl
  refine mr_aload_n C 1 dX5_init_0 rfl rfl ?_
  refine mr_objI C 4 dX5_init_1 rfl ml_X5_3 gw_oi gw_oc (Nat.le_of_ble_eq_true rfl) (by decide) ?_
  refine mr_aload_n C 5 dX5_init_4 rfl rfl ?_
  refine mr_bipush C (nI 40) 7 dX5_init_5 rfl rfl ?_
  refine mr_newi C 40 9 dX5_init_7 rfl rfl (by decide) ⟨by decide, by decide⟩ (fun x1 => ?_)
  refine mr_putF C rfl 0 12 dX5_init_9 rfl ff_X5_9 rfl rfl rfl (Nat.le_of_ble_eq_true rfl) ?_
  refine mr_vret C dX5_init_12 rfl (by decide) (by decide) (Nat.le_trans hlen (Nat.le_of_ble_eq_true rfl)) ?_
  rw [hO]
  exact ⟨_, rfl, rfl⟩

set_option maxRecDepth 20000 in
set_option maxHeartbeats 4000000 in
theorem c_Tape_init (E : EG) (h0 : Nat)  : Ctr E mX6_init (2, 1, 400) [.ref h0] ([(h0, .inr (6, [.null, .int (0), .int (0), .int (0), .int (0), .int (0)]))]) (fun v w => ∃ x1 : Nat, v = none ∧ w = [(h0, .inr (6, [.ref x1, .int (0), .int (0), .int (0), .int (0), .int (0)])), (x1, iA E 400 (fun _ => 0))]) := by
  refine Ctr.of (by decide) (Nat.le_of_ble_eq_true rfl) ?_
  intro Z hO hn C
  have hlen : zn Z ≤ 1 := by rw [hn]; exact Nat.le_of_ble_eq_true rfl
  refine mr_aload_n C 1 dX6_init_0 rfl rfl ?_
  refine mr_objI C 4 dX6_init_1 rfl ml_X6_3 gw_oi gw_oc (Nat.le_of_ble_eq_true rfl) (by decide) ?_
  refine mr_aload_n C 5 dX6_init_4 rfl rfl ?_
  refine mr_sipush C (nI 400) 8 dX6_init_5 rfl rfl ?_
  refine mr_newi C 400 10 dX6_init_8 rfl rfl (by decide) ⟨by decide, by decide⟩ (fun x1 => ?_)
  refine mr_putF C rfl 0 13 dX6_init_10 rfl ff_X6_9 rfl rfl rfl (Nat.le_of_ble_eq_true rfl) ?_
  refine mr_vret C dX6_init_13 rfl (by decide) (by decide) (Nat.le_trans hlen (Nat.le_of_ble_eq_true rfl)) ?_
  rw [hO]
  exact ⟨_, rfl, rfl⟩

set_option maxRecDepth 20000 in
set_option maxHeartbeats 4000000 in
theorem c_Acts_init (E : EG) (h0 : Nat)  : Ctr E mX0_init (2, 1, 552) [.ref h0] ([(h0, .inr (0, [.null, .int (0), .int (0)]))]) (fun v w => ∃ x1 : Nat, v = none ∧ w = [(h0, .inr (0, [.ref x1, .int (0), .int (0)])), (x1, iA E 552 (fun _ => 0))]) := by
  refine Ctr.of (by decide) (Nat.le_of_ble_eq_true rfl) ?_
  intro Z hO hn C
  have hlen : zn Z ≤ 1 := by rw [hn]; exact Nat.le_of_ble_eq_true rfl
  refine mr_aload_n C 1 dX0_init_0 rfl rfl ?_
  refine mr_objI C 4 dX0_init_1 rfl ml_X0_5 gw_oi gw_oc (Nat.le_of_ble_eq_true rfl) (by decide) ?_
  refine mr_aload_n C 5 dX0_init_4 rfl rfl ?_
  refine mr_sipush C (nI 552) 8 dX0_init_5 rfl rfl ?_
  refine mr_newi C 552 10 dX0_init_8 rfl rfl (by decide) ⟨by decide, by decide⟩ (fun x1 => ?_)
  refine mr_putF C rfl 0 13 dX0_init_10 rfl ff_X0_11 rfl rfl rfl (Nat.le_of_ble_eq_true rfl) ?_
  refine mr_vret C dX0_init_13 rfl (by decide) (by decide) (Nat.le_trans hlen (Nat.le_of_ble_eq_true rfl)) ?_
  rw [hO]
  exact ⟨_, rfl, rfl⟩

set_option maxRecDepth 20000 in
set_option maxHeartbeats 4000000 in
theorem c_House_init (E : EG) (h0 : Nat)  : Ctr E mX3_init (2, 9, 50) [.ref h0] ([(h0, .inr (3, [.null, .null, .null, .null, .null, .null, .int (0), .int (0), .int (0), .int (0), .int (0), .null, .null, .null]))]) (fun v w => ∃ x1 x2 x3 x4 x5 x6 x7 x8 x9 : Nat, v = none ∧ w = [(h0, .inr (3, [.ref x1, .ref x2, .ref x3, .ref x4, .ref x5, .ref x6, .int (0), .int (0), .int (0), .int (0), .int (0), .ref x7, .ref x8, .ref x9])), (x1, iA E 6 (fun _ => 0)), (x2, iA E 6 (fun _ => 0)), (x3, iA E 6 (fun _ => 0)), (x4, iA E 5 (fun _ => 0)), (x5, iA E 5 (fun _ => 0)), (x6, iA E 5 (fun _ => 0)), (x7, iA E 6 (fun _ => 0)), (x8, iA E 6 (fun _ => 0)), (x9, iA E 5 (fun _ => 0))]) := by
  refine Ctr.of (by decide) (Nat.le_of_ble_eq_true rfl) ?_
  intro Z hO hn C
  have hlen : zn Z ≤ 1 := by rw [hn]; exact Nat.le_of_ble_eq_true rfl
  refine mr_aload_n C 1 dX3_init_0 rfl rfl ?_
  refine mr_objI C 4 dX3_init_1 rfl ml_X3_3 gw_oi gw_oc (Nat.le_of_ble_eq_true rfl) (by decide) ?_
  refine mr_aload_n C 5 dX3_init_4 rfl rfl ?_
  refine mr_bipush C (nI 6) 7 dX3_init_5 rfl rfl ?_
  refine mr_newi C 6 9 dX3_init_7 rfl rfl (by decide) ⟨by decide, by decide⟩ (fun x1 => ?_)
  refine mr_putF C rfl 0 12 dX3_init_9 rfl ff_X3_9 rfl rfl rfl (Nat.le_of_ble_eq_true rfl) ?_
  refine mr_aload_n C 13 dX3_init_12 rfl rfl ?_
  refine mr_bipush C (nI 6) 15 dX3_init_13 rfl rfl ?_
  refine mr_newi C 6 17 dX3_init_15 rfl rfl (by decide) ⟨by decide, by decide⟩ (fun x2 => ?_)
  refine mr_putF C rfl 0 20 dX3_init_17 rfl ff_X3_15 rfl rfl rfl (Nat.le_of_ble_eq_true rfl) ?_
  refine mr_aload_n C 21 dX3_init_20 rfl rfl ?_
  refine mr_bipush C (nI 6) 23 dX3_init_21 rfl rfl ?_
  refine mr_newi C 6 25 dX3_init_23 rfl rfl (by decide) ⟨by decide, by decide⟩ (fun x3 => ?_)
  refine mr_putF C rfl 0 28 dX3_init_25 rfl ff_X3_18 rfl rfl rfl (Nat.le_of_ble_eq_true rfl) ?_
  refine mr_aload_n C 29 dX3_init_28 rfl rfl ?_
  refine mr_iconst C (nI 5) 30 dX3_init_29 rfl rfl ?_
  refine mr_newi C 5 32 dX3_init_30 rfl rfl (by decide) ⟨by decide, by decide⟩ (fun x4 => ?_)
  refine mr_putF C rfl 0 35 dX3_init_32 rfl ff_X3_21 rfl rfl rfl (Nat.le_of_ble_eq_true rfl) ?_
  refine mr_aload_n C 36 dX3_init_35 rfl rfl ?_
  refine mr_iconst C (nI 5) 37 dX3_init_36 rfl rfl ?_
  refine mr_newi C 5 39 dX3_init_37 rfl rfl (by decide) ⟨by decide, by decide⟩ (fun x5 => ?_)
  refine mr_putF C rfl 0 42 dX3_init_39 rfl ff_X3_24 rfl rfl rfl (Nat.le_of_ble_eq_true rfl) ?_
  refine mr_aload_n C 43 dX3_init_42 rfl rfl ?_
  refine mr_iconst C (nI 5) 44 dX3_init_43 rfl rfl ?_
  refine mr_newi C 5 46 dX3_init_44 rfl rfl (by decide) ⟨by decide, by decide⟩ (fun x6 => ?_)
  refine mr_putF C rfl 0 49 dX3_init_46 rfl ff_X3_27 rfl rfl rfl (Nat.le_of_ble_eq_true rfl) ?_
  refine mr_aload_n C 50 dX3_init_49 rfl rfl ?_
  refine mr_bipush C (nI 6) 52 dX3_init_50 rfl rfl ?_
  refine mr_newi C 6 54 dX3_init_52 rfl rfl (by decide) ⟨by decide, by decide⟩ (fun x7 => ?_)
  refine mr_putF C rfl 0 57 dX3_init_54 rfl ff_X3_30 rfl rfl rfl (Nat.le_of_ble_eq_true rfl) ?_
  refine mr_aload_n C 58 dX3_init_57 rfl rfl ?_
  refine mr_bipush C (nI 6) 60 dX3_init_58 rfl rfl ?_
  refine mr_newi C 6 62 dX3_init_60 rfl rfl (by decide) ⟨by decide, by decide⟩ (fun x8 => ?_)
  refine mr_putF C rfl 0 65 dX3_init_62 rfl ff_X3_33 rfl rfl rfl (Nat.le_of_ble_eq_true rfl) ?_
  refine mr_aload_n C 66 dX3_init_65 rfl rfl ?_
  refine mr_iconst C (nI 5) 67 dX3_init_66 rfl rfl ?_
  refine mr_newi C 5 69 dX3_init_67 rfl rfl (by decide) ⟨by decide, by decide⟩ (fun x9 => ?_)
  refine mr_putF C rfl 0 72 dX3_init_69 rfl ff_X3_36 rfl rfl rfl (Nat.le_of_ble_eq_true rfl) ?_
  refine mr_vret C dX3_init_72 rfl (by decide) (by decide) (Nat.le_trans hlen (Nat.le_of_ble_eq_true rfl)) ?_
  rw [hO]
  exact ⟨_, _, _, _, _, _, _, _, _, rfl, rfl⟩

