/-! constructors of all -/
theorem gw_oR : Cond.arrayOver (.object RX5) ∈ lw_tbl := gw_aoR
theorem mr_newq {E : EG} {M : MD} {q : RQ} {Z : ZX} {k n pc : Nat} {ws : va_W} {ls : List (Nat × Value)} {st : List Value} (C : CX E M q Z) (N ix : Nat) {i : Nat} {C0 : String} {cA : ClassId} {z : Int32} (pc' : Nat) (d : decode M.2.1 pc = .ok (.anewarray i, 3)) (hp : pc + 3 = pc') (hlk : Cond.classLink M.1.cls i C0 ∈ gw) (hao : Cond.arrayOver (.object C0) ∈ lw_tbl) (hty : (tysX E)[ix]? = some (cA, .object C0)) (hz : z = nI N) (hN : N < 100000) (hcl : k + 1 ≤ q.2.1 ∧ n + N ≤ q.2.2)
    (kk : ∀ x : Nat, V E M q Z (k + 1) (n + N) (ws ++ [(x, .inl (cA, N, .inr (.inr (.inr (.inr (fun _ => none))))))]) ls (.ref x :: st) pc') : V E M q Z k n ws ls (.int z :: st) pc := by
  subst hp; subst hz
  intro H locs lv hP hD hS hl
  refine va_newq (D := E.1) C.1 C.2.1 C.2.2.2.2.1 (C.2.2.2.2.2.1 _ hlk) (C.2.2.2.2.2.2.2.2.1.2.1 _ hao rfl) C.2.2.2.2.2.2.2.2.1.1 hP hD hS C.2.2.2.2.2.2.2.1 (N' := N) (nI_pos (by omega)) (nI_clamp (by omega)) (by omega) hcl.1 hcl.2 d (fun x cA' H1 hK hP hD hS => ?_)
  obtain ⟨-, -, -, -, -, h1⟩ := (hK.2 4 (cA', .object C0) rfl).2
  obtain ⟨-, -, -, -, -, h2⟩ := (C.2.2.2.2.2.2.2.2.1.1.2 ix _ hty).2
  obtain rfl : cA' = cA := Option.some.inj (h1.symm.trans h2)
  exact kk x H1 locs lv hP hD hS hl
set_option maxRecDepth 20000 in
set_option maxHeartbeats 4000000 in
theorem c_Reader_init (E : EG) (h0 h1 : Nat)  : Ctr E mX4_init (4, 10, 64) [.ref h0, .ref h1] ([(h0, .inr (4, [.null, .null, .int (0), .int (0), .int (0)]))]) (fun v w => ∃ x1 y1_1 y1_2 y1_3 y1_4 y1_5 y1_6 y1_7 y1_8 y1_9 : Nat, v = none ∧ w = [(h0, .inr (4, [.ref h1, .ref x1, .int (0), .int (0), .int (0)])), (x1, .inr (3, [.ref y1_1, .ref y1_2, .ref y1_3, .ref y1_4, .ref y1_5, .ref y1_6, .int (0), .int (0), .int (0), .int (0), .int (0), .ref y1_7, .ref y1_8, .ref y1_9])), (y1_1, iA E 6 (fun _ => 0)), (y1_2, iA E 6 (fun _ => 0)), (y1_3, iA E 6 (fun _ => 0)), (y1_4, iA E 5 (fun _ => 0)), (y1_5, iA E 5 (fun _ => 0)), (y1_6, iA E 5 (fun _ => 0)), (y1_7, iA E 6 (fun _ => 0)), (y1_8, iA E 6 (fun _ => 0)), (y1_9, iA E 5 (fun _ => 0))]) := by
  refine Ctr.of (by decide) (Nat.le_of_ble_eq_true rfl) ?_
  intro Z hO hn C
  have hlen : zn Z ≤ 1 := by rw [hn]; exact Nat.le_of_ble_eq_true rfl
  refine mr_aload_n C 1 dX4_init_0 rfl rfl ?_
  refine mr_objI C 4 dX4_init_1 rfl ml_X4_3 gw_oi gw_oc (Nat.le_of_ble_eq_true rfl) (by decide) ?_
  refine mr_aload_n C 5 dX4_init_4 rfl rfl ?_
  refine mr_new C (ci := 3) [.null, .null, .null, .null, .null, .null, .int 0, .int 0, .int 0, .int 0, .int 0, .null, .null, .null] 8 dX4_init_5 rfl rfl iw3 tyX3_ok cl_X4_9 ins_3 ini_3 rfl ⟨Nat.le_of_ble_eq_true rfl, Nat.le_of_ble_eq_true rfl⟩ (fun x1 => ?_)
  refine mr_dup C 9 dX4_init_8 rfl rfl ?_
  refine mr_callIN C (c_House_init E x1) [1] 12 dX4_init_9 rfl mk_X3_init rfl rfl mi_X3_init mn_X4_11 rfl rfl rfl rfl (by decide) (Nat.le_of_ble_eq_true rfl) (Nat.le_of_ble_eq_true rfl) (Nat.le_of_ble_eq_true rfl) ⟨Nat.le_of_ble_eq_true rfl, Nat.le_of_ble_eq_true rfl⟩ (fun r w1 hpost => ?_)
  obtain ⟨y1_1, y1_2, y1_3, y1_4, y1_5, y1_6, y1_7, y1_8, y1_9, rfl, rfl⟩ := hpost
  refine mr_w (ws' := [(h0, .inr (4, [.null, .null, .int (0), .int (0), .int (0)])), (x1, .inr (3, [.ref y1_1, .ref y1_2, .ref y1_3, .ref y1_4, .ref y1_5, .ref y1_6, .int (0), .int (0), .int (0), .int (0), .int (0), .ref y1_7, .ref y1_8, .ref y1_9])), (y1_1, iA E 6 (fun _ => 0)), (y1_2, iA E 6 (fun _ => 0)), (y1_3, iA E 6 (fun _ => 0)), (y1_4, iA E 5 (fun _ => 0)), (y1_5, iA E 5 (fun _ => 0)), (y1_6, iA E 5 (fun _ => 0)), (y1_7, iA E 6 (fun _ => 0)), (y1_8, iA E 6 (fun _ => 0)), (y1_9, iA E 5 (fun _ => 0))]) rfl ?_
  refine mr_putF C rfl 0 15 dX4_init_12 rfl ff_X4_12 rfl rfl rfl (Nat.le_of_ble_eq_true rfl) ?_
  refine mr_w (ws' := [(h0, .inr (4, [.null, .ref x1, .int (0), .int (0), .int (0)])), (x1, .inr (3, [.ref y1_1, .ref y1_2, .ref y1_3, .ref y1_4, .ref y1_5, .ref y1_6, .int (0), .int (0), .int (0), .int (0), .int (0), .ref y1_7, .ref y1_8, .ref y1_9])), (y1_1, iA E 6 (fun _ => 0)), (y1_2, iA E 6 (fun _ => 0)), (y1_3, iA E 6 (fun _ => 0)), (y1_4, iA E 5 (fun _ => 0)), (y1_5, iA E 5 (fun _ => 0)), (y1_6, iA E 5 (fun _ => 0)), (y1_7, iA E 6 (fun _ => 0)), (y1_8, iA E 6 (fun _ => 0)), (y1_9, iA E 5 (fun _ => 0))]) rfl ?_
  refine mr_aload_n C 16 dX4_init_15 rfl rfl ?_
  refine mr_aload_n C 17 dX4_init_16 rfl rfl ?_
  refine mr_putF C rfl 0 20 dX4_init_17 rfl ff_X4_18 rfl rfl rfl (Nat.le_of_ble_eq_true rfl) ?_
  refine mr_w (ws' := [(h0, .inr (4, [.ref h1, .ref x1, .int (0), .int (0), .int (0)])), (x1, .inr (3, [.ref y1_1, .ref y1_2, .ref y1_3, .ref y1_4, .ref y1_5, .ref y1_6, .int (0), .int (0), .int (0), .int (0), .int (0), .ref y1_7, .ref y1_8, .ref y1_9])), (y1_1, iA E 6 (fun _ => 0)), (y1_2, iA E 6 (fun _ => 0)), (y1_3, iA E 6 (fun _ => 0)), (y1_4, iA E 5 (fun _ => 0)), (y1_5, iA E 5 (fun _ => 0)), (y1_6, iA E 5 (fun _ => 0)), (y1_7, iA E 6 (fun _ => 0)), (y1_8, iA E 6 (fun _ => 0)), (y1_9, iA E 5 (fun _ => 0))]) rfl ?_
  refine mr_vret C dX4_init_20 rfl (Nat.le_of_ble_eq_true rfl) (Nat.le_of_ble_eq_true rfl) (Nat.le_trans hlen (Nat.le_of_ble_eq_true rfl)) ?_
  rw [hO]
  exact ⟨_, _, _, _, _, _, _, _, _, _, rfl, rfl⟩

set_option maxRecDepth 20000 in
set_option maxHeartbeats 4000000 in
theorem c_Future_init (E : EG) (h0 h1 : Nat)  : Ctr E mX2_init (4, 12, 74) [.ref h0, .ref h1] ([(h0, .inr (2, [.null, .null, .int (0), .int (0), .int (0), .null, .null]))]) (fun v w => ∃ x1 y2_1 y2_2 y2_3 y2_4 y2_5 y2_6 y2_7 y2_8 y2_9 x11 x12 : Nat, v = none ∧ w = [(h0, .inr (2, [.ref h1, .ref x1, .int (0), .int (0), .int (0), .ref x11, .ref x12])), (x1, .inr (3, [.ref y2_1, .ref y2_2, .ref y2_3, .ref y2_4, .ref y2_5, .ref y2_6, .int (0), .int (0), .int (0), .int (0), .int (0), .ref y2_7, .ref y2_8, .ref y2_9])), (y2_1, iA E 6 (fun _ => 0)), (y2_2, iA E 6 (fun _ => 0)), (y2_3, iA E 6 (fun _ => 0)), (y2_4, iA E 5 (fun _ => 0)), (y2_5, iA E 5 (fun _ => 0)), (y2_6, iA E 5 (fun _ => 0)), (y2_7, iA E 6 (fun _ => 0)), (y2_8, iA E 6 (fun _ => 0)), (y2_9, iA E 5 (fun _ => 0)), (x11, iA E 5 (fun _ => 0)), (x12, iA E 5 (fun _ => 0))]) := by
  refine Ctr.of (by decide) (Nat.le_of_ble_eq_true rfl) ?_
  intro Z hO hn C
  have hlen : zn Z ≤ 1 := by rw [hn]; exact Nat.le_of_ble_eq_true rfl
  refine mr_aload_n C 1 dX2_init_0 rfl rfl ?_
  refine mr_objI C 4 dX2_init_1 rfl ml_X2_3 gw_oi gw_oc (Nat.le_of_ble_eq_true rfl) (by decide) ?_
  refine mr_aload_n C 5 dX2_init_4 rfl rfl ?_
  refine mr_new C (ci := 3) [.null, .null, .null, .null, .null, .null, .int 0, .int 0, .int 0, .int 0, .int 0, .null, .null, .null] 8 dX2_init_5 rfl rfl iw3 tyX3_ok cl_X2_9 ins_3 ini_3 rfl ⟨Nat.le_of_ble_eq_true rfl, Nat.le_of_ble_eq_true rfl⟩ (fun x1 => ?_)
  refine mr_dup C 9 dX2_init_8 rfl rfl ?_
  refine mr_callIN C (c_House_init E x1) [1] 12 dX2_init_9 rfl mk_X3_init rfl rfl mi_X3_init mn_X2_11 rfl rfl rfl rfl (by decide) (Nat.le_of_ble_eq_true rfl) (Nat.le_of_ble_eq_true rfl) (Nat.le_of_ble_eq_true rfl) ⟨Nat.le_of_ble_eq_true rfl, Nat.le_of_ble_eq_true rfl⟩ (fun r w1 hpost => ?_)
  obtain ⟨y2_1, y2_2, y2_3, y2_4, y2_5, y2_6, y2_7, y2_8, y2_9, rfl, rfl⟩ := hpost
  refine mr_w (ws' := [(h0, .inr (2, [.null, .null, .int (0), .int (0), .int (0), .null, .null])), (x1, .inr (3, [.ref y2_1, .ref y2_2, .ref y2_3, .ref y2_4, .ref y2_5, .ref y2_6, .int (0), .int (0), .int (0), .int (0), .int (0), .ref y2_7, .ref y2_8, .ref y2_9])), (y2_1, iA E 6 (fun _ => 0)), (y2_2, iA E 6 (fun _ => 0)), (y2_3, iA E 6 (fun _ => 0)), (y2_4, iA E 5 (fun _ => 0)), (y2_5, iA E 5 (fun _ => 0)), (y2_6, iA E 5 (fun _ => 0)), (y2_7, iA E 6 (fun _ => 0)), (y2_8, iA E 6 (fun _ => 0)), (y2_9, iA E 5 (fun _ => 0))]) rfl ?_
  refine mr_putF C rfl 0 15 dX2_init_12 rfl ff_X2_12 rfl rfl rfl (Nat.le_of_ble_eq_true rfl) ?_
  refine mr_w (ws' := [(h0, .inr (2, [.null, .ref x1, .int (0), .int (0), .int (0), .null, .null])), (x1, .inr (3, [.ref y2_1, .ref y2_2, .ref y2_3, .ref y2_4, .ref y2_5, .ref y2_6, .int (0), .int (0), .int (0), .int (0), .int (0), .ref y2_7, .ref y2_8, .ref y2_9])), (y2_1, iA E 6 (fun _ => 0)), (y2_2, iA E 6 (fun _ => 0)), (y2_3, iA E 6 (fun _ => 0)), (y2_4, iA E 5 (fun _ => 0)), (y2_5, iA E 5 (fun _ => 0)), (y2_6, iA E 5 (fun _ => 0)), (y2_7, iA E 6 (fun _ => 0)), (y2_8, iA E 6 (fun _ => 0)), (y2_9, iA E 5 (fun _ => 0))]) rfl ?_
  refine mr_aload_n C 16 dX2_init_15 rfl rfl ?_
  refine mr_iconst C (nI 5) 17 dX2_init_16 rfl rfl ?_
  refine mr_newi C 5 19 dX2_init_17 rfl rfl (Nat.le_of_ble_eq_true rfl) ⟨Nat.le_of_ble_eq_true rfl, Nat.le_of_ble_eq_true rfl⟩ (fun x11 => ?_)
  refine mr_putF C rfl 0 22 dX2_init_19 rfl ff_X2_18 rfl rfl rfl (Nat.le_of_ble_eq_true rfl) ?_
  refine mr_w (ws' := [(h0, .inr (2, [.null, .ref x1, .int (0), .int (0), .int (0), .ref x11, .null])), (x1, .inr (3, [.ref y2_1, .ref y2_2, .ref y2_3, .ref y2_4, .ref y2_5, .ref y2_6, .int (0), .int (0), .int (0), .int (0), .int (0), .ref y2_7, .ref y2_8, .ref y2_9])), (y2_1, iA E 6 (fun _ => 0)), (y2_2, iA E 6 (fun _ => 0)), (y2_3, iA E 6 (fun _ => 0)), (y2_4, iA E 5 (fun _ => 0)), (y2_5, iA E 5 (fun _ => 0)), (y2_6, iA E 5 (fun _ => 0)), (y2_7, iA E 6 (fun _ => 0)), (y2_8, iA E 6 (fun _ => 0)), (y2_9, iA E 5 (fun _ => 0)), (x11, iA E 5 (fun _ => 0))]) rfl ?_
  refine mr_aload_n C 23 dX2_init_22 rfl rfl ?_
  refine mr_iconst C (nI 5) 24 dX2_init_23 rfl rfl ?_
  refine mr_newi C 5 26 dX2_init_24 rfl rfl (Nat.le_of_ble_eq_true rfl) ⟨Nat.le_of_ble_eq_true rfl, Nat.le_of_ble_eq_true rfl⟩ (fun x12 => ?_)
  refine mr_putF C rfl 0 29 dX2_init_26 rfl ff_X2_22 rfl rfl rfl (Nat.le_of_ble_eq_true rfl) ?_
  refine mr_w (ws' := [(h0, .inr (2, [.null, .ref x1, .int (0), .int (0), .int (0), .ref x11, .ref x12])), (x1, .inr (3, [.ref y2_1, .ref y2_2, .ref y2_3, .ref y2_4, .ref y2_5, .ref y2_6, .int (0), .int (0), .int (0), .int (0), .int (0), .ref y2_7, .ref y2_8, .ref y2_9])), (y2_1, iA E 6 (fun _ => 0)), (y2_2, iA E 6 (fun _ => 0)), (y2_3, iA E 6 (fun _ => 0)), (y2_4, iA E 5 (fun _ => 0)), (y2_5, iA E 5 (fun _ => 0)), (y2_6, iA E 5 (fun _ => 0)), (y2_7, iA E 6 (fun _ => 0)), (y2_8, iA E 6 (fun _ => 0)), (y2_9, iA E 5 (fun _ => 0)), (x11, iA E 5 (fun _ => 0)), (x12, iA E 5 (fun _ => 0))]) rfl ?_
  refine mr_aload_n C 30 dX2_init_29 rfl rfl ?_
  refine mr_aload_n C 31 dX2_init_30 rfl rfl ?_
  refine mr_putF C rfl 0 34 dX2_init_31 rfl ff_X2_25 rfl rfl rfl (Nat.le_of_ble_eq_true rfl) ?_
  refine mr_w (ws' := [(h0, .inr (2, [.ref h1, .ref x1, .int (0), .int (0), .int (0), .ref x11, .ref x12])), (x1, .inr (3, [.ref y2_1, .ref y2_2, .ref y2_3, .ref y2_4, .ref y2_5, .ref y2_6, .int (0), .int (0), .int (0), .int (0), .int (0), .ref y2_7, .ref y2_8, .ref y2_9])), (y2_1, iA E 6 (fun _ => 0)), (y2_2, iA E 6 (fun _ => 0)), (y2_3, iA E 6 (fun _ => 0)), (y2_4, iA E 5 (fun _ => 0)), (y2_5, iA E 5 (fun _ => 0)), (y2_6, iA E 5 (fun _ => 0)), (y2_7, iA E 6 (fun _ => 0)), (y2_8, iA E 6 (fun _ => 0)), (y2_9, iA E 5 (fun _ => 0)), (x11, iA E 5 (fun _ => 0)), (x12, iA E 5 (fun _ => 0))]) rfl ?_
  refine mr_vret C dX2_init_34 rfl (Nat.le_of_ble_eq_true rfl) (Nat.le_of_ble_eq_true rfl) (Nat.le_trans hlen (Nat.le_of_ble_eq_true rfl)) ?_
  rw [hO]
  exact ⟨_, _, _, _, _, _, _, _, _, _, _, _, rfl, rfl⟩

set_option maxRecDepth 20000 in
set_option maxHeartbeats 4000000 in
theorem c_Asks_init (E : EG) (h0 h1 : Nat)  : Ctr E mX1_init (4, 1, 16) [.ref h0, .ref h1] ([(h0, .inr (1, [.null, .null, .int (0)]))]) (fun v w => ∃ x1 : Nat, v = none ∧ w = [(h0, .inr (1, [.ref h1, .ref x1, .int (0)])), (x1, iA E 16 (fun _ => 0))]) := by
  refine Ctr.of (by decide) (Nat.le_of_ble_eq_true rfl) ?_
  intro Z hO hn C
  have hlen : zn Z ≤ 1 := by rw [hn]; exact Nat.le_of_ble_eq_true rfl
  refine mr_aload_n C 1 dX1_init_0 rfl rfl ?_
  refine mr_objI C 4 dX1_init_1 rfl ml_X1_1 gw_oi gw_oc (Nat.le_of_ble_eq_true rfl) (by decide) ?_
  refine mr_aload_n C 5 dX1_init_4 rfl rfl ?_
  refine mr_bipush C (nI 16) 7 dX1_init_5 rfl rfl ?_
  refine mr_newi C 16 9 dX1_init_7 rfl rfl (Nat.le_of_ble_eq_true rfl) ⟨Nat.le_of_ble_eq_true rfl, Nat.le_of_ble_eq_true rfl⟩ (fun x1 => ?_)
  refine mr_putF C rfl 0 12 dX1_init_9 rfl ff_X1_9 rfl rfl rfl (Nat.le_of_ble_eq_true rfl) ?_
  refine mr_w (ws' := [(h0, .inr (1, [.null, .ref x1, .int (0)])), (x1, iA E 16 (fun _ => 0))]) rfl ?_
  refine mr_aload_n C 13 dX1_init_12 rfl rfl ?_
  refine mr_aload_n C 14 dX1_init_13 rfl rfl ?_
  refine mr_putF C rfl 0 17 dX1_init_14 rfl ff_X1_13 rfl rfl rfl (Nat.le_of_ble_eq_true rfl) ?_
  refine mr_w (ws' := [(h0, .inr (1, [.ref h1, .ref x1, .int (0)])), (x1, iA E 16 (fun _ => 0))]) rfl ?_
  refine mr_vret C dX1_init_17 rfl (Nat.le_of_ble_eq_true rfl) (Nat.le_of_ble_eq_true rfl) (Nat.le_trans hlen (Nat.le_of_ble_eq_true rfl)) ?_
  rw [hO]
  exact ⟨_, rfl, rfl⟩

set_option maxRecDepth 20000 in
set_option maxHeartbeats 4000000 in
theorem c_Model_init (E : EG) (h0 : Nat)  : Ctr E mX8_init (6, 16, 1824) [.ref h0] ([(h0, .inr (8, [.int (0), .int (0), .null, .null, .null, .null, .null, .null, .int (0), .null, .int (0), .int (0), .int (0), .int (0), .int (0), .int (0), .int (0), .int (0), .int (0), .null, .null, .null, .null, .null, .null, .int (0), .int (0), .int (0), .null, .null, .null, .int (0)]))]) (fun v w => ∃ a : Nat → Nat, v = none ∧ a 0 = h0 ∧ w = wM E a 0 0 ((upd (upd (upd (upd (upd (upd (upd (upd (fun _ => 0) 0 (-1)) 1 (-1)) 2 (-1)) 3 (-1)) 4 (-1)) 5 (-1)) 6 (-1)) 7 (-1))) ((fun _ => 0)) ((fun _ => 0)) ((fun _ => 0)) ((fun _ => 0)) ((fun _ => 0)) 0 ((fun _ => 0)) 0 0 0 0 0 0 0 0 0 ((fun _ => 0)) ((fun _ => 0)) ((fun _ => 0)) ((fun _ => 0)) ((fun _ => 0)) ((fun _ => 0)) 0 0 0 ((fun _ => 0)) ((fun _ => 0)) ((fun _ => 0)) 0) := by
  refine Ctr.of (by decide) (Nat.le_of_ble_eq_true rfl) ?_
  intro Z hO hn C
  have hlen : zn Z ≤ 1 := by rw [hn]; exact Nat.le_of_ble_eq_true rfl
  refine mr_aload_n C 1 dX8_init_0 rfl rfl ?_
  refine mr_objI C 4 dX8_init_1 rfl ml_X8_1 gw_oi gw_oc (Nat.le_of_ble_eq_true rfl) (by decide) ?_
  refine mr_aload_n C 5 dX8_init_4 rfl rfl ?_
  refine mr_bipush C (nI 8) 7 dX8_init_5 rfl rfl ?_
  refine mr_newi C 8 9 dX8_init_7 rfl rfl (Nat.le_of_ble_eq_true rfl) ⟨Nat.le_of_ble_eq_true rfl, Nat.le_of_ble_eq_true rfl⟩ (fun x1 => ?_)
  refine mr_dup C 10 dX8_init_9 rfl rfl ?_
  refine mr_iconst C (nI 0) 11 dX8_init_10 rfl rfl ?_
  refine mr_iconst C (-1) 12 dX8_init_11 rfl rfl ?_
  refine mr_iast C 1 0 13 dX8_init_12 rfl rfl rfl (by omega) (by decide) ?_
  refine mr_dup C 14 dX8_init_13 rfl rfl ?_
  refine mr_iconst C (nI 1) 15 dX8_init_14 rfl rfl ?_
  refine mr_iconst C (-1) 16 dX8_init_15 rfl rfl ?_
  refine mr_iast C 1 1 17 dX8_init_16 rfl rfl rfl (by omega) (by decide) ?_
  refine mr_dup C 18 dX8_init_17 rfl rfl ?_
  refine mr_iconst C (nI 2) 19 dX8_init_18 rfl rfl ?_
  refine mr_iconst C (-1) 20 dX8_init_19 rfl rfl ?_
  refine mr_iast C 1 2 21 dX8_init_20 rfl rfl rfl (by omega) (by decide) ?_
  refine mr_dup C 22 dX8_init_21 rfl rfl ?_
  refine mr_iconst C (nI 3) 23 dX8_init_22 rfl rfl ?_
  refine mr_iconst C (-1) 24 dX8_init_23 rfl rfl ?_
  refine mr_iast C 1 3 25 dX8_init_24 rfl rfl rfl (by omega) (by decide) ?_
  refine mr_dup C 26 dX8_init_25 rfl rfl ?_
  refine mr_iconst C (nI 4) 27 dX8_init_26 rfl rfl ?_
  refine mr_iconst C (-1) 28 dX8_init_27 rfl rfl ?_
  refine mr_iast C 1 4 29 dX8_init_28 rfl rfl rfl (by omega) (by decide) ?_
  refine mr_dup C 30 dX8_init_29 rfl rfl ?_
  refine mr_iconst C (nI 5) 31 dX8_init_30 rfl rfl ?_
  refine mr_iconst C (-1) 32 dX8_init_31 rfl rfl ?_
  refine mr_iast C 1 5 33 dX8_init_32 rfl rfl rfl (by omega) (by decide) ?_
  refine mr_dup C 34 dX8_init_33 rfl rfl ?_
  refine mr_bipush C (nI 6) 36 dX8_init_34 rfl rfl ?_
  refine mr_iconst C (-1) 37 dX8_init_36 rfl rfl ?_
  refine mr_iast C 1 6 38 dX8_init_37 rfl rfl rfl (by omega) (by decide) ?_
  refine mr_dup C 39 dX8_init_38 rfl rfl ?_
  refine mr_bipush C (nI 7) 41 dX8_init_39 rfl rfl ?_
  refine mr_iconst C (-1) 42 dX8_init_41 rfl rfl ?_
  refine mr_iast C 1 7 43 dX8_init_42 rfl rfl rfl (by omega) (by decide) ?_
  refine mr_w (ws' := [(h0, .inr (8, [.int (0), .int (0), .null, .null, .null, .null, .null, .null, .int (0), .null, .int (0), .int (0), .int (0), .int (0), .int (0), .int (0), .int (0), .int (0), .int (0), .null, .null, .null, .null, .null, .null, .int (0), .int (0), .int (0), .null, .null, .null, .int (0)])), (x1, iA E 8 (upd (upd (upd (upd (upd (upd (upd (upd (fun _ => 0) 0 (-1)) 1 (-1)) 2 (-1)) 3 (-1)) 4 (-1)) 5 (-1)) 6 (-1)) 7 (-1)))]) rfl ?_
  refine mr_putF C rfl 0 46 dX8_init_43 rfl ff_X8_7 rfl rfl rfl (Nat.le_of_ble_eq_true rfl) ?_
  refine mr_w (ws' := [(h0, .inr (8, [.int (0), .int (0), .ref x1, .null, .null, .null, .null, .null, .int (0), .null, .int (0), .int (0), .int (0), .int (0), .int (0), .int (0), .int (0), .int (0), .int (0), .null, .null, .null, .null, .null, .null, .int (0), .int (0), .int (0), .null, .null, .null, .int (0)])), (x1, iA E 8 (upd (upd (upd (upd (upd (upd (upd (upd (fun _ => 0) 0 (-1)) 1 (-1)) 2 (-1)) 3 (-1)) 4 (-1)) 5 (-1)) 6 (-1)) 7 (-1)))]) rfl ?_
  refine mr_aload_n C 47 dX8_init_46 rfl rfl ?_
  refine mr_bipush C (nI 8) 49 dX8_init_47 rfl rfl ?_
  refine mr_newi C 8 51 dX8_init_49 rfl rfl (Nat.le_of_ble_eq_true rfl) ⟨Nat.le_of_ble_eq_true rfl, Nat.le_of_ble_eq_true rfl⟩ (fun x2 => ?_)
  refine mr_putF C rfl 0 54 dX8_init_51 rfl ff_X8_13 rfl rfl rfl (Nat.le_of_ble_eq_true rfl) ?_
  refine mr_w (ws' := [(h0, .inr (8, [.int (0), .int (0), .ref x1, .ref x2, .null, .null, .null, .null, .int (0), .null, .int (0), .int (0), .int (0), .int (0), .int (0), .int (0), .int (0), .int (0), .int (0), .null, .null, .null, .null, .null, .null, .int (0), .int (0), .int (0), .null, .null, .null, .int (0)])), (x1, iA E 8 (upd (upd (upd (upd (upd (upd (upd (upd (fun _ => 0) 0 (-1)) 1 (-1)) 2 (-1)) 3 (-1)) 4 (-1)) 5 (-1)) 6 (-1)) 7 (-1))), (x2, iA E 8 (fun _ => 0))]) rfl ?_
  refine mr_aload_n C 55 dX8_init_54 rfl rfl ?_
  refine mr_sipush C (nI 320) 58 dX8_init_55 rfl rfl ?_
  refine mr_newi C 320 60 dX8_init_58 rfl rfl (Nat.le_of_ble_eq_true rfl) ⟨Nat.le_of_ble_eq_true rfl, Nat.le_of_ble_eq_true rfl⟩ (fun x3 => ?_)
  refine mr_putF C rfl 0 63 dX8_init_60 rfl ff_X8_16 rfl rfl rfl (Nat.le_of_ble_eq_true rfl) ?_
  refine mr_w (ws' := [(h0, .inr (8, [.int (0), .int (0), .ref x1, .ref x2, .ref x3, .null, .null, .null, .int (0), .null, .int (0), .int (0), .int (0), .int (0), .int (0), .int (0), .int (0), .int (0), .int (0), .null, .null, .null, .null, .null, .null, .int (0), .int (0), .int (0), .null, .null, .null, .int (0)])), (x1, iA E 8 (upd (upd (upd (upd (upd (upd (upd (upd (fun _ => 0) 0 (-1)) 1 (-1)) 2 (-1)) 3 (-1)) 4 (-1)) 5 (-1)) 6 (-1)) 7 (-1))), (x2, iA E 8 (fun _ => 0)), (x3, iA E 320 (fun _ => 0))]) rfl ?_
  refine mr_aload_n C 64 dX8_init_63 rfl rfl ?_
  refine mr_bipush C (nI 37) 66 dX8_init_64 rfl rfl ?_
  refine mr_newi C 37 68 dX8_init_66 rfl rfl (Nat.le_of_ble_eq_true rfl) ⟨Nat.le_of_ble_eq_true rfl, Nat.le_of_ble_eq_true rfl⟩ (fun x4 => ?_)
  refine mr_putF C rfl 0 71 dX8_init_68 rfl ff_X8_19 rfl rfl rfl (Nat.le_of_ble_eq_true rfl) ?_
  refine mr_w (ws' := [(h0, .inr (8, [.int (0), .int (0), .ref x1, .ref x2, .ref x3, .ref x4, .null, .null, .int (0), .null, .int (0), .int (0), .int (0), .int (0), .int (0), .int (0), .int (0), .int (0), .int (0), .null, .null, .null, .null, .null, .null, .int (0), .int (0), .int (0), .null, .null, .null, .int (0)])), (x1, iA E 8 (upd (upd (upd (upd (upd (upd (upd (upd (fun _ => 0) 0 (-1)) 1 (-1)) 2 (-1)) 3 (-1)) 4 (-1)) 5 (-1)) 6 (-1)) 7 (-1))), (x2, iA E 8 (fun _ => 0)), (x3, iA E 320 (fun _ => 0)), (x4, iA E 37 (fun _ => 0))]) rfl ?_
  refine mr_aload_n C 72 dX8_init_71 rfl rfl ?_
  refine mr_bipush C (nI 37) 74 dX8_init_72 rfl rfl ?_
  refine mr_newi C 37 76 dX8_init_74 rfl rfl (Nat.le_of_ble_eq_true rfl) ⟨Nat.le_of_ble_eq_true rfl, Nat.le_of_ble_eq_true rfl⟩ (fun x5 => ?_)
  refine mr_putF C rfl 0 79 dX8_init_76 rfl ff_X8_22 rfl rfl rfl (Nat.le_of_ble_eq_true rfl) ?_
  refine mr_w (ws' := [(h0, .inr (8, [.int (0), .int (0), .ref x1, .ref x2, .ref x3, .ref x4, .ref x5, .null, .int (0), .null, .int (0), .int (0), .int (0), .int (0), .int (0), .int (0), .int (0), .int (0), .int (0), .null, .null, .null, .null, .null, .null, .int (0), .int (0), .int (0), .null, .null, .null, .int (0)])), (x1, iA E 8 (upd (upd (upd (upd (upd (upd (upd (upd (fun _ => 0) 0 (-1)) 1 (-1)) 2 (-1)) 3 (-1)) 4 (-1)) 5 (-1)) 6 (-1)) 7 (-1))), (x2, iA E 8 (fun _ => 0)), (x3, iA E 320 (fun _ => 0)), (x4, iA E 37 (fun _ => 0)), (x5, iA E 37 (fun _ => 0))]) rfl ?_
  refine mr_aload_n C 80 dX8_init_79 rfl rfl ?_
  refine mr_sipush C (nI 888) 83 dX8_init_80 rfl rfl ?_
  refine mr_newi C 888 85 dX8_init_83 rfl rfl (Nat.le_of_ble_eq_true rfl) ⟨Nat.le_of_ble_eq_true rfl, Nat.le_of_ble_eq_true rfl⟩ (fun x6 => ?_)
  refine mr_putF C rfl 0 88 dX8_init_85 rfl ff_X8_25 rfl rfl rfl (Nat.le_of_ble_eq_true rfl) ?_
  refine mr_w (ws' := [(h0, .inr (8, [.int (0), .int (0), .ref x1, .ref x2, .ref x3, .ref x4, .ref x5, .ref x6, .int (0), .null, .int (0), .int (0), .int (0), .int (0), .int (0), .int (0), .int (0), .int (0), .int (0), .null, .null, .null, .null, .null, .null, .int (0), .int (0), .int (0), .null, .null, .null, .int (0)])), (x1, iA E 8 (upd (upd (upd (upd (upd (upd (upd (upd (fun _ => 0) 0 (-1)) 1 (-1)) 2 (-1)) 3 (-1)) 4 (-1)) 5 (-1)) 6 (-1)) 7 (-1))), (x2, iA E 8 (fun _ => 0)), (x3, iA E 320 (fun _ => 0)), (x4, iA E 37 (fun _ => 0)), (x5, iA E 37 (fun _ => 0)), (x6, iA E 888 (fun _ => 0))]) rfl ?_
  refine mr_aload_n C 89 dX8_init_88 rfl rfl ?_
  refine mr_sipush C (nI 400) 92 dX8_init_89 rfl rfl ?_
  refine mr_newi C 400 94 dX8_init_92 rfl rfl (Nat.le_of_ble_eq_true rfl) ⟨Nat.le_of_ble_eq_true rfl, Nat.le_of_ble_eq_true rfl⟩ (fun x7 => ?_)
  refine mr_putF C rfl 0 97 dX8_init_94 rfl ff_X8_28 rfl rfl rfl (Nat.le_of_ble_eq_true rfl) ?_
  refine mr_w (ws' := [(h0, .inr (8, [.int (0), .int (0), .ref x1, .ref x2, .ref x3, .ref x4, .ref x5, .ref x6, .int (0), .ref x7, .int (0), .int (0), .int (0), .int (0), .int (0), .int (0), .int (0), .int (0), .int (0), .null, .null, .null, .null, .null, .null, .int (0), .int (0), .int (0), .null, .null, .null, .int (0)])), (x1, iA E 8 (upd (upd (upd (upd (upd (upd (upd (upd (fun _ => 0) 0 (-1)) 1 (-1)) 2 (-1)) 3 (-1)) 4 (-1)) 5 (-1)) 6 (-1)) 7 (-1))), (x2, iA E 8 (fun _ => 0)), (x3, iA E 320 (fun _ => 0)), (x4, iA E 37 (fun _ => 0)), (x5, iA E 37 (fun _ => 0)), (x6, iA E 888 (fun _ => 0)), (x7, iA E 400 (fun _ => 0))]) rfl ?_
  refine mr_aload_n C 98 dX8_init_97 rfl rfl ?_
  refine mr_iconst C (nI 5) 99 dX8_init_98 rfl rfl ?_
  refine mr_newi C 5 101 dX8_init_99 rfl rfl (Nat.le_of_ble_eq_true rfl) ⟨Nat.le_of_ble_eq_true rfl, Nat.le_of_ble_eq_true rfl⟩ (fun x8 => ?_)
  refine mr_putF C rfl 0 104 dX8_init_101 rfl ff_X8_31 rfl rfl rfl (Nat.le_of_ble_eq_true rfl) ?_
  refine mr_w (ws' := [(h0, .inr (8, [.int (0), .int (0), .ref x1, .ref x2, .ref x3, .ref x4, .ref x5, .ref x6, .int (0), .ref x7, .int (0), .int (0), .int (0), .int (0), .int (0), .int (0), .int (0), .int (0), .int (0), .ref x8, .null, .null, .null, .null, .null, .int (0), .int (0), .int (0), .null, .null, .null, .int (0)])), (x1, iA E 8 (upd (upd (upd (upd (upd (upd (upd (upd (fun _ => 0) 0 (-1)) 1 (-1)) 2 (-1)) 3 (-1)) 4 (-1)) 5 (-1)) 6 (-1)) 7 (-1))), (x2, iA E 8 (fun _ => 0)), (x3, iA E 320 (fun _ => 0)), (x4, iA E 37 (fun _ => 0)), (x5, iA E 37 (fun _ => 0)), (x6, iA E 888 (fun _ => 0)), (x7, iA E 400 (fun _ => 0)), (x8, iA E 5 (fun _ => 0))]) rfl ?_
  refine mr_aload_n C 105 dX8_init_104 rfl rfl ?_
  refine mr_iconst C (nI 5) 106 dX8_init_105 rfl rfl ?_
  refine mr_newi C 5 108 dX8_init_106 rfl rfl (Nat.le_of_ble_eq_true rfl) ⟨Nat.le_of_ble_eq_true rfl, Nat.le_of_ble_eq_true rfl⟩ (fun x9 => ?_)
  refine mr_putF C rfl 0 111 dX8_init_108 rfl ff_X8_34 rfl rfl rfl (Nat.le_of_ble_eq_true rfl) ?_
  refine mr_w (ws' := [(h0, .inr (8, [.int (0), .int (0), .ref x1, .ref x2, .ref x3, .ref x4, .ref x5, .ref x6, .int (0), .ref x7, .int (0), .int (0), .int (0), .int (0), .int (0), .int (0), .int (0), .int (0), .int (0), .ref x8, .ref x9, .null, .null, .null, .null, .int (0), .int (0), .int (0), .null, .null, .null, .int (0)])), (x1, iA E 8 (upd (upd (upd (upd (upd (upd (upd (upd (fun _ => 0) 0 (-1)) 1 (-1)) 2 (-1)) 3 (-1)) 4 (-1)) 5 (-1)) 6 (-1)) 7 (-1))), (x2, iA E 8 (fun _ => 0)), (x3, iA E 320 (fun _ => 0)), (x4, iA E 37 (fun _ => 0)), (x5, iA E 37 (fun _ => 0)), (x6, iA E 888 (fun _ => 0)), (x7, iA E 400 (fun _ => 0)), (x8, iA E 5 (fun _ => 0)), (x9, iA E 5 (fun _ => 0))]) rfl ?_
  refine mr_aload_n C 112 dX8_init_111 rfl rfl ?_
  refine mr_bipush C (nI 6) 114 dX8_init_112 rfl rfl ?_
  refine mr_newi C 6 116 dX8_init_114 rfl rfl (Nat.le_of_ble_eq_true rfl) ⟨Nat.le_of_ble_eq_true rfl, Nat.le_of_ble_eq_true rfl⟩ (fun x10 => ?_)
  refine mr_putF C rfl 0 119 dX8_init_116 rfl ff_X8_37 rfl rfl rfl (Nat.le_of_ble_eq_true rfl) ?_
  refine mr_w (ws' := [(h0, .inr (8, [.int (0), .int (0), .ref x1, .ref x2, .ref x3, .ref x4, .ref x5, .ref x6, .int (0), .ref x7, .int (0), .int (0), .int (0), .int (0), .int (0), .int (0), .int (0), .int (0), .int (0), .ref x8, .ref x9, .ref x10, .null, .null, .null, .int (0), .int (0), .int (0), .null, .null, .null, .int (0)])), (x1, iA E 8 (upd (upd (upd (upd (upd (upd (upd (upd (fun _ => 0) 0 (-1)) 1 (-1)) 2 (-1)) 3 (-1)) 4 (-1)) 5 (-1)) 6 (-1)) 7 (-1))), (x2, iA E 8 (fun _ => 0)), (x3, iA E 320 (fun _ => 0)), (x4, iA E 37 (fun _ => 0)), (x5, iA E 37 (fun _ => 0)), (x6, iA E 888 (fun _ => 0)), (x7, iA E 400 (fun _ => 0)), (x8, iA E 5 (fun _ => 0)), (x9, iA E 5 (fun _ => 0)), (x10, iA E 6 (fun _ => 0))]) rfl ?_
  refine mr_aload_n C 120 dX8_init_119 rfl rfl ?_
  refine mr_bipush C (nI 6) 122 dX8_init_120 rfl rfl ?_
  refine mr_newi C 6 124 dX8_init_122 rfl rfl (Nat.le_of_ble_eq_true rfl) ⟨Nat.le_of_ble_eq_true rfl, Nat.le_of_ble_eq_true rfl⟩ (fun x11 => ?_)
  refine mr_putF C rfl 0 127 dX8_init_124 rfl ff_X8_40 rfl rfl rfl (Nat.le_of_ble_eq_true rfl) ?_
  refine mr_w (ws' := [(h0, .inr (8, [.int (0), .int (0), .ref x1, .ref x2, .ref x3, .ref x4, .ref x5, .ref x6, .int (0), .ref x7, .int (0), .int (0), .int (0), .int (0), .int (0), .int (0), .int (0), .int (0), .int (0), .ref x8, .ref x9, .ref x10, .ref x11, .null, .null, .int (0), .int (0), .int (0), .null, .null, .null, .int (0)])), (x1, iA E 8 (upd (upd (upd (upd (upd (upd (upd (upd (fun _ => 0) 0 (-1)) 1 (-1)) 2 (-1)) 3 (-1)) 4 (-1)) 5 (-1)) 6 (-1)) 7 (-1))), (x2, iA E 8 (fun _ => 0)), (x3, iA E 320 (fun _ => 0)), (x4, iA E 37 (fun _ => 0)), (x5, iA E 37 (fun _ => 0)), (x6, iA E 888 (fun _ => 0)), (x7, iA E 400 (fun _ => 0)), (x8, iA E 5 (fun _ => 0)), (x9, iA E 5 (fun _ => 0)), (x10, iA E 6 (fun _ => 0)), (x11, iA E 6 (fun _ => 0))]) rfl ?_
  refine mr_aload_n C 128 dX8_init_127 rfl rfl ?_
  refine mr_bipush C (nI 6) 130 dX8_init_128 rfl rfl ?_
  refine mr_newi C 6 132 dX8_init_130 rfl rfl (Nat.le_of_ble_eq_true rfl) ⟨Nat.le_of_ble_eq_true rfl, Nat.le_of_ble_eq_true rfl⟩ (fun x12 => ?_)
  refine mr_putF C rfl 0 135 dX8_init_132 rfl ff_X8_43 rfl rfl rfl (Nat.le_of_ble_eq_true rfl) ?_
  refine mr_w (ws' := [(h0, .inr (8, [.int (0), .int (0), .ref x1, .ref x2, .ref x3, .ref x4, .ref x5, .ref x6, .int (0), .ref x7, .int (0), .int (0), .int (0), .int (0), .int (0), .int (0), .int (0), .int (0), .int (0), .ref x8, .ref x9, .ref x10, .ref x11, .ref x12, .null, .int (0), .int (0), .int (0), .null, .null, .null, .int (0)])), (x1, iA E 8 (upd (upd (upd (upd (upd (upd (upd (upd (fun _ => 0) 0 (-1)) 1 (-1)) 2 (-1)) 3 (-1)) 4 (-1)) 5 (-1)) 6 (-1)) 7 (-1))), (x2, iA E 8 (fun _ => 0)), (x3, iA E 320 (fun _ => 0)), (x4, iA E 37 (fun _ => 0)), (x5, iA E 37 (fun _ => 0)), (x6, iA E 888 (fun _ => 0)), (x7, iA E 400 (fun _ => 0)), (x8, iA E 5 (fun _ => 0)), (x9, iA E 5 (fun _ => 0)), (x10, iA E 6 (fun _ => 0)), (x11, iA E 6 (fun _ => 0)), (x12, iA E 6 (fun _ => 0))]) rfl ?_
  refine mr_aload_n C 136 dX8_init_135 rfl rfl ?_
  refine mr_bipush C (nI 6) 138 dX8_init_136 rfl rfl ?_
  refine mr_newi C 6 140 dX8_init_138 rfl rfl (Nat.le_of_ble_eq_true rfl) ⟨Nat.le_of_ble_eq_true rfl, Nat.le_of_ble_eq_true rfl⟩ (fun x13 => ?_)
  refine mr_putF C rfl 0 143 dX8_init_140 rfl ff_X8_46 rfl rfl rfl (Nat.le_of_ble_eq_true rfl) ?_
  refine mr_w (ws' := [(h0, .inr (8, [.int (0), .int (0), .ref x1, .ref x2, .ref x3, .ref x4, .ref x5, .ref x6, .int (0), .ref x7, .int (0), .int (0), .int (0), .int (0), .int (0), .int (0), .int (0), .int (0), .int (0), .ref x8, .ref x9, .ref x10, .ref x11, .ref x12, .ref x13, .int (0), .int (0), .int (0), .null, .null, .null, .int (0)])), (x1, iA E 8 (upd (upd (upd (upd (upd (upd (upd (upd (fun _ => 0) 0 (-1)) 1 (-1)) 2 (-1)) 3 (-1)) 4 (-1)) 5 (-1)) 6 (-1)) 7 (-1))), (x2, iA E 8 (fun _ => 0)), (x3, iA E 320 (fun _ => 0)), (x4, iA E 37 (fun _ => 0)), (x5, iA E 37 (fun _ => 0)), (x6, iA E 888 (fun _ => 0)), (x7, iA E 400 (fun _ => 0)), (x8, iA E 5 (fun _ => 0)), (x9, iA E 5 (fun _ => 0)), (x10, iA E 6 (fun _ => 0)), (x11, iA E 6 (fun _ => 0)), (x12, iA E 6 (fun _ => 0)), (x13, iA E 6 (fun _ => 0))]) rfl ?_
  refine mr_aload_n C 144 dX8_init_143 rfl rfl ?_
  refine mr_iconst C (nI 2) 145 dX8_init_144 rfl rfl ?_
  refine mr_newz C 2 147 dX8_init_145 rfl rfl (Nat.le_of_ble_eq_true rfl) ⟨Nat.le_of_ble_eq_true rfl, Nat.le_of_ble_eq_true rfl⟩ (fun x14 => ?_)
  refine mr_putF C rfl 0 150 dX8_init_147 rfl ff_X8_49 rfl rfl rfl (Nat.le_of_ble_eq_true rfl) ?_
  refine mr_w (ws' := [(h0, .inr (8, [.int (0), .int (0), .ref x1, .ref x2, .ref x3, .ref x4, .ref x5, .ref x6, .int (0), .ref x7, .int (0), .int (0), .int (0), .int (0), .int (0), .int (0), .int (0), .int (0), .int (0), .ref x8, .ref x9, .ref x10, .ref x11, .ref x12, .ref x13, .int (0), .int (0), .int (0), .ref x14, .null, .null, .int (0)])), (x1, iA E 8 (upd (upd (upd (upd (upd (upd (upd (upd (fun _ => 0) 0 (-1)) 1 (-1)) 2 (-1)) 3 (-1)) 4 (-1)) 5 (-1)) 6 (-1)) 7 (-1))), (x2, iA E 8 (fun _ => 0)), (x3, iA E 320 (fun _ => 0)), (x4, iA E 37 (fun _ => 0)), (x5, iA E 37 (fun _ => 0)), (x6, iA E 888 (fun _ => 0)), (x7, iA E 400 (fun _ => 0)), (x8, iA E 5 (fun _ => 0)), (x9, iA E 5 (fun _ => 0)), (x10, iA E 6 (fun _ => 0)), (x11, iA E 6 (fun _ => 0)), (x12, iA E 6 (fun _ => 0)), (x13, iA E 6 (fun _ => 0)), (x14, .inl (E.1.1 103, 2, .inl (fun _ => 0)))]) rfl ?_
  refine mr_aload_n C 151 dX8_init_150 rfl rfl ?_
  refine mr_bipush C (nI 74) 153 dX8_init_151 rfl rfl ?_
  refine mr_newi C 74 155 dX8_init_153 rfl rfl (Nat.le_of_ble_eq_true rfl) ⟨Nat.le_of_ble_eq_true rfl, Nat.le_of_ble_eq_true rfl⟩ (fun x15 => ?_)
  refine mr_putF C rfl 0 158 dX8_init_155 rfl ff_X8_53 rfl rfl rfl (Nat.le_of_ble_eq_true rfl) ?_
  refine mr_w (ws' := [(h0, .inr (8, [.int (0), .int (0), .ref x1, .ref x2, .ref x3, .ref x4, .ref x5, .ref x6, .int (0), .ref x7, .int (0), .int (0), .int (0), .int (0), .int (0), .int (0), .int (0), .int (0), .int (0), .ref x8, .ref x9, .ref x10, .ref x11, .ref x12, .ref x13, .int (0), .int (0), .int (0), .ref x14, .ref x15, .null, .int (0)])), (x1, iA E 8 (upd (upd (upd (upd (upd (upd (upd (upd (fun _ => 0) 0 (-1)) 1 (-1)) 2 (-1)) 3 (-1)) 4 (-1)) 5 (-1)) 6 (-1)) 7 (-1))), (x2, iA E 8 (fun _ => 0)), (x3, iA E 320 (fun _ => 0)), (x4, iA E 37 (fun _ => 0)), (x5, iA E 37 (fun _ => 0)), (x6, iA E 888 (fun _ => 0)), (x7, iA E 400 (fun _ => 0)), (x8, iA E 5 (fun _ => 0)), (x9, iA E 5 (fun _ => 0)), (x10, iA E 6 (fun _ => 0)), (x11, iA E 6 (fun _ => 0)), (x12, iA E 6 (fun _ => 0)), (x13, iA E 6 (fun _ => 0)), (x14, .inl (E.1.1 103, 2, .inl (fun _ => 0))), (x15, iA E 74 (fun _ => 0))]) rfl ?_
  refine mr_aload_n C 159 dX8_init_158 rfl rfl ?_
  refine mr_bipush C (nI 16) 161 dX8_init_159 rfl rfl ?_
  refine mr_newi C 16 163 dX8_init_161 rfl rfl (Nat.le_of_ble_eq_true rfl) ⟨Nat.le_of_ble_eq_true rfl, Nat.le_of_ble_eq_true rfl⟩ (fun x16 => ?_)
  refine mr_putF C rfl 0 166 dX8_init_163 rfl ff_X8_56 rfl rfl rfl (Nat.le_of_ble_eq_true rfl) ?_
  refine mr_w (ws' := [(h0, .inr (8, [.int (0), .int (0), .ref x1, .ref x2, .ref x3, .ref x4, .ref x5, .ref x6, .int (0), .ref x7, .int (0), .int (0), .int (0), .int (0), .int (0), .int (0), .int (0), .int (0), .int (0), .ref x8, .ref x9, .ref x10, .ref x11, .ref x12, .ref x13, .int (0), .int (0), .int (0), .ref x14, .ref x15, .ref x16, .int (0)])), (x1, iA E 8 (upd (upd (upd (upd (upd (upd (upd (upd (fun _ => 0) 0 (-1)) 1 (-1)) 2 (-1)) 3 (-1)) 4 (-1)) 5 (-1)) 6 (-1)) 7 (-1))), (x2, iA E 8 (fun _ => 0)), (x3, iA E 320 (fun _ => 0)), (x4, iA E 37 (fun _ => 0)), (x5, iA E 37 (fun _ => 0)), (x6, iA E 888 (fun _ => 0)), (x7, iA E 400 (fun _ => 0)), (x8, iA E 5 (fun _ => 0)), (x9, iA E 5 (fun _ => 0)), (x10, iA E 6 (fun _ => 0)), (x11, iA E 6 (fun _ => 0)), (x12, iA E 6 (fun _ => 0)), (x13, iA E 6 (fun _ => 0)), (x14, .inl (E.1.1 103, 2, .inl (fun _ => 0))), (x15, iA E 74 (fun _ => 0)), (x16, iA E 16 (fun _ => 0))]) rfl ?_
  refine mr_vret C dX8_init_166 rfl (Nat.le_of_ble_eq_true rfl) (Nat.le_of_ble_eq_true rfl) (Nat.le_trans hlen (Nat.le_of_ble_eq_true rfl)) ?_
  rw [hO]
  obtain ⟨a, e0, e1, e2, e3, e4, e5, e6, e7, e8, e9, e10, e11, e12, e13, e14, e15, e16⟩ : ∃ a : Nat → Nat, a 0 = h0 ∧ a 1 = x1 ∧ a 2 = x2 ∧ a 3 = x3 ∧ a 4 = x4 ∧ a 5 = x5 ∧ a 6 = x6 ∧ a 7 = x7 ∧ a 8 = x8 ∧ a 9 = x9 ∧ a 10 = x10 ∧ a 11 = x11 ∧ a 12 = x12 ∧ a 13 = x13 ∧ a 14 = x14 ∧ a 15 = x15 ∧ a 16 = x16 := ⟨fun i => [h0, x1, x2, x3, x4, x5, x6, x7, x8, x9, x10, x11, x12, x13, x14, x15, x16].getD i 0, rfl, rfl, rfl, rfl, rfl, rfl, rfl, rfl, rfl, rfl, rfl, rfl, rfl, rfl, rfl, rfl, rfl⟩
  subst e0 e1 e2 e3 e4 e5 e6 e7 e8 e9 e10 e11 e12 e13 e14 e15 e16
  exact ⟨a, rfl, rfl, rfl⟩

