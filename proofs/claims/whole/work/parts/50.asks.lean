/-! Asks -/
set_option maxRecDepth 100000 in
theorem fn_X1_30 : Cond.fieldLinkNest RX1 30 RX7 (namP 1) "[I" RX7 ∈ lw_tbl := List.mem_of_getElem? (i := 790) rfl
set_option maxRecDepth 100000 in
theorem fn_X1_35 : Cond.fieldLinkNest RX1 35 RX7 (namP 2) "[I" RX7 ∈ lw_tbl := List.mem_of_getElem? (i := 792) rfl
set_option maxRecDepth 100000 in
theorem fn_X1_55 : Cond.fieldLinkNest RX1 55 RX7 (namP 0) "[I" RX7 ∈ lw_tbl := List.mem_of_getElem? (i := 797) rfl
theorem mr_getsN {E : EG} {M : MD} {q : RQ} {Z : ZX} {k n pc : Nat} {ws : va_W} {ls : List (Nat × Value)} {st : List Value} (C : CX E M q Z) (w : Nat) (hw : w < 3) {i : Nat} (pc' : Nat) (d : decode M.2.1 pc = .ok (.getstatic i, 3)) (hp : pc + 3 = pc') (hlk : Cond.fieldLinkNest M.1.cls i RX7 (namP w) "[I" RX7 ∈ lw_tbl) (kk : V E M q Z k n ws ls (.ref (E.2.1 w) :: st) pc') : V E M q Z k n ws ls st pc := by
  subst hp
  exact fun H locs lv hP hD hS hl => va_getsN C.1 C.2.1 (C.2.2.2.2.2.2.2.2.1.2.2.1 w hw).1 hS C.2.2.2.2.1 (va_Nw.use rfl (C.2.2.2.2.2.2.2.2.1.2.1 _ hlk rfl)) (fun _ h9 => h9) d (kk H locs lv hP hD hS hl)
/-- the trace: what is left in it -/
abbrev TRC : Type := FN × Nat
def lvT (x : Int32) (s : TRC) : TRC := if s.2 < 16 then (upd s.1 s.2 x, s.2 + 1) else s
def lvL : List Int32 → TRC → TRC
  | [], s => s
  | x :: xs, s => lvL xs (lvT x s)
theorem lvT_le {x : Int32} {s : TRC} (h : s.2 ≤ 16) : (lvT x s).2 ≤ 16 := by
  unfold lvT
  split
  · rename_i e; show s.2 + 1 ≤ 16; omega
  · exact h
theorem lvL_le : ∀ (l : List Int32) {s : TRC}, s.2 ≤ 16 → (lvL l s).2 ≤ 16
  | [], _, h => h
  | _ :: xs, _, h => lvL_le xs (lvT_le h)
/-- Asks at b, its trace at b+1, now at b2 -/
def wQ (E : EG) (a : Nat → Nat) (b b2 : Nat) (s : TRC) : va_W := [(a b, .inr (1, [.ref (a b2), .ref (a (b + 1)), .int (nI s.2)])), (a (b + 1), iA E 16 s.1)]
set_option maxRecDepth 20000 in
set_option maxHeartbeats 4000000 in
theorem c_leave (E : EG) (a : Nat → Nat) (b b2 : Nat) (tr : FN) (n : Nat) (hn : n ≤ 16) (x : Int32) : Ctr E mX1_leave (1, 0, 0) [.ref (a b), .int x] (wQ E a b b2 (tr, n)) (fun v w => v = none ∧ w = wQ E a b b2 (lvT x (tr, n))) := by
  refine Ctr.of (by decide) (Nat.le_of_ble_eq_true rfl) ?_
  intro Z hO hn0 C
  have hlen : zn Z ≤ 2 := by rw [hn0]; exact Nat.le_of_ble_eq_true rfl
  refine mr_aload_n C 1 dX1_leave_0 rfl rfl ?_
  refine mr_get C 0 4 dX1_leave_1 rfl fl_X1_17 rfl rfl ?_
  refine mr_bipush C (nI 16) 6 dX1_leave_4 rfl rfl ?_
  refine mr_icmpge C 29 9 dX1_leave_6 (by decide) rfl (fun c_6 => ?_) (fun c_6 => ?_)
  · rw [nI_leI (by omega) (by omega)] at c_6
    refine mr_vret C dX1_leave_29 rfl (by decide) (by decide) hlen ?_
    rw [hO]
    rw [show lvT x (tr, n) = (tr, n) from if_neg (by show ¬ n < 16; omega)]
    exact ⟨rfl, rfl⟩
  · rw [nI_leI (by omega) (by omega)] at c_6
    refine mr_aload_n C 10 dX1_leave_9 rfl rfl ?_
    refine mr_get C 0 13 dX1_leave_10 rfl fl_X1_9 rfl rfl ?_
    refine mr_aload_n C 14 dX1_leave_13 rfl rfl ?_
    refine mr_get C 0 17 dX1_leave_14 rfl fl_X1_17 rfl rfl ?_
    refine mr_iload_n C 18 dX1_leave_17 rfl rfl ?_
    refine mr_iast C 1 n 19 dX1_leave_18 rfl rfl rfl (by omega) (by decide) ?_
    refine mr_aload_n C 20 dX1_leave_19 rfl rfl ?_
    refine mr_dup C 21 dX1_leave_20 rfl rfl ?_
    refine mr_get C 0 24 dX1_leave_21 rfl fl_X1_17 rfl rfl ?_
    refine mr_iconst C (nI 1) 25 dX1_leave_24 rfl rfl ?_
    refine mr_iadd C (nI (n + 1)) 26 dX1_leave_25 rfl (nI_add _ _) ?_
    refine mr_put C 0 29 dX1_leave_26 rfl fs_X1_17 rfl rfl rfl (Nat.le_of_ble_eq_true rfl) ?_
    refine mr_vret C dX1_leave_29 rfl (by decide) (by decide) hlen ?_
    rw [hO]
    rw [show lvT x (tr, n) = (upd tr n x, n + 1) from if_pos (by show n < 16; omega)]
    exact ⟨rfl, rfl⟩

set_option maxRecDepth 20000 in
set_option maxHeartbeats 4000000 in
theorem c_near1_1 (E : EG)  : Ctr E mX1_nearestBody (0, 0, 0) [.int (nI 1), .ref (E.2.1 1)] ([]) (fun v w => v = some (.int (nI 11)) ∧ w = []) := by
  refine Ctr.of (by decide) (Nat.le_of_ble_eq_true rfl) ?_
  intro Z hO hn C
  have hlen : zn Z ≤ 0 := by rw [hn]; exact Nat.le_of_ble_eq_true rfl
  refine mr_iload_n C 1 dX1_nearestBody_0 rfl rfl ?_
  refine mr_istore_n C 2 dX1_nearestBody_1 rfl rfl (by decide) ?_
  refine mr_iconst C (nI 0) 3 dX1_nearestBody_2 rfl rfl ?_
  refine mr_istore_n C 4 dX1_nearestBody_3 rfl rfl (by decide) ?_
  refine mr_iload_n C 5 dX1_nearestBody_4 rfl rfl ?_
  refine mr_getsN C 0 (by decide) 8 dX1_nearestBody_5 rfl fn_X1_55 ?_
  refine mr_tlen C 9 dX1_nearestBody_8 rfl (C.2.2.2.2.2.2.2.2.1.2.2.1 0 (by decide)).2 ?_
  refine mr_icmpge C 34 12 dX1_nearestBody_9 (by decide) rfl (fun c_ => absurd c_ (by decide)) (fun _ => ?_)
  refine mr_iload_n C 13 dX1_nearestBody_12 rfl rfl ?_
  refine mr_ifle C 34 16 dX1_nearestBody_13 (by decide) rfl (fun c_ => absurd c_ (by decide)) (fun _ => ?_)
  refine mr_aload_n C 17 dX1_nearestBody_16 rfl rfl ?_
  refine mr_iload_n C 18 dX1_nearestBody_17 rfl rfl ?_
  refine mr_tint C 1 (v := .int (nI 11)) 19 dX1_nearestBody_18 rfl (C.2.2.2.2.2.2.2.2.1.2.2.1 1 (by decide)).2 rfl (by decide) (by decide) rfl ?_
  refine mr_ifne C 34 22 dX1_nearestBody_19 (by decide) rfl (fun _ => ?_) (fun c_ => absurd c_ (by decide))
  refine mr_aload_n C 35 dX1_nearestBody_34 rfl rfl ?_
  refine mr_iload_n C 36 dX1_nearestBody_35 rfl rfl ?_
  refine mr_tint C 1 (v := .int (nI 11)) 37 dX1_nearestBody_36 rfl (C.2.2.2.2.2.2.2.2.1.2.2.1 1 (by decide)).2 rfl (by decide) (by decide) rfl ?_
  refine mr_iret C dX1_nearestBody_37 rfl rfl (by decide) (by decide) hlen ?_
  rw [hO]
  exact ⟨rfl, rfl⟩

set_option maxRecDepth 20000 in
set_option maxHeartbeats 4000000 in
theorem c_near1_2 (E : EG)  : Ctr E mX1_nearestBody (0, 0, 0) [.int (nI 2), .ref (E.2.1 1)] ([]) (fun v w => v = some (.int (nI 12)) ∧ w = []) := by
  refine Ctr.of (by decide) (Nat.le_of_ble_eq_true rfl) ?_
  intro Z hO hn C
  have hlen : zn Z ≤ 0 := by rw [hn]; exact Nat.le_of_ble_eq_true rfl
  refine mr_iload_n C 1 dX1_nearestBody_0 rfl rfl ?_
  refine mr_istore_n C 2 dX1_nearestBody_1 rfl rfl (by decide) ?_
  refine mr_iconst C (nI 0) 3 dX1_nearestBody_2 rfl rfl ?_
  refine mr_istore_n C 4 dX1_nearestBody_3 rfl rfl (by decide) ?_
  refine mr_iload_n C 5 dX1_nearestBody_4 rfl rfl ?_
  refine mr_getsN C 0 (by decide) 8 dX1_nearestBody_5 rfl fn_X1_55 ?_
  refine mr_tlen C 9 dX1_nearestBody_8 rfl (C.2.2.2.2.2.2.2.2.1.2.2.1 0 (by decide)).2 ?_
  refine mr_icmpge C 34 12 dX1_nearestBody_9 (by decide) rfl (fun c_ => absurd c_ (by decide)) (fun _ => ?_)
  refine mr_iload_n C 13 dX1_nearestBody_12 rfl rfl ?_
  refine mr_ifle C 34 16 dX1_nearestBody_13 (by decide) rfl (fun c_ => absurd c_ (by decide)) (fun _ => ?_)
  refine mr_aload_n C 17 dX1_nearestBody_16 rfl rfl ?_
  refine mr_iload_n C 18 dX1_nearestBody_17 rfl rfl ?_
  refine mr_tint C 2 (v := .int (nI 12)) 19 dX1_nearestBody_18 rfl (C.2.2.2.2.2.2.2.2.1.2.2.1 1 (by decide)).2 rfl (by decide) (by decide) rfl ?_
  refine mr_ifne C 34 22 dX1_nearestBody_19 (by decide) rfl (fun _ => ?_) (fun c_ => absurd c_ (by decide))
  refine mr_aload_n C 35 dX1_nearestBody_34 rfl rfl ?_
  refine mr_iload_n C 36 dX1_nearestBody_35 rfl rfl ?_
  refine mr_tint C 2 (v := .int (nI 12)) 37 dX1_nearestBody_36 rfl (C.2.2.2.2.2.2.2.2.1.2.2.1 1 (by decide)).2 rfl (by decide) (by decide) rfl ?_
  refine mr_iret C dX1_nearestBody_37 rfl rfl (by decide) (by decide) hlen ?_
  rw [hO]
  exact ⟨rfl, rfl⟩

set_option maxRecDepth 20000 in
set_option maxHeartbeats 4000000 in
theorem c_near1_3 (E : EG)  : Ctr E mX1_nearestBody (0, 0, 0) [.int (nI 3), .ref (E.2.1 1)] ([]) (fun v w => v = some (.int (nI 11)) ∧ w = []) := by
  refine Ctr.of (by decide) (Nat.le_of_ble_eq_true rfl) ?_
  intro Z hO hn C
  have hlen : zn Z ≤ 0 := by rw [hn]; exact Nat.le_of_ble_eq_true rfl
  refine mr_iload_n C 1 dX1_nearestBody_0 rfl rfl ?_
  refine mr_istore_n C 2 dX1_nearestBody_1 rfl rfl (by decide) ?_
  refine mr_iconst C (nI 0) 3 dX1_nearestBody_2 rfl rfl ?_
  refine mr_istore_n C 4 dX1_nearestBody_3 rfl rfl (by decide) ?_
  refine mr_iload_n C 5 dX1_nearestBody_4 rfl rfl ?_
  refine mr_getsN C 0 (by decide) 8 dX1_nearestBody_5 rfl fn_X1_55 ?_
  refine mr_tlen C 9 dX1_nearestBody_8 rfl (C.2.2.2.2.2.2.2.2.1.2.2.1 0 (by decide)).2 ?_
  refine mr_icmpge C 34 12 dX1_nearestBody_9 (by decide) rfl (fun c_ => absurd c_ (by decide)) (fun _ => ?_)
  refine mr_iload_n C 13 dX1_nearestBody_12 rfl rfl ?_
  refine mr_ifle C 34 16 dX1_nearestBody_13 (by decide) rfl (fun c_ => absurd c_ (by decide)) (fun _ => ?_)
  refine mr_aload_n C 17 dX1_nearestBody_16 rfl rfl ?_
  refine mr_iload_n C 18 dX1_nearestBody_17 rfl rfl ?_
  refine mr_tint C 3 (v := .int (nI 0)) 19 dX1_nearestBody_18 rfl (C.2.2.2.2.2.2.2.2.1.2.2.1 1 (by decide)).2 rfl (by decide) (by decide) rfl ?_
  refine mr_ifne C 34 22 dX1_nearestBody_19 (by decide) rfl (fun c_ => absurd (by decide) c_) (fun _ => ?_)
  refine mr_getsN C 0 (by decide) 25 dX1_nearestBody_22 rfl fn_X1_55 ?_
  refine mr_iload_n C 26 dX1_nearestBody_25 rfl rfl ?_
  refine mr_tint C 3 (v := .int (nI 1)) 27 dX1_nearestBody_26 rfl (C.2.2.2.2.2.2.2.2.1.2.2.1 0 (by decide)).2 rfl (by decide) (by decide) rfl ?_
  refine mr_istore_n C 28 dX1_nearestBody_27 rfl rfl (by decide) ?_
  refine mr_iinc C (nI 1) 31 dX1_nearestBody_28 rfl rfl (by decide) rfl ?_
  refine mr_goto C 4 dX1_nearestBody_31 (by decide) ?_
  refine mr_iload_n C 5 dX1_nearestBody_4 rfl rfl ?_
  refine mr_getsN C 0 (by decide) 8 dX1_nearestBody_5 rfl fn_X1_55 ?_
  refine mr_tlen C 9 dX1_nearestBody_8 rfl (C.2.2.2.2.2.2.2.2.1.2.2.1 0 (by decide)).2 ?_
  refine mr_icmpge C 34 12 dX1_nearestBody_9 (by decide) rfl (fun c_ => absurd c_ (by decide)) (fun _ => ?_)
  refine mr_iload_n C 13 dX1_nearestBody_12 rfl rfl ?_
  refine mr_ifle C 34 16 dX1_nearestBody_13 (by decide) rfl (fun c_ => absurd c_ (by decide)) (fun _ => ?_)
  refine mr_aload_n C 17 dX1_nearestBody_16 rfl rfl ?_
  refine mr_iload_n C 18 dX1_nearestBody_17 rfl rfl ?_
  refine mr_tint C 1 (v := .int (nI 11)) 19 dX1_nearestBody_18 rfl (C.2.2.2.2.2.2.2.2.1.2.2.1 1 (by decide)).2 rfl (by decide) (by decide) rfl ?_
  refine mr_ifne C 34 22 dX1_nearestBody_19 (by decide) rfl (fun _ => ?_) (fun c_ => absurd c_ (by decide))
  refine mr_aload_n C 35 dX1_nearestBody_34 rfl rfl ?_
  refine mr_iload_n C 36 dX1_nearestBody_35 rfl rfl ?_
  refine mr_tint C 1 (v := .int (nI 11)) 37 dX1_nearestBody_36 rfl (C.2.2.2.2.2.2.2.2.1.2.2.1 1 (by decide)).2 rfl (by decide) (by decide) rfl ?_
  refine mr_iret C dX1_nearestBody_37 rfl rfl (by decide) (by decide) hlen ?_
  rw [hO]
  exact ⟨rfl, rfl⟩

set_option maxRecDepth 20000 in
set_option maxHeartbeats 4000000 in
theorem c_near1_4 (E : EG)  : Ctr E mX1_nearestBody (0, 0, 0) [.int (nI 4), .ref (E.2.1 1)] ([]) (fun v w => v = some (.int (nI 13)) ∧ w = []) := by
  refine Ctr.of (by decide) (Nat.le_of_ble_eq_true rfl) ?_
  intro Z hO hn C
  have hlen : zn Z ≤ 0 := by rw [hn]; exact Nat.le_of_ble_eq_true rfl
  refine mr_iload_n C 1 dX1_nearestBody_0 rfl rfl ?_
  refine mr_istore_n C 2 dX1_nearestBody_1 rfl rfl (by decide) ?_
  refine mr_iconst C (nI 0) 3 dX1_nearestBody_2 rfl rfl ?_
  refine mr_istore_n C 4 dX1_nearestBody_3 rfl rfl (by decide) ?_
  refine mr_iload_n C 5 dX1_nearestBody_4 rfl rfl ?_
  refine mr_getsN C 0 (by decide) 8 dX1_nearestBody_5 rfl fn_X1_55 ?_
  refine mr_tlen C 9 dX1_nearestBody_8 rfl (C.2.2.2.2.2.2.2.2.1.2.2.1 0 (by decide)).2 ?_
  refine mr_icmpge C 34 12 dX1_nearestBody_9 (by decide) rfl (fun c_ => absurd c_ (by decide)) (fun _ => ?_)
  refine mr_iload_n C 13 dX1_nearestBody_12 rfl rfl ?_
  refine mr_ifle C 34 16 dX1_nearestBody_13 (by decide) rfl (fun c_ => absurd c_ (by decide)) (fun _ => ?_)
  refine mr_aload_n C 17 dX1_nearestBody_16 rfl rfl ?_
  refine mr_iload_n C 18 dX1_nearestBody_17 rfl rfl ?_
  refine mr_tint C 4 (v := .int (nI 13)) 19 dX1_nearestBody_18 rfl (C.2.2.2.2.2.2.2.2.1.2.2.1 1 (by decide)).2 rfl (by decide) (by decide) rfl ?_
  refine mr_ifne C 34 22 dX1_nearestBody_19 (by decide) rfl (fun _ => ?_) (fun c_ => absurd c_ (by decide))
  refine mr_aload_n C 35 dX1_nearestBody_34 rfl rfl ?_
  refine mr_iload_n C 36 dX1_nearestBody_35 rfl rfl ?_
  refine mr_tint C 4 (v := .int (nI 13)) 37 dX1_nearestBody_36 rfl (C.2.2.2.2.2.2.2.2.1.2.2.1 1 (by decide)).2 rfl (by decide) (by decide) rfl ?_
  refine mr_iret C dX1_nearestBody_37 rfl rfl (by decide) (by decide) hlen ?_
  rw [hO]
  exact ⟨rfl, rfl⟩

set_option maxRecDepth 20000 in
set_option maxHeartbeats 4000000 in
theorem c_near1_5 (E : EG)  : Ctr E mX1_nearestBody (0, 0, 0) [.int (nI 5), .ref (E.2.1 1)] ([]) (fun v w => v = some (.int (nI 14)) ∧ w = []) := by
  refine Ctr.of (by decide) (Nat.le_of_ble_eq_true rfl) ?_
  intro Z hO hn C
  have hlen : zn Z ≤ 0 := by rw [hn]; exact Nat.le_of_ble_eq_true rfl
  refine mr_iload_n C 1 dX1_nearestBody_0 rfl rfl ?_
  refine mr_istore_n C 2 dX1_nearestBody_1 rfl rfl (by decide) ?_
  refine mr_iconst C (nI 0) 3 dX1_nearestBody_2 rfl rfl ?_
  refine mr_istore_n C 4 dX1_nearestBody_3 rfl rfl (by decide) ?_
  refine mr_iload_n C 5 dX1_nearestBody_4 rfl rfl ?_
  refine mr_getsN C 0 (by decide) 8 dX1_nearestBody_5 rfl fn_X1_55 ?_
  refine mr_tlen C 9 dX1_nearestBody_8 rfl (C.2.2.2.2.2.2.2.2.1.2.2.1 0 (by decide)).2 ?_
  refine mr_icmpge C 34 12 dX1_nearestBody_9 (by decide) rfl (fun c_ => absurd c_ (by decide)) (fun _ => ?_)
  refine mr_iload_n C 13 dX1_nearestBody_12 rfl rfl ?_
  refine mr_ifle C 34 16 dX1_nearestBody_13 (by decide) rfl (fun c_ => absurd c_ (by decide)) (fun _ => ?_)
  refine mr_aload_n C 17 dX1_nearestBody_16 rfl rfl ?_
  refine mr_iload_n C 18 dX1_nearestBody_17 rfl rfl ?_
  refine mr_tint C 5 (v := .int (nI 14)) 19 dX1_nearestBody_18 rfl (C.2.2.2.2.2.2.2.2.1.2.2.1 1 (by decide)).2 rfl (by decide) (by decide) rfl ?_
  refine mr_ifne C 34 22 dX1_nearestBody_19 (by decide) rfl (fun _ => ?_) (fun c_ => absurd c_ (by decide))
  refine mr_aload_n C 35 dX1_nearestBody_34 rfl rfl ?_
  refine mr_iload_n C 36 dX1_nearestBody_35 rfl rfl ?_
  refine mr_tint C 5 (v := .int (nI 14)) 37 dX1_nearestBody_36 rfl (C.2.2.2.2.2.2.2.2.1.2.2.1 1 (by decide)).2 rfl (by decide) (by decide) rfl ?_
  refine mr_iret C dX1_nearestBody_37 rfl rfl (by decide) (by decide) hlen ?_
  rw [hO]
  exact ⟨rfl, rfl⟩

set_option maxRecDepth 20000 in
set_option maxHeartbeats 4000000 in
theorem c_near2_1 (E : EG)  : Ctr E mX1_nearestBody (0, 0, 0) [.int (nI 1), .ref (E.2.1 2)] ([]) (fun v w => v = some (.int (nI 21)) ∧ w = []) := by
  refine Ctr.of (by decide) (Nat.le_of_ble_eq_true rfl) ?_
  intro Z hO hn C
  have hlen : zn Z ≤ 0 := by rw [hn]; exact Nat.le_of_ble_eq_true rfl
  refine mr_iload_n C 1 dX1_nearestBody_0 rfl rfl ?_
  refine mr_istore_n C 2 dX1_nearestBody_1 rfl rfl (by decide) ?_
  refine mr_iconst C (nI 0) 3 dX1_nearestBody_2 rfl rfl ?_
  refine mr_istore_n C 4 dX1_nearestBody_3 rfl rfl (by decide) ?_
  refine mr_iload_n C 5 dX1_nearestBody_4 rfl rfl ?_
  refine mr_getsN C 0 (by decide) 8 dX1_nearestBody_5 rfl fn_X1_55 ?_
  refine mr_tlen C 9 dX1_nearestBody_8 rfl (C.2.2.2.2.2.2.2.2.1.2.2.1 0 (by decide)).2 ?_
  refine mr_icmpge C 34 12 dX1_nearestBody_9 (by decide) rfl (fun c_ => absurd c_ (by decide)) (fun _ => ?_)
  refine mr_iload_n C 13 dX1_nearestBody_12 rfl rfl ?_
  refine mr_ifle C 34 16 dX1_nearestBody_13 (by decide) rfl (fun c_ => absurd c_ (by decide)) (fun _ => ?_)
  refine mr_aload_n C 17 dX1_nearestBody_16 rfl rfl ?_
  refine mr_iload_n C 18 dX1_nearestBody_17 rfl rfl ?_
  refine mr_tint C 1 (v := .int (nI 21)) 19 dX1_nearestBody_18 rfl (C.2.2.2.2.2.2.2.2.1.2.2.1 2 (by decide)).2 rfl (by decide) (by decide) rfl ?_
  refine mr_ifne C 34 22 dX1_nearestBody_19 (by decide) rfl (fun _ => ?_) (fun c_ => absurd c_ (by decide))
  refine mr_aload_n C 35 dX1_nearestBody_34 rfl rfl ?_
  refine mr_iload_n C 36 dX1_nearestBody_35 rfl rfl ?_
  refine mr_tint C 1 (v := .int (nI 21)) 37 dX1_nearestBody_36 rfl (C.2.2.2.2.2.2.2.2.1.2.2.1 2 (by decide)).2 rfl (by decide) (by decide) rfl ?_
  refine mr_iret C dX1_nearestBody_37 rfl rfl (by decide) (by decide) hlen ?_
  rw [hO]
  exact ⟨rfl, rfl⟩

set_option maxRecDepth 20000 in
set_option maxHeartbeats 4000000 in
theorem c_near2_2 (E : EG)  : Ctr E mX1_nearestBody (0, 0, 0) [.int (nI 2), .ref (E.2.1 2)] ([]) (fun v w => v = some (.int (nI 24)) ∧ w = []) := by
  refine Ctr.of (by decide) (Nat.le_of_ble_eq_true rfl) ?_
  intro Z hO hn C
  have hlen : zn Z ≤ 0 := by rw [hn]; exact Nat.le_of_ble_eq_true rfl
  refine mr_iload_n C 1 dX1_nearestBody_0 rfl rfl ?_
  refine mr_istore_n C 2 dX1_nearestBody_1 rfl rfl (by decide) ?_
  refine mr_iconst C (nI 0) 3 dX1_nearestBody_2 rfl rfl ?_
  refine mr_istore_n C 4 dX1_nearestBody_3 rfl rfl (by decide) ?_
  refine mr_iload_n C 5 dX1_nearestBody_4 rfl rfl ?_
  refine mr_getsN C 0 (by decide) 8 dX1_nearestBody_5 rfl fn_X1_55 ?_
  refine mr_tlen C 9 dX1_nearestBody_8 rfl (C.2.2.2.2.2.2.2.2.1.2.2.1 0 (by decide)).2 ?_
  refine mr_icmpge C 34 12 dX1_nearestBody_9 (by decide) rfl (fun c_ => absurd c_ (by decide)) (fun _ => ?_)
  refine mr_iload_n C 13 dX1_nearestBody_12 rfl rfl ?_
  refine mr_ifle C 34 16 dX1_nearestBody_13 (by decide) rfl (fun c_ => absurd c_ (by decide)) (fun _ => ?_)
  refine mr_aload_n C 17 dX1_nearestBody_16 rfl rfl ?_
  refine mr_iload_n C 18 dX1_nearestBody_17 rfl rfl ?_
  refine mr_tint C 2 (v := .int (nI 24)) 19 dX1_nearestBody_18 rfl (C.2.2.2.2.2.2.2.2.1.2.2.1 2 (by decide)).2 rfl (by decide) (by decide) rfl ?_
  refine mr_ifne C 34 22 dX1_nearestBody_19 (by decide) rfl (fun _ => ?_) (fun c_ => absurd c_ (by decide))
  refine mr_aload_n C 35 dX1_nearestBody_34 rfl rfl ?_
  refine mr_iload_n C 36 dX1_nearestBody_35 rfl rfl ?_
  refine mr_tint C 2 (v := .int (nI 24)) 37 dX1_nearestBody_36 rfl (C.2.2.2.2.2.2.2.2.1.2.2.1 2 (by decide)).2 rfl (by decide) (by decide) rfl ?_
  refine mr_iret C dX1_nearestBody_37 rfl rfl (by decide) (by decide) hlen ?_
  rw [hO]
  exact ⟨rfl, rfl⟩

set_option maxRecDepth 20000 in
set_option maxHeartbeats 4000000 in
theorem c_near2_3 (E : EG)  : Ctr E mX1_nearestBody (0, 0, 0) [.int (nI 3), .ref (E.2.1 2)] ([]) (fun v w => v = some (.int (nI 22)) ∧ w = []) := by
  refine Ctr.of (by decide) (Nat.le_of_ble_eq_true rfl) ?_
  intro Z hO hn C
  have hlen : zn Z ≤ 0 := by rw [hn]; exact Nat.le_of_ble_eq_true rfl
  refine mr_iload_n C 1 dX1_nearestBody_0 rfl rfl ?_
  refine mr_istore_n C 2 dX1_nearestBody_1 rfl rfl (by decide) ?_
  refine mr_iconst C (nI 0) 3 dX1_nearestBody_2 rfl rfl ?_
  refine mr_istore_n C 4 dX1_nearestBody_3 rfl rfl (by decide) ?_
  refine mr_iload_n C 5 dX1_nearestBody_4 rfl rfl ?_
  refine mr_getsN C 0 (by decide) 8 dX1_nearestBody_5 rfl fn_X1_55 ?_
  refine mr_tlen C 9 dX1_nearestBody_8 rfl (C.2.2.2.2.2.2.2.2.1.2.2.1 0 (by decide)).2 ?_
  refine mr_icmpge C 34 12 dX1_nearestBody_9 (by decide) rfl (fun c_ => absurd c_ (by decide)) (fun _ => ?_)
  refine mr_iload_n C 13 dX1_nearestBody_12 rfl rfl ?_
  refine mr_ifle C 34 16 dX1_nearestBody_13 (by decide) rfl (fun c_ => absurd c_ (by decide)) (fun _ => ?_)
  refine mr_aload_n C 17 dX1_nearestBody_16 rfl rfl ?_
  refine mr_iload_n C 18 dX1_nearestBody_17 rfl rfl ?_
  refine mr_tint C 3 (v := .int (nI 22)) 19 dX1_nearestBody_18 rfl (C.2.2.2.2.2.2.2.2.1.2.2.1 2 (by decide)).2 rfl (by decide) (by decide) rfl ?_
  refine mr_ifne C 34 22 dX1_nearestBody_19 (by decide) rfl (fun _ => ?_) (fun c_ => absurd c_ (by decide))
  refine mr_aload_n C 35 dX1_nearestBody_34 rfl rfl ?_
  refine mr_iload_n C 36 dX1_nearestBody_35 rfl rfl ?_
  refine mr_tint C 3 (v := .int (nI 22)) 37 dX1_nearestBody_36 rfl (C.2.2.2.2.2.2.2.2.1.2.2.1 2 (by decide)).2 rfl (by decide) (by decide) rfl ?_
  refine mr_iret C dX1_nearestBody_37 rfl rfl (by decide) (by decide) hlen ?_
  rw [hO]
  exact ⟨rfl, rfl⟩

set_option maxRecDepth 20000 in
set_option maxHeartbeats 4000000 in
theorem c_near2_4 (E : EG)  : Ctr E mX1_nearestBody (0, 0, 0) [.int (nI 4), .ref (E.2.1 2)] ([]) (fun v w => v = some (.int (nI 23)) ∧ w = []) := by
  refine Ctr.of (by decide) (Nat.le_of_ble_eq_true rfl) ?_
  intro Z hO hn C
  have hlen : zn Z ≤ 0 := by rw [hn]; exact Nat.le_of_ble_eq_true rfl
  refine mr_iload_n C 1 dX1_nearestBody_0 rfl rfl ?_
  refine mr_istore_n C 2 dX1_nearestBody_1 rfl rfl (by decide) ?_
  refine mr_iconst C (nI 0) 3 dX1_nearestBody_2 rfl rfl ?_
  refine mr_istore_n C 4 dX1_nearestBody_3 rfl rfl (by decide) ?_
  refine mr_iload_n C 5 dX1_nearestBody_4 rfl rfl ?_
  refine mr_getsN C 0 (by decide) 8 dX1_nearestBody_5 rfl fn_X1_55 ?_
  refine mr_tlen C 9 dX1_nearestBody_8 rfl (C.2.2.2.2.2.2.2.2.1.2.2.1 0 (by decide)).2 ?_
  refine mr_icmpge C 34 12 dX1_nearestBody_9 (by decide) rfl (fun c_ => absurd c_ (by decide)) (fun _ => ?_)
  refine mr_iload_n C 13 dX1_nearestBody_12 rfl rfl ?_
  refine mr_ifle C 34 16 dX1_nearestBody_13 (by decide) rfl (fun c_ => absurd c_ (by decide)) (fun _ => ?_)
  refine mr_aload_n C 17 dX1_nearestBody_16 rfl rfl ?_
  refine mr_iload_n C 18 dX1_nearestBody_17 rfl rfl ?_
  refine mr_tint C 4 (v := .int (nI 23)) 19 dX1_nearestBody_18 rfl (C.2.2.2.2.2.2.2.2.1.2.2.1 2 (by decide)).2 rfl (by decide) (by decide) rfl ?_
  refine mr_ifne C 34 22 dX1_nearestBody_19 (by decide) rfl (fun _ => ?_) (fun c_ => absurd c_ (by decide))
  refine mr_aload_n C 35 dX1_nearestBody_34 rfl rfl ?_
  refine mr_iload_n C 36 dX1_nearestBody_35 rfl rfl ?_
  refine mr_tint C 4 (v := .int (nI 23)) 37 dX1_nearestBody_36 rfl (C.2.2.2.2.2.2.2.2.1.2.2.1 2 (by decide)).2 rfl (by decide) (by decide) rfl ?_
  refine mr_iret C dX1_nearestBody_37 rfl rfl (by decide) (by decide) hlen ?_
  rw [hO]
  exact ⟨rfl, rfl⟩

set_option maxRecDepth 20000 in
set_option maxHeartbeats 4000000 in
theorem c_near2_5 (E : EG)  : Ctr E mX1_nearestBody (0, 0, 0) [.int (nI 5), .ref (E.2.1 2)] ([]) (fun v w => v = some (.int (nI 23)) ∧ w = []) := by
  refine Ctr.of (by decide) (Nat.le_of_ble_eq_true rfl) ?_
  intro Z hO hn C
  have hlen : zn Z ≤ 0 := by rw [hn]; exact Nat.le_of_ble_eq_true rfl
  refine mr_iload_n C 1 dX1_nearestBody_0 rfl rfl ?_
  refine mr_istore_n C 2 dX1_nearestBody_1 rfl rfl (by decide) ?_
  refine mr_iconst C (nI 0) 3 dX1_nearestBody_2 rfl rfl ?_
  refine mr_istore_n C 4 dX1_nearestBody_3 rfl rfl (by decide) ?_
  refine mr_iload_n C 5 dX1_nearestBody_4 rfl rfl ?_
  refine mr_getsN C 0 (by decide) 8 dX1_nearestBody_5 rfl fn_X1_55 ?_
  refine mr_tlen C 9 dX1_nearestBody_8 rfl (C.2.2.2.2.2.2.2.2.1.2.2.1 0 (by decide)).2 ?_
  refine mr_icmpge C 34 12 dX1_nearestBody_9 (by decide) rfl (fun c_ => absurd c_ (by decide)) (fun _ => ?_)
  refine mr_iload_n C 13 dX1_nearestBody_12 rfl rfl ?_
  refine mr_ifle C 34 16 dX1_nearestBody_13 (by decide) rfl (fun c_ => absurd c_ (by decide)) (fun _ => ?_)
  refine mr_aload_n C 17 dX1_nearestBody_16 rfl rfl ?_
  refine mr_iload_n C 18 dX1_nearestBody_17 rfl rfl ?_
  refine mr_tint C 5 (v := .int (nI 0)) 19 dX1_nearestBody_18 rfl (C.2.2.2.2.2.2.2.2.1.2.2.1 2 (by decide)).2 rfl (by decide) (by decide) rfl ?_
  refine mr_ifne C 34 22 dX1_nearestBody_19 (by decide) rfl (fun c_ => absurd (by decide) c_) (fun _ => ?_)
  refine mr_getsN C 0 (by decide) 25 dX1_nearestBody_22 rfl fn_X1_55 ?_
  refine mr_iload_n C 26 dX1_nearestBody_25 rfl rfl ?_
  refine mr_tint C 5 (v := .int (nI 4)) 27 dX1_nearestBody_26 rfl (C.2.2.2.2.2.2.2.2.1.2.2.1 0 (by decide)).2 rfl (by decide) (by decide) rfl ?_
  refine mr_istore_n C 28 dX1_nearestBody_27 rfl rfl (by decide) ?_
  refine mr_iinc C (nI 1) 31 dX1_nearestBody_28 rfl rfl (by decide) rfl ?_
  refine mr_goto C 4 dX1_nearestBody_31 (by decide) ?_
  refine mr_iload_n C 5 dX1_nearestBody_4 rfl rfl ?_
  refine mr_getsN C 0 (by decide) 8 dX1_nearestBody_5 rfl fn_X1_55 ?_
  refine mr_tlen C 9 dX1_nearestBody_8 rfl (C.2.2.2.2.2.2.2.2.1.2.2.1 0 (by decide)).2 ?_
  refine mr_icmpge C 34 12 dX1_nearestBody_9 (by decide) rfl (fun c_ => absurd c_ (by decide)) (fun _ => ?_)
  refine mr_iload_n C 13 dX1_nearestBody_12 rfl rfl ?_
  refine mr_ifle C 34 16 dX1_nearestBody_13 (by decide) rfl (fun c_ => absurd c_ (by decide)) (fun _ => ?_)
  refine mr_aload_n C 17 dX1_nearestBody_16 rfl rfl ?_
  refine mr_iload_n C 18 dX1_nearestBody_17 rfl rfl ?_
  refine mr_tint C 4 (v := .int (nI 23)) 19 dX1_nearestBody_18 rfl (C.2.2.2.2.2.2.2.2.1.2.2.1 2 (by decide)).2 rfl (by decide) (by decide) rfl ?_
  refine mr_ifne C 34 22 dX1_nearestBody_19 (by decide) rfl (fun _ => ?_) (fun c_ => absurd c_ (by decide))
  refine mr_aload_n C 35 dX1_nearestBody_34 rfl rfl ?_
  refine mr_iload_n C 36 dX1_nearestBody_35 rfl rfl ?_
  refine mr_tint C 4 (v := .int (nI 23)) 37 dX1_nearestBody_36 rfl (C.2.2.2.2.2.2.2.2.1.2.2.1 2 (by decide)).2 rfl (by decide) (by decide) rfl ?_
  refine mr_iret C dX1_nearestBody_37 rfl rfl (by decide) (by decide) hlen ?_
  rw [hO]
  exact ⟨rfl, rfl⟩

set_option maxRecDepth 20000 in
set_option maxHeartbeats 4000000 in
theorem c_rb10 (E : EG) (a : Nat → Nat) (b b2 : Nat) (s : TRC) (hs : s.2 ≤ 16) (se sn be so lo he inn al go : FN) (ro cr gn gu gr : Int32) (c d : Nat) (hc : c < 5) (hd : d + 0 ≤ 12) : Ctr E mX1_runBody (2, 0, 0) [.ref (a b), .int (nI 10), .int (nI c), .int (nI d)] (wQ E a b b2 s ++ wH E a b2 se sn be so lo he inn al go ro cr gn gu gr) (fun v w => v = some (.int (he c)) ∧ w = wQ E a b b2 (lvL [nI 10] s) ++ wH E a b2 se sn be so lo he inn al go ro cr gn gu gr) := by
  refine Ctr.of (by decide) (Nat.le_of_ble_eq_true rfl) ?_
  intro Z hO hn C
  have hlen : zn Z ≤ 12 := by rw [hn]; exact Nat.le_of_ble_eq_true rfl
  refine mr_iload_n C 1 dX1_runBody_0 rfl rfl ?_
  refine mr_bipush C (nI 12) 3 dX1_runBody_1 rfl rfl ?_
  refine mr_icmple C 8 6 dX1_runBody_3 (by decide) rfl (fun c_3 => ?_) (fun c_3 => ?_)
  · refine mr_aload_n C 9 dX1_runBody_8 rfl rfl ?_
    refine mr_iload_n C 10 dX1_runBody_9 rfl rfl ?_
    refine mr_callV C (c_leave E a b b2 s.1 s.2 hs (nI 10)) [0, 1] 0 1 13 dX1_runBody_10 rfl mk_X1_leave mi_X1_leave ml_X1_45 rfl rfl rfl rfl rfl (Nat.le_of_ble_eq_true rfl) (by decide) (by decide) (by decide) rfl rfl (fun r w1 hpost => ?_)
    obtain ⟨rfl, rfl⟩ := hpost
    refine mr_w (ws' := wQ E a b b2 (lvT (nI 10) s) ++ wH E a b2 se sn be so lo he inn al go ro cr gn gu gr) (jn_put [2, 10] [0] [wQ E a b b2 s, wH E a b2 se sn be so lo he inn al go ro cr gn gu gr] [wQ E a b b2 (lvT (nI 10) s)] [wQ E a b b2 (lvT (nI 10) s), wH E a b2 se sn be so lo he inn al go ro cr gn gu gr] rfl (by decide) rfl rfl rfl) ?_
    refine mr_iload_n C 14 dX1_runBody_13 rfl rfl ?_
    refine mr_tabIn C 88 dX1_runBody_14 (by decide) (by decide) rfl (by decide) ?_
    refine mr_aload_n C 89 dX1_runBody_88 rfl rfl ?_
    refine mr_get C 0 92 dX1_runBody_89 rfl fl_X1_13 rfl rfl ?_
    refine mr_get C 2 95 dX1_runBody_92 rfl fl_X1_49 rfl rfl ?_
    refine mr_iload_n C 96 dX1_runBody_95 rfl rfl ?_
    refine mr_iald C 8 c 97 dX1_runBody_96 rfl rfl rfl (by omega) (by decide) ?_
    refine mr_iret C dX1_runBody_97 rfl rfl (by decide) (by decide) hlen ?_
    rw [hO]
    exact ⟨rfl, rfl⟩
  · rw [nI_leI (by omega) (by omega)] at c_3; exact absurd (by omega) c_3

set_option maxRecDepth 20000 in
set_option maxHeartbeats 4000000 in
theorem c_rb20 (E : EG) (a : Nat → Nat) (b b2 : Nat) (s : TRC) (hs : s.2 ≤ 16) (se sn be so lo he inn al go : FN) (ro cr gn gu gr : Int32) (c d : Nat) (hc : c < 5) (hd : d + 0 ≤ 12) : Ctr E mX1_runBody (2, 0, 0) [.ref (a b), .int (nI 20), .int (nI c), .int (nI d)] (wQ E a b b2 s ++ wH E a b2 se sn be so lo he inn al go ro cr gn gu gr) (fun v w => v = some (.int (nI c)) ∧ w = wQ E a b b2 (lvL [nI 20] s) ++ wH E a b2 se sn be so lo he inn al go ro cr gn gu gr) := by
  refine Ctr.of (by decide) (Nat.le_of_ble_eq_true rfl) ?_
  intro Z hO hn C
  have hlen : zn Z ≤ 12 := by rw [hn]; exact Nat.le_of_ble_eq_true rfl
  refine mr_iload_n C 1 dX1_runBody_0 rfl rfl ?_
  refine mr_bipush C (nI 12) 3 dX1_runBody_1 rfl rfl ?_
  refine mr_icmple C 8 6 dX1_runBody_3 (by decide) rfl (fun c_3 => ?_) (fun c_3 => ?_)
  · refine mr_aload_n C 9 dX1_runBody_8 rfl rfl ?_
    refine mr_iload_n C 10 dX1_runBody_9 rfl rfl ?_
    refine mr_callV C (c_leave E a b b2 s.1 s.2 hs (nI 20)) [0, 1] 0 1 13 dX1_runBody_10 rfl mk_X1_leave mi_X1_leave ml_X1_45 rfl rfl rfl rfl rfl (Nat.le_of_ble_eq_true rfl) (by decide) (by decide) (by decide) rfl rfl (fun r w1 hpost => ?_)
    obtain ⟨rfl, rfl⟩ := hpost
    refine mr_w (ws' := wQ E a b b2 (lvT (nI 20) s) ++ wH E a b2 se sn be so lo he inn al go ro cr gn gu gr) (jn_put [2, 10] [0] [wQ E a b b2 s, wH E a b2 se sn be so lo he inn al go ro cr gn gu gr] [wQ E a b b2 (lvT (nI 20) s)] [wQ E a b b2 (lvT (nI 20) s), wH E a b2 se sn be so lo he inn al go ro cr gn gu gr] rfl (by decide) rfl rfl rfl) ?_
    refine mr_iload_n C 14 dX1_runBody_13 rfl rfl ?_
    refine mr_tabIn C 158 dX1_runBody_14 (by decide) (by decide) rfl (by decide) ?_
    refine mr_iload_n C 159 dX1_runBody_158 rfl rfl ?_
    refine mr_iret C dX1_runBody_159 rfl rfl (by decide) (by decide) hlen ?_
    rw [hO]
    exact ⟨rfl, rfl⟩
  · rw [nI_leI (by omega) (by omega)] at c_3; exact absurd (by omega) c_3

set_option maxRecDepth 20000 in
set_option maxHeartbeats 4000000 in
theorem c_rb13 (E : EG) (a : Nat → Nat) (b b2 : Nat) (s : TRC) (hs : s.2 ≤ 16) (se sn be so lo he inn al go : FN) (ro cr gn gu gr : Int32) (c d : Nat) (hc : c < 5) (hd : d + 1 ≤ 12) : Ctr E mX1_runBody (3, 0, 0) [.ref (a b), .int (nI 13), .int (nI c), .int (nI d)] (wQ E a b b2 s ++ wH E a b2 se sn be so lo he inn al go ro cr gn gu gr) (fun v w => v = some (.int (he c - nI 100)) ∧ w = wQ E a b b2 (lvL [nI 13, nI 10] s) ++ wH E a b2 se sn be so lo he inn al go ro cr gn gu gr) := by
  refine Ctr.of (by decide) (Nat.le_of_ble_eq_true rfl) ?_
  intro Z hO hn C
  have hlen : zn Z ≤ 12 := by rw [hn]; exact Nat.le_of_ble_eq_true rfl
  refine mr_iload_n C 1 dX1_runBody_0 rfl rfl ?_
  refine mr_bipush C (nI 12) 3 dX1_runBody_1 rfl rfl ?_
  refine mr_icmple C 8 6 dX1_runBody_3 (by decide) rfl (fun c_3 => ?_) (fun c_3 => ?_)
  · refine mr_aload_n C 9 dX1_runBody_8 rfl rfl ?_
    refine mr_iload_n C 10 dX1_runBody_9 rfl rfl ?_
    refine mr_callV C (c_leave E a b b2 s.1 s.2 hs (nI 13)) [0, 1] 0 1 13 dX1_runBody_10 rfl mk_X1_leave mi_X1_leave ml_X1_45 rfl rfl rfl rfl rfl (Nat.le_of_ble_eq_true rfl) (by decide) (by decide) (by decide) rfl rfl (fun r w1 hpost => ?_)
    obtain ⟨rfl, rfl⟩ := hpost
    refine mr_w (ws' := wQ E a b b2 (lvT (nI 13) s) ++ wH E a b2 se sn be so lo he inn al go ro cr gn gu gr) (jn_put [2, 10] [0] [wQ E a b b2 s, wH E a b2 se sn be so lo he inn al go ro cr gn gu gr] [wQ E a b b2 (lvT (nI 13) s)] [wQ E a b b2 (lvT (nI 13) s), wH E a b2 se sn be so lo he inn al go ro cr gn gu gr] rfl (by decide) rfl rfl rfl) ?_
    refine mr_iload_n C 14 dX1_runBody_13 rfl rfl ?_
    refine mr_tabIn C 131 dX1_runBody_14 (by decide) (by decide) rfl (by decide) ?_
    refine mr_aload_n C 132 dX1_runBody_131 rfl rfl ?_
    refine mr_bipush C (nI 10) 134 dX1_runBody_132 rfl rfl ?_
    refine mr_iload_n C 135 dX1_runBody_134 rfl rfl ?_
    refine mr_iload_n C 136 dX1_runBody_135 rfl rfl ?_
    refine mr_iconst C (nI 1) 137 dX1_runBody_136 rfl rfl ?_
    refine mr_iadd C (nI (d + 1)) 138 dX1_runBody_137 rfl (nI_add _ _) ?_
    refine mr_callV C (c_rb10 E a b b2 (lvT (nI 13) s) (lvT_le hs) se sn be so lo he inn al go ro cr gn gu gr c (d + 1) hc (by omega)) [0, 1, 2, 3, 4, 5, 6, 7, 8, 9, 10, 11] 0 1 141 dX1_runBody_138 rfl mk_X1_runBody mi_X1_runBody ml_X1_42 rfl rfl rfl rfl rfl (Nat.le_of_ble_eq_true rfl) (by decide) (by decide) (by decide) rfl rfl (fun r w1 hpost => ?_)
    obtain ⟨rfl, rfl⟩ := hpost
    refine mr_w (wput_all _ _ 12 rfl rfl) ?_
    refine mr_bipush C (nI 100) 143 dX1_runBody_141 rfl rfl ?_
    refine mr_isub C _ 144 dX1_runBody_143 rfl rfl ?_
    refine mr_iret C dX1_runBody_144 rfl rfl (by decide) (by decide) hlen ?_
    rw [hO]
    exact ⟨rfl, rfl⟩
  · rw [nI_leI (by omega) (by omega)] at c_3; exact absurd (by omega) c_3

set_option maxRecDepth 20000 in
set_option maxHeartbeats 4000000 in
theorem c_rb14 (E : EG) (a : Nat → Nat) (b b2 : Nat) (s : TRC) (hs : s.2 ≤ 16) (se sn be so lo he inn al go : FN) (ro cr gn gu gr : Int32) (c d : Nat) (hc : c < 5) (hd : d + 2 ≤ 12) : Ctr E mX1_runBody (4, 0, 0) [.ref (a b), .int (nI 14), .int (nI c), .int (nI d)] (wQ E a b b2 s ++ wH E a b2 se sn be so lo he inn al go ro cr gn gu gr) (fun v w => v = some (.int (nI 2 * (he c - nI 100))) ∧ w = wQ E a b b2 (lvL [nI 14, nI 13, nI 10] s) ++ wH E a b2 se sn be so lo he inn al go ro cr gn gu gr) := by
  refine Ctr.of (by decide) (Nat.le_of_ble_eq_true rfl) ?_
  intro Z hO hn C
  have hlen : zn Z ≤ 12 := by rw [hn]; exact Nat.le_of_ble_eq_true rfl
  refine mr_iload_n C 1 dX1_runBody_0 rfl rfl ?_
  refine mr_bipush C (nI 12) 3 dX1_runBody_1 rfl rfl ?_
  refine mr_icmple C 8 6 dX1_runBody_3 (by decide) rfl (fun c_3 => ?_) (fun c_3 => ?_)
  · refine mr_aload_n C 9 dX1_runBody_8 rfl rfl ?_
    refine mr_iload_n C 10 dX1_runBody_9 rfl rfl ?_
    refine mr_callV C (c_leave E a b b2 s.1 s.2 hs (nI 14)) [0, 1] 0 1 13 dX1_runBody_10 rfl mk_X1_leave mi_X1_leave ml_X1_45 rfl rfl rfl rfl rfl (Nat.le_of_ble_eq_true rfl) (by decide) (by decide) (by decide) rfl rfl (fun r w1 hpost => ?_)
    obtain ⟨rfl, rfl⟩ := hpost
    refine mr_w (ws' := wQ E a b b2 (lvT (nI 14) s) ++ wH E a b2 se sn be so lo he inn al go ro cr gn gu gr) (jn_put [2, 10] [0] [wQ E a b b2 s, wH E a b2 se sn be so lo he inn al go ro cr gn gu gr] [wQ E a b b2 (lvT (nI 14) s)] [wQ E a b b2 (lvT (nI 14) s), wH E a b2 se sn be so lo he inn al go ro cr gn gu gr] rfl (by decide) rfl rfl rfl) ?_
    refine mr_iload_n C 14 dX1_runBody_13 rfl rfl ?_
    refine mr_tabIn C 145 dX1_runBody_14 (by decide) (by decide) rfl (by decide) ?_
    refine mr_iconst C (nI 2) 146 dX1_runBody_145 rfl rfl ?_
    refine mr_aload_n C 147 dX1_runBody_146 rfl rfl ?_
    refine mr_bipush C (nI 13) 149 dX1_runBody_147 rfl rfl ?_
    refine mr_iload_n C 150 dX1_runBody_149 rfl rfl ?_
    refine mr_iload_n C 151 dX1_runBody_150 rfl rfl ?_
    refine mr_iconst C (nI 1) 152 dX1_runBody_151 rfl rfl ?_
    refine mr_iadd C (nI (d + 1)) 153 dX1_runBody_152 rfl (nI_add _ _) ?_
    refine mr_callV C (c_rb13 E a b b2 (lvT (nI 14) s) (lvT_le hs) se sn be so lo he inn al go ro cr gn gu gr c (d + 1) hc (by omega)) [0, 1, 2, 3, 4, 5, 6, 7, 8, 9, 10, 11] 0 1 156 dX1_runBody_153 rfl mk_X1_runBody mi_X1_runBody ml_X1_42 rfl rfl rfl rfl rfl (Nat.le_of_ble_eq_true rfl) (by decide) (by decide) (by decide) rfl rfl (fun r w1 hpost => ?_)
    obtain ⟨rfl, rfl⟩ := hpost
    refine mr_w (wput_all _ _ 12 rfl rfl) ?_
    refine mr_imul C _ 157 dX1_runBody_156 rfl rfl ?_
    refine mr_iret C dX1_runBody_157 rfl rfl (by decide) (by decide) hlen ?_
    rw [hO]
    exact ⟨rfl, rfl⟩
  · rw [nI_leI (by omega) (by omega)] at c_3; exact absurd (by omega) c_3

set_option maxRecDepth 20000 in
set_option maxHeartbeats 4000000 in
theorem c_rb21 (E : EG) (a : Nat → Nat) (b b2 : Nat) (s : TRC) (hs : s.2 ≤ 16) (se sn be so lo he inn al go : FN) (ro cr gn gu gr : Int32) (c d : Nat) (hc : c < 5) (hd : d + 1 ≤ 12) : Ctr E mX1_runBody (3, 0, 0) [.ref (a b), .int (nI 21), .int (nI c), .int (nI d)] (wQ E a b b2 s ++ wH E a b2 se sn be so lo he inn al go ro cr gn gu gr) (fun v w => v = some (.int (nI c + lo c)) ∧ w = wQ E a b b2 (lvL [nI 21, nI 20] s) ++ wH E a b2 se sn be so lo he inn al go ro cr gn gu gr) := by
  refine Ctr.of (by decide) (Nat.le_of_ble_eq_true rfl) ?_
  intro Z hO hn C
  have hlen : zn Z ≤ 12 := by rw [hn]; exact Nat.le_of_ble_eq_true rfl
  refine mr_iload_n C 1 dX1_runBody_0 rfl rfl ?_
  refine mr_bipush C (nI 12) 3 dX1_runBody_1 rfl rfl ?_
  refine mr_icmple C 8 6 dX1_runBody_3 (by decide) rfl (fun c_3 => ?_) (fun c_3 => ?_)
  · refine mr_aload_n C 9 dX1_runBody_8 rfl rfl ?_
    refine mr_iload_n C 10 dX1_runBody_9 rfl rfl ?_
    refine mr_callV C (c_leave E a b b2 s.1 s.2 hs (nI 21)) [0, 1] 0 1 13 dX1_runBody_10 rfl mk_X1_leave mi_X1_leave ml_X1_45 rfl rfl rfl rfl rfl (Nat.le_of_ble_eq_true rfl) (by decide) (by decide) (by decide) rfl rfl (fun r w1 hpost => ?_)
    obtain ⟨rfl, rfl⟩ := hpost
    refine mr_w (ws' := wQ E a b b2 (lvT (nI 21) s) ++ wH E a b2 se sn be so lo he inn al go ro cr gn gu gr) (jn_put [2, 10] [0] [wQ E a b b2 s, wH E a b2 se sn be so lo he inn al go ro cr gn gu gr] [wQ E a b b2 (lvT (nI 21) s)] [wQ E a b b2 (lvT (nI 21) s), wH E a b2 se sn be so lo he inn al go ro cr gn gu gr] rfl (by decide) rfl rfl rfl) ?_
    refine mr_iload_n C 14 dX1_runBody_13 rfl rfl ?_
    refine mr_tabIn C 160 dX1_runBody_14 (by decide) (by decide) rfl (by decide) ?_
    refine mr_aload_n C 161 dX1_runBody_160 rfl rfl ?_
    refine mr_bipush C (nI 20) 163 dX1_runBody_161 rfl rfl ?_
    refine mr_iload_n C 164 dX1_runBody_163 rfl rfl ?_
    refine mr_iload_n C 165 dX1_runBody_164 rfl rfl ?_
    refine mr_iconst C (nI 1) 166 dX1_runBody_165 rfl rfl ?_
    refine mr_iadd C (nI (d + 1)) 167 dX1_runBody_166 rfl (nI_add _ _) ?_
    refine mr_callV C (c_rb20 E a b b2 (lvT (nI 21) s) (lvT_le hs) se sn be so lo he inn al go ro cr gn gu gr c (d + 1) hc (by omega)) [0, 1, 2, 3, 4, 5, 6, 7, 8, 9, 10, 11] 0 1 170 dX1_runBody_167 rfl mk_X1_runBody mi_X1_runBody ml_X1_42 rfl rfl rfl rfl rfl (Nat.le_of_ble_eq_true rfl) (by decide) (by decide) (by decide) rfl rfl (fun r w1 hpost => ?_)
    obtain ⟨rfl, rfl⟩ := hpost
    refine mr_w (wput_all _ _ 12 rfl rfl) ?_
    refine mr_aload_n C 171 dX1_runBody_170 rfl rfl ?_
    refine mr_get C 0 174 dX1_runBody_171 rfl fl_X1_13 rfl rfl ?_
    refine mr_get C 2 177 dX1_runBody_174 rfl fl_X1_52 rfl rfl ?_
    refine mr_iload_n C 178 dX1_runBody_177 rfl rfl ?_
    refine mr_iald C 7 c 179 dX1_runBody_178 rfl rfl rfl (by omega) (by decide) ?_
    refine mr_iadd C _ 180 dX1_runBody_179 rfl rfl ?_
    refine mr_iret C dX1_runBody_180 rfl rfl (by decide) (by decide) hlen ?_
    rw [hO]
    exact ⟨rfl, rfl⟩
  · rw [nI_leI (by omega) (by omega)] at c_3; exact absurd (by omega) c_3

set_option maxRecDepth 20000 in
set_option maxHeartbeats 4000000 in
theorem c_rb22 (E : EG) (a : Nat → Nat) (b b2 : Nat) (s : TRC) (hs : s.2 ≤ 16) (se sn be so lo he inn al go : FN) (ro cr gn gu gr : Int32) (c d : Nat) (hc : c < 5) (hd : d + 2 ≤ 12) : Ctr E mX1_runBody (4, 0, 0) [.ref (a b), .int (nI 22), .int (nI c), .int (nI d)] (wQ E a b b2 s ++ wH E a b2 se sn be so lo he inn al go ro cr gn gu gr) (fun v w => v = some (.int (nI c + lo c - nI 1000)) ∧ w = wQ E a b b2 (lvL [nI 22, nI 21, nI 20] s) ++ wH E a b2 se sn be so lo he inn al go ro cr gn gu gr) := by
  refine Ctr.of (by decide) (Nat.le_of_ble_eq_true rfl) ?_
  intro Z hO hn C
  have hlen : zn Z ≤ 12 := by rw [hn]; exact Nat.le_of_ble_eq_true rfl
  refine mr_iload_n C 1 dX1_runBody_0 rfl rfl ?_
  refine mr_bipush C (nI 12) 3 dX1_runBody_1 rfl rfl ?_
  refine mr_icmple C 8 6 dX1_runBody_3 (by decide) rfl (fun c_3 => ?_) (fun c_3 => ?_)
  · refine mr_aload_n C 9 dX1_runBody_8 rfl rfl ?_
    refine mr_iload_n C 10 dX1_runBody_9 rfl rfl ?_
    refine mr_callV C (c_leave E a b b2 s.1 s.2 hs (nI 22)) [0, 1] 0 1 13 dX1_runBody_10 rfl mk_X1_leave mi_X1_leave ml_X1_45 rfl rfl rfl rfl rfl (Nat.le_of_ble_eq_true rfl) (by decide) (by decide) (by decide) rfl rfl (fun r w1 hpost => ?_)
    obtain ⟨rfl, rfl⟩ := hpost
    refine mr_w (ws' := wQ E a b b2 (lvT (nI 22) s) ++ wH E a b2 se sn be so lo he inn al go ro cr gn gu gr) (jn_put [2, 10] [0] [wQ E a b b2 s, wH E a b2 se sn be so lo he inn al go ro cr gn gu gr] [wQ E a b b2 (lvT (nI 22) s)] [wQ E a b b2 (lvT (nI 22) s), wH E a b2 se sn be so lo he inn al go ro cr gn gu gr] rfl (by decide) rfl rfl rfl) ?_
    refine mr_iload_n C 14 dX1_runBody_13 rfl rfl ?_
    refine mr_tabIn C 181 dX1_runBody_14 (by decide) (by decide) rfl (by decide) ?_
    refine mr_aload_n C 182 dX1_runBody_181 rfl rfl ?_
    refine mr_bipush C (nI 21) 184 dX1_runBody_182 rfl rfl ?_
    refine mr_iload_n C 185 dX1_runBody_184 rfl rfl ?_
    refine mr_iload_n C 186 dX1_runBody_185 rfl rfl ?_
    refine mr_iconst C (nI 1) 187 dX1_runBody_186 rfl rfl ?_
    refine mr_iadd C (nI (d + 1)) 188 dX1_runBody_187 rfl (nI_add _ _) ?_
    refine mr_callV C (c_rb21 E a b b2 (lvT (nI 22) s) (lvT_le hs) se sn be so lo he inn al go ro cr gn gu gr c (d + 1) hc (by omega)) [0, 1, 2, 3, 4, 5, 6, 7, 8, 9, 10, 11] 0 1 191 dX1_runBody_188 rfl mk_X1_runBody mi_X1_runBody ml_X1_42 rfl rfl rfl rfl rfl (Nat.le_of_ble_eq_true rfl) (by decide) (by decide) (by decide) rfl rfl (fun r w1 hpost => ?_)
    obtain ⟨rfl, rfl⟩ := hpost
    refine mr_w (wput_all _ _ 12 rfl rfl) ?_
    refine mr_sipush C (nI 1000) 194 dX1_runBody_191 rfl rfl ?_
    refine mr_isub C _ 195 dX1_runBody_194 rfl rfl ?_
    refine mr_iret C dX1_runBody_195 rfl rfl (by decide) (by decide) hlen ?_
    rw [hO]
    exact ⟨rfl, rfl⟩
  · rw [nI_leI (by omega) (by omega)] at c_3; exact absurd (by omega) c_3

set_option maxRecDepth 20000 in
set_option maxHeartbeats 4000000 in
theorem c_rb24 (E : EG) (a : Nat → Nat) (b b2 : Nat) (s : TRC) (hs : s.2 ≤ 16) (se sn be so lo he inn al go : FN) (ro cr gn gu gr : Int32) (c d : Nat) (hc : c < 5) (hd : d + 2 ≤ 12) : Ctr E mX1_runBody (4, 0, 0) [.ref (a b), .int (nI 24), .int (nI c), .int (nI d)] (wQ E a b b2 s ++ wH E a b2 se sn be so lo he inn al go ro cr gn gu gr) (fun v w => v = some (.int (nI 2 * (nI c + lo c))) ∧ w = wQ E a b b2 (lvL [nI 24, nI 21, nI 20] s) ++ wH E a b2 se sn be so lo he inn al go ro cr gn gu gr) := by
  refine Ctr.of (by decide) (Nat.le_of_ble_eq_true rfl) ?_
  intro Z hO hn C
  have hlen : zn Z ≤ 12 := by rw [hn]; exact Nat.le_of_ble_eq_true rfl
  refine mr_iload_n C 1 dX1_runBody_0 rfl rfl ?_
  refine mr_bipush C (nI 12) 3 dX1_runBody_1 rfl rfl ?_
  refine mr_icmple C 8 6 dX1_runBody_3 (by decide) rfl (fun c_3 => ?_) (fun c_3 => ?_)
  · refine mr_aload_n C 9 dX1_runBody_8 rfl rfl ?_
    refine mr_iload_n C 10 dX1_runBody_9 rfl rfl ?_
    refine mr_callV C (c_leave E a b b2 s.1 s.2 hs (nI 24)) [0, 1] 0 1 13 dX1_runBody_10 rfl mk_X1_leave mi_X1_leave ml_X1_45 rfl rfl rfl rfl rfl (Nat.le_of_ble_eq_true rfl) (by decide) (by decide) (by decide) rfl rfl (fun r w1 hpost => ?_)
    obtain ⟨rfl, rfl⟩ := hpost
    refine mr_w (ws' := wQ E a b b2 (lvT (nI 24) s) ++ wH E a b2 se sn be so lo he inn al go ro cr gn gu gr) (jn_put [2, 10] [0] [wQ E a b b2 s, wH E a b2 se sn be so lo he inn al go ro cr gn gu gr] [wQ E a b b2 (lvT (nI 24) s)] [wQ E a b b2 (lvT (nI 24) s), wH E a b2 se sn be so lo he inn al go ro cr gn gu gr] rfl (by decide) rfl rfl rfl) ?_
    refine mr_iload_n C 14 dX1_runBody_13 rfl rfl ?_
    refine mr_tabIn C 217 dX1_runBody_14 (by decide) (by decide) rfl (by decide) ?_
    refine mr_iconst C (nI 2) 218 dX1_runBody_217 rfl rfl ?_
    refine mr_aload_n C 219 dX1_runBody_218 rfl rfl ?_
    refine mr_bipush C (nI 21) 221 dX1_runBody_219 rfl rfl ?_
    refine mr_iload_n C 222 dX1_runBody_221 rfl rfl ?_
    refine mr_iload_n C 223 dX1_runBody_222 rfl rfl ?_
    refine mr_iconst C (nI 1) 224 dX1_runBody_223 rfl rfl ?_
    refine mr_iadd C (nI (d + 1)) 225 dX1_runBody_224 rfl (nI_add _ _) ?_
    refine mr_callV C (c_rb21 E a b b2 (lvT (nI 24) s) (lvT_le hs) se sn be so lo he inn al go ro cr gn gu gr c (d + 1) hc (by omega)) [0, 1, 2, 3, 4, 5, 6, 7, 8, 9, 10, 11] 0 1 228 dX1_runBody_225 rfl mk_X1_runBody mi_X1_runBody ml_X1_42 rfl rfl rfl rfl rfl (Nat.le_of_ble_eq_true rfl) (by decide) (by decide) (by decide) rfl rfl (fun r w1 hpost => ?_)
    obtain ⟨rfl, rfl⟩ := hpost
    refine mr_w (wput_all _ _ 12 rfl rfl) ?_
    refine mr_imul C _ 229 dX1_runBody_228 rfl rfl ?_
    refine mr_iret C dX1_runBody_229 rfl rfl (by decide) (by decide) hlen ?_
    rw [hO]
    exact ⟨rfl, rfl⟩
  · rw [nI_leI (by omega) (by omega)] at c_3; exact absurd (by omega) c_3

set_option maxRecDepth 20000 in
set_option maxHeartbeats 4000000 in
theorem c_ans1_1 (E : EG) (a : Nat → Nat) (b b2 : Nat) (s : TRC) (hs : s.2 ≤ 16) (se sn be so lo he inn al go : FN) (ro cr gn gu gr : Int32) (c d : Nat) (hc : c < 5) (hd : d + 2 ≤ 12) (hk : so c = nI 1) : Ctr E mX1_answer (4, 0, 0) [.ref (a b), .int (nI c), .int (nI 1), .int (nI d)] (wQ E a b b2 s ++ wH E a b2 se sn be so lo he inn al go ro cr gn gu gr) (fun v w => v = some (.int (nI c + lo c)) ∧ w = wQ E a b b2 (lvL [nI 21, nI 20] s) ++ wH E a b2 se sn be so lo he inn al go ro cr gn gu gr) := by
  refine Ctr.of (by decide) (Nat.le_of_ble_eq_true rfl) ?_
  intro Z hO hn C
  have hlen : zn Z ≤ 12 := by rw [hn]; exact Nat.le_of_ble_eq_true rfl
  refine mr_iload_n C 1 dX1_answer_0 rfl rfl ?_
  refine mr_bipush C (nI 12) 3 dX1_answer_1 rfl rfl ?_
  refine mr_icmple C 8 6 dX1_answer_3 (by decide) rfl (fun c_3 => ?_) (fun c_3 => ?_)
  · refine mr_aload_n C 9 dX1_answer_8 rfl rfl ?_
    refine mr_get C 0 12 dX1_answer_9 rfl fl_X1_13 rfl rfl ?_
    refine mr_get C 2 15 dX1_answer_12 rfl fl_X1_25 rfl rfl ?_
    refine mr_iload_n C 16 dX1_answer_15 rfl rfl ?_
    refine mr_iald C 6 c 17 dX1_answer_16 rfl rfl rfl (by omega) (by decide) ?_
    rw [hk]
    refine mr_iload_n C 18 dX1_answer_17 rfl rfl ?_
    refine mr_ifne C 27 21 dX1_answer_18 (by decide) rfl (fun _ => ?_) (fun c_ => absurd c_ (by decide))
    refine mr_getsN C 2 (by decide) 30 dX1_answer_27 rfl fn_X1_35 ?_
    refine mr_callS C (c_near2_1 E) [] 33 dX1_answer_30 rfl mk_X1_nearestBody ms_X1_nearestBody ml_X1_38 rfl rfl rfl rfl (Nat.le_of_ble_eq_true rfl) (by decide) (by decide) (by decide) (fun r w1 hpost => ?_)
    obtain ⟨rfl, rfl⟩ := hpost
    refine mr_w (ws' := wQ E a b b2 s ++ wH E a b2 se sn be so lo he inn al go ro cr gn gu gr) rfl ?_
    refine mr_istore C 35 dX1_answer_33 rfl (by decide) ?_
    refine mr_aload_n C 36 dX1_answer_35 rfl rfl ?_
    refine mr_iload C 38 dX1_answer_36 rfl rfl ?_
    refine mr_iload_n C 39 dX1_answer_38 rfl rfl ?_
    refine mr_iload_n C 40 dX1_answer_39 rfl rfl ?_
    refine mr_iconst C (nI 1) 41 dX1_answer_40 rfl rfl ?_
    refine mr_iadd C (nI (d + 1)) 42 dX1_answer_41 rfl (nI_add _ _) ?_
    refine mr_callV C (c_rb21 E a b b2 s hs se sn be so lo he inn al go ro cr gn gu gr c (d + 1) hc (by omega)) [0, 1, 2, 3, 4, 5, 6, 7, 8, 9, 10, 11] 0 1 45 dX1_answer_42 rfl mk_X1_runBody mi_X1_runBody ml_X1_42 rfl rfl rfl rfl rfl (Nat.le_of_ble_eq_true rfl) (by decide) (by decide) (by decide) rfl rfl (fun r w1 hpost => ?_)
    obtain ⟨rfl, rfl⟩ := hpost
    refine mr_w (wput_all _ _ 12 rfl rfl) ?_
    refine mr_iret C dX1_answer_45 rfl rfl (by decide) (by decide) hlen ?_
    rw [hO]
    exact ⟨rfl, rfl⟩
  · rw [nI_leI (by omega) (by omega)] at c_3; exact absurd (by omega) c_3

set_option maxRecDepth 20000 in
set_option maxHeartbeats 4000000 in
theorem c_ans1_2 (E : EG) (a : Nat → Nat) (b b2 : Nat) (s : TRC) (hs : s.2 ≤ 16) (se sn be so lo he inn al go : FN) (ro cr gn gu gr : Int32) (c d : Nat) (hc : c < 5) (hd : d + 3 ≤ 12) (hk : so c = nI 2) : Ctr E mX1_answer (5, 0, 0) [.ref (a b), .int (nI c), .int (nI 1), .int (nI d)] (wQ E a b b2 s ++ wH E a b2 se sn be so lo he inn al go ro cr gn gu gr) (fun v w => v = some (.int (nI 2 * (nI c + lo c))) ∧ w = wQ E a b b2 (lvL [nI 24, nI 21, nI 20] s) ++ wH E a b2 se sn be so lo he inn al go ro cr gn gu gr) := by
  refine Ctr.of (by decide) (Nat.le_of_ble_eq_true rfl) ?_
  intro Z hO hn C
  have hlen : zn Z ≤ 12 := by rw [hn]; exact Nat.le_of_ble_eq_true rfl
  refine mr_iload_n C 1 dX1_answer_0 rfl rfl ?_
  refine mr_bipush C (nI 12) 3 dX1_answer_1 rfl rfl ?_
  refine mr_icmple C 8 6 dX1_answer_3 (by decide) rfl (fun c_3 => ?_) (fun c_3 => ?_)
  · refine mr_aload_n C 9 dX1_answer_8 rfl rfl ?_
    refine mr_get C 0 12 dX1_answer_9 rfl fl_X1_13 rfl rfl ?_
    refine mr_get C 2 15 dX1_answer_12 rfl fl_X1_25 rfl rfl ?_
    refine mr_iload_n C 16 dX1_answer_15 rfl rfl ?_
    refine mr_iald C 6 c 17 dX1_answer_16 rfl rfl rfl (by omega) (by decide) ?_
    rw [hk]
    refine mr_iload_n C 18 dX1_answer_17 rfl rfl ?_
    refine mr_ifne C 27 21 dX1_answer_18 (by decide) rfl (fun _ => ?_) (fun c_ => absurd c_ (by decide))
    refine mr_getsN C 2 (by decide) 30 dX1_answer_27 rfl fn_X1_35 ?_
    refine mr_callS C (c_near2_2 E) [] 33 dX1_answer_30 rfl mk_X1_nearestBody ms_X1_nearestBody ml_X1_38 rfl rfl rfl rfl (Nat.le_of_ble_eq_true rfl) (by decide) (by decide) (by decide) (fun r w1 hpost => ?_)
    obtain ⟨rfl, rfl⟩ := hpost
    refine mr_w (ws' := wQ E a b b2 s ++ wH E a b2 se sn be so lo he inn al go ro cr gn gu gr) rfl ?_
    refine mr_istore C 35 dX1_answer_33 rfl (by decide) ?_
    refine mr_aload_n C 36 dX1_answer_35 rfl rfl ?_
    refine mr_iload C 38 dX1_answer_36 rfl rfl ?_
    refine mr_iload_n C 39 dX1_answer_38 rfl rfl ?_
    refine mr_iload_n C 40 dX1_answer_39 rfl rfl ?_
    refine mr_iconst C (nI 1) 41 dX1_answer_40 rfl rfl ?_
    refine mr_iadd C (nI (d + 1)) 42 dX1_answer_41 rfl (nI_add _ _) ?_
    refine mr_callV C (c_rb24 E a b b2 s hs se sn be so lo he inn al go ro cr gn gu gr c (d + 1) hc (by omega)) [0, 1, 2, 3, 4, 5, 6, 7, 8, 9, 10, 11] 0 1 45 dX1_answer_42 rfl mk_X1_runBody mi_X1_runBody ml_X1_42 rfl rfl rfl rfl rfl (Nat.le_of_ble_eq_true rfl) (by decide) (by decide) (by decide) rfl rfl (fun r w1 hpost => ?_)
    obtain ⟨rfl, rfl⟩ := hpost
    refine mr_w (wput_all _ _ 12 rfl rfl) ?_
    refine mr_iret C dX1_answer_45 rfl rfl (by decide) (by decide) hlen ?_
    rw [hO]
    exact ⟨rfl, rfl⟩
  · rw [nI_leI (by omega) (by omega)] at c_3; exact absurd (by omega) c_3

set_option maxRecDepth 20000 in
set_option maxHeartbeats 4000000 in
theorem c_ans1_3 (E : EG) (a : Nat → Nat) (b b2 : Nat) (s : TRC) (hs : s.2 ≤ 16) (se sn be so lo he inn al go : FN) (ro cr gn gu gr : Int32) (c d : Nat) (hc : c < 5) (hd : d + 3 ≤ 12) (hk : so c = nI 3) : Ctr E mX1_answer (5, 0, 0) [.ref (a b), .int (nI c), .int (nI 1), .int (nI d)] (wQ E a b b2 s ++ wH E a b2 se sn be so lo he inn al go ro cr gn gu gr) (fun v w => v = some (.int (nI c + lo c - nI 1000)) ∧ w = wQ E a b b2 (lvL [nI 22, nI 21, nI 20] s) ++ wH E a b2 se sn be so lo he inn al go ro cr gn gu gr) := by
  refine Ctr.of (by decide) (Nat.le_of_ble_eq_true rfl) ?_
  intro Z hO hn C
  have hlen : zn Z ≤ 12 := by rw [hn]; exact Nat.le_of_ble_eq_true rfl
  refine mr_iload_n C 1 dX1_answer_0 rfl rfl ?_
  refine mr_bipush C (nI 12) 3 dX1_answer_1 rfl rfl ?_
  refine mr_icmple C 8 6 dX1_answer_3 (by decide) rfl (fun c_3 => ?_) (fun c_3 => ?_)
  · refine mr_aload_n C 9 dX1_answer_8 rfl rfl ?_
    refine mr_get C 0 12 dX1_answer_9 rfl fl_X1_13 rfl rfl ?_
    refine mr_get C 2 15 dX1_answer_12 rfl fl_X1_25 rfl rfl ?_
    refine mr_iload_n C 16 dX1_answer_15 rfl rfl ?_
    refine mr_iald C 6 c 17 dX1_answer_16 rfl rfl rfl (by omega) (by decide) ?_
    rw [hk]
    refine mr_iload_n C 18 dX1_answer_17 rfl rfl ?_
    refine mr_ifne C 27 21 dX1_answer_18 (by decide) rfl (fun _ => ?_) (fun c_ => absurd c_ (by decide))
    refine mr_getsN C 2 (by decide) 30 dX1_answer_27 rfl fn_X1_35 ?_
    refine mr_callS C (c_near2_3 E) [] 33 dX1_answer_30 rfl mk_X1_nearestBody ms_X1_nearestBody ml_X1_38 rfl rfl rfl rfl (Nat.le_of_ble_eq_true rfl) (by decide) (by decide) (by decide) (fun r w1 hpost => ?_)
    obtain ⟨rfl, rfl⟩ := hpost
    refine mr_w (ws' := wQ E a b b2 s ++ wH E a b2 se sn be so lo he inn al go ro cr gn gu gr) rfl ?_
    refine mr_istore C 35 dX1_answer_33 rfl (by decide) ?_
    refine mr_aload_n C 36 dX1_answer_35 rfl rfl ?_
    refine mr_iload C 38 dX1_answer_36 rfl rfl ?_
    refine mr_iload_n C 39 dX1_answer_38 rfl rfl ?_
    refine mr_iload_n C 40 dX1_answer_39 rfl rfl ?_
    refine mr_iconst C (nI 1) 41 dX1_answer_40 rfl rfl ?_
    refine mr_iadd C (nI (d + 1)) 42 dX1_answer_41 rfl (nI_add _ _) ?_
    refine mr_callV C (c_rb22 E a b b2 s hs se sn be so lo he inn al go ro cr gn gu gr c (d + 1) hc (by omega)) [0, 1, 2, 3, 4, 5, 6, 7, 8, 9, 10, 11] 0 1 45 dX1_answer_42 rfl mk_X1_runBody mi_X1_runBody ml_X1_42 rfl rfl rfl rfl rfl (Nat.le_of_ble_eq_true rfl) (by decide) (by decide) (by decide) rfl rfl (fun r w1 hpost => ?_)
    obtain ⟨rfl, rfl⟩ := hpost
    refine mr_w (wput_all _ _ 12 rfl rfl) ?_
    refine mr_iret C dX1_answer_45 rfl rfl (by decide) (by decide) hlen ?_
    rw [hO]
    exact ⟨rfl, rfl⟩
  · rw [nI_leI (by omega) (by omega)] at c_3; exact absurd (by omega) c_3

set_option maxRecDepth 20000 in
set_option maxHeartbeats 4000000 in
theorem c_ans0_4 (E : EG) (a : Nat → Nat) (b b2 : Nat) (s : TRC) (hs : s.2 ≤ 16) (se sn be so lo he inn al go : FN) (ro cr gn gu gr : Int32) (c d : Nat) (hc : c < 5) (hd : d + 2 ≤ 12) (hk : so c = nI 4) : Ctr E mX1_answer (4, 0, 0) [.ref (a b), .int (nI c), .int (nI 0), .int (nI d)] (wQ E a b b2 s ++ wH E a b2 se sn be so lo he inn al go ro cr gn gu gr) (fun v w => v = some (.int (he c - nI 100)) ∧ w = wQ E a b b2 (lvL [nI 13, nI 10] s) ++ wH E a b2 se sn be so lo he inn al go ro cr gn gu gr) := by
  refine Ctr.of (by decide) (Nat.le_of_ble_eq_true rfl) ?_
  intro Z hO hn C
  have hlen : zn Z ≤ 12 := by rw [hn]; exact Nat.le_of_ble_eq_true rfl
  refine mr_iload_n C 1 dX1_answer_0 rfl rfl ?_
  refine mr_bipush C (nI 12) 3 dX1_answer_1 rfl rfl ?_
  refine mr_icmple C 8 6 dX1_answer_3 (by decide) rfl (fun c_3 => ?_) (fun c_3 => ?_)
  · refine mr_aload_n C 9 dX1_answer_8 rfl rfl ?_
    refine mr_get C 0 12 dX1_answer_9 rfl fl_X1_13 rfl rfl ?_
    refine mr_get C 2 15 dX1_answer_12 rfl fl_X1_25 rfl rfl ?_
    refine mr_iload_n C 16 dX1_answer_15 rfl rfl ?_
    refine mr_iald C 6 c 17 dX1_answer_16 rfl rfl rfl (by omega) (by decide) ?_
    rw [hk]
    refine mr_iload_n C 18 dX1_answer_17 rfl rfl ?_
    refine mr_ifne C 27 21 dX1_answer_18 (by decide) rfl (fun c_ => absurd (by decide) c_) (fun _ => ?_)
    refine mr_getsN C 1 (by decide) 24 dX1_answer_21 rfl fn_X1_30 ?_
    refine mr_goto C 30 dX1_answer_24 (by decide) ?_
    refine mr_callS C (c_near1_4 E) [] 33 dX1_answer_30 rfl mk_X1_nearestBody ms_X1_nearestBody ml_X1_38 rfl rfl rfl rfl (Nat.le_of_ble_eq_true rfl) (by decide) (by decide) (by decide) (fun r w1 hpost => ?_)
    obtain ⟨rfl, rfl⟩ := hpost
    refine mr_w (ws' := wQ E a b b2 s ++ wH E a b2 se sn be so lo he inn al go ro cr gn gu gr) rfl ?_
    refine mr_istore C 35 dX1_answer_33 rfl (by decide) ?_
    refine mr_aload_n C 36 dX1_answer_35 rfl rfl ?_
    refine mr_iload C 38 dX1_answer_36 rfl rfl ?_
    refine mr_iload_n C 39 dX1_answer_38 rfl rfl ?_
    refine mr_iload_n C 40 dX1_answer_39 rfl rfl ?_
    refine mr_iconst C (nI 1) 41 dX1_answer_40 rfl rfl ?_
    refine mr_iadd C (nI (d + 1)) 42 dX1_answer_41 rfl (nI_add _ _) ?_
    refine mr_callV C (c_rb13 E a b b2 s hs se sn be so lo he inn al go ro cr gn gu gr c (d + 1) hc (by omega)) [0, 1, 2, 3, 4, 5, 6, 7, 8, 9, 10, 11] 0 1 45 dX1_answer_42 rfl mk_X1_runBody mi_X1_runBody ml_X1_42 rfl rfl rfl rfl rfl (Nat.le_of_ble_eq_true rfl) (by decide) (by decide) (by decide) rfl rfl (fun r w1 hpost => ?_)
    obtain ⟨rfl, rfl⟩ := hpost
    refine mr_w (wput_all _ _ 12 rfl rfl) ?_
    refine mr_iret C dX1_answer_45 rfl rfl (by decide) (by decide) hlen ?_
    rw [hO]
    exact ⟨rfl, rfl⟩
  · rw [nI_leI (by omega) (by omega)] at c_3; exact absurd (by omega) c_3

set_option maxRecDepth 20000 in
set_option maxHeartbeats 4000000 in
theorem c_ans0_5 (E : EG) (a : Nat → Nat) (b b2 : Nat) (s : TRC) (hs : s.2 ≤ 16) (se sn be so lo he inn al go : FN) (ro cr gn gu gr : Int32) (c d : Nat) (hc : c < 5) (hd : d + 3 ≤ 12) (hk : so c = nI 5) : Ctr E mX1_answer (5, 0, 0) [.ref (a b), .int (nI c), .int (nI 0), .int (nI d)] (wQ E a b b2 s ++ wH E a b2 se sn be so lo he inn al go ro cr gn gu gr) (fun v w => v = some (.int (nI 2 * (he c - nI 100))) ∧ w = wQ E a b b2 (lvL [nI 14, nI 13, nI 10] s) ++ wH E a b2 se sn be so lo he inn al go ro cr gn gu gr) := by
  refine Ctr.of (by decide) (Nat.le_of_ble_eq_true rfl) ?_
  intro Z hO hn C
  have hlen : zn Z ≤ 12 := by rw [hn]; exact Nat.le_of_ble_eq_true rfl
  refine mr_iload_n C 1 dX1_answer_0 rfl rfl ?_
  refine mr_bipush C (nI 12) 3 dX1_answer_1 rfl rfl ?_
  refine mr_icmple C 8 6 dX1_answer_3 (by decide) rfl (fun c_3 => ?_) (fun c_3 => ?_)
  · refine mr_aload_n C 9 dX1_answer_8 rfl rfl ?_
    refine mr_get C 0 12 dX1_answer_9 rfl fl_X1_13 rfl rfl ?_
    refine mr_get C 2 15 dX1_answer_12 rfl fl_X1_25 rfl rfl ?_
    refine mr_iload_n C 16 dX1_answer_15 rfl rfl ?_
    refine mr_iald C 6 c 17 dX1_answer_16 rfl rfl rfl (by omega) (by decide) ?_
    rw [hk]
    refine mr_iload_n C 18 dX1_answer_17 rfl rfl ?_
    refine mr_ifne C 27 21 dX1_answer_18 (by decide) rfl (fun c_ => absurd (by decide) c_) (fun _ => ?_)
    refine mr_getsN C 1 (by decide) 24 dX1_answer_21 rfl fn_X1_30 ?_
    refine mr_goto C 30 dX1_answer_24 (by decide) ?_
    refine mr_callS C (c_near1_5 E) [] 33 dX1_answer_30 rfl mk_X1_nearestBody ms_X1_nearestBody ml_X1_38 rfl rfl rfl rfl (Nat.le_of_ble_eq_true rfl) (by decide) (by decide) (by decide) (fun r w1 hpost => ?_)
    obtain ⟨rfl, rfl⟩ := hpost
    refine mr_w (ws' := wQ E a b b2 s ++ wH E a b2 se sn be so lo he inn al go ro cr gn gu gr) rfl ?_
    refine mr_istore C 35 dX1_answer_33 rfl (by decide) ?_
    refine mr_aload_n C 36 dX1_answer_35 rfl rfl ?_
    refine mr_iload C 38 dX1_answer_36 rfl rfl ?_
    refine mr_iload_n C 39 dX1_answer_38 rfl rfl ?_
    refine mr_iload_n C 40 dX1_answer_39 rfl rfl ?_
    refine mr_iconst C (nI 1) 41 dX1_answer_40 rfl rfl ?_
    refine mr_iadd C (nI (d + 1)) 42 dX1_answer_41 rfl (nI_add _ _) ?_
    refine mr_callV C (c_rb14 E a b b2 s hs se sn be so lo he inn al go ro cr gn gu gr c (d + 1) hc (by omega)) [0, 1, 2, 3, 4, 5, 6, 7, 8, 9, 10, 11] 0 1 45 dX1_answer_42 rfl mk_X1_runBody mi_X1_runBody ml_X1_42 rfl rfl rfl rfl rfl (Nat.le_of_ble_eq_true rfl) (by decide) (by decide) (by decide) rfl rfl (fun r w1 hpost => ?_)
    obtain ⟨rfl, rfl⟩ := hpost
    refine mr_w (wput_all _ _ 12 rfl rfl) ?_
    refine mr_iret C dX1_answer_45 rfl rfl (by decide) (by decide) hlen ?_
    rw [hO]
    exact ⟨rfl, rfl⟩
  · rw [nI_leI (by omega) (by omega)] at c_3; exact absurd (by omega) c_3

set_option maxRecDepth 20000 in
set_option maxHeartbeats 4000000 in
theorem c_rb23_4 (E : EG) (a : Nat → Nat) (b b2 : Nat) (s : TRC) (hs : s.2 ≤ 16) (se sn be so lo he inn al go : FN) (ro cr gn gu gr : Int32) (c d : Nat) (hc : c < 5) (hd : d + 3 ≤ 12) (hk : so c = nI 4) : Ctr E mX1_runBody (5, 0, 0) [.ref (a b), .int (nI 23), .int (nI c), .int (nI d)] (wQ E a b b2 s ++ wH E a b2 se sn be so lo he inn al go ro cr gn gu gr) (fun v w => v = some (.int (nI c - (he c - nI 100))) ∧ w = wQ E a b b2 (lvL [nI 23, nI 20, nI 13, nI 10] s) ++ wH E a b2 se sn be so lo he inn al go ro cr gn gu gr) := by
  refine Ctr.of (by decide) (Nat.le_of_ble_eq_true rfl) ?_
  intro Z hO hn C
  have hlen : zn Z ≤ 12 := by rw [hn]; exact Nat.le_of_ble_eq_true rfl
  refine mr_iload_n C 1 dX1_runBody_0 rfl rfl ?_
  refine mr_bipush C (nI 12) 3 dX1_runBody_1 rfl rfl ?_
  refine mr_icmple C 8 6 dX1_runBody_3 (by decide) rfl (fun c_3 => ?_) (fun c_3 => ?_)
  · refine mr_aload_n C 9 dX1_runBody_8 rfl rfl ?_
    refine mr_iload_n C 10 dX1_runBody_9 rfl rfl ?_
    refine mr_callV C (c_leave E a b b2 s.1 s.2 hs (nI 23)) [0, 1] 0 1 13 dX1_runBody_10 rfl mk_X1_leave mi_X1_leave ml_X1_45 rfl rfl rfl rfl rfl (Nat.le_of_ble_eq_true rfl) (by decide) (by decide) (by decide) rfl rfl (fun r w1 hpost => ?_)
    obtain ⟨rfl, rfl⟩ := hpost
    refine mr_w (ws' := wQ E a b b2 (lvT (nI 23) s) ++ wH E a b2 se sn be so lo he inn al go ro cr gn gu gr) (jn_put [2, 10] [0] [wQ E a b b2 s, wH E a b2 se sn be so lo he inn al go ro cr gn gu gr] [wQ E a b b2 (lvT (nI 23) s)] [wQ E a b b2 (lvT (nI 23) s), wH E a b2 se sn be so lo he inn al go ro cr gn gu gr] rfl (by decide) rfl rfl rfl) ?_
    refine mr_iload_n C 14 dX1_runBody_13 rfl rfl ?_
    refine mr_tabIn C 196 dX1_runBody_14 (by decide) (by decide) rfl (by decide) ?_
    refine mr_aload_n C 197 dX1_runBody_196 rfl rfl ?_
    refine mr_bipush C (nI 20) 199 dX1_runBody_197 rfl rfl ?_
    refine mr_iload_n C 200 dX1_runBody_199 rfl rfl ?_
    refine mr_iload_n C 201 dX1_runBody_200 rfl rfl ?_
    refine mr_iconst C (nI 1) 202 dX1_runBody_201 rfl rfl ?_
    refine mr_iadd C (nI (d + 1)) 203 dX1_runBody_202 rfl (nI_add _ _) ?_
    refine mr_callV C (c_rb20 E a b b2 (lvT (nI 23) s) (lvT_le hs) se sn be so lo he inn al go ro cr gn gu gr c (d + 1) hc (by omega)) [0, 1, 2, 3, 4, 5, 6, 7, 8, 9, 10, 11] 0 1 206 dX1_runBody_203 rfl mk_X1_runBody mi_X1_runBody ml_X1_42 rfl rfl rfl rfl rfl (Nat.le_of_ble_eq_true rfl) (by decide) (by decide) (by decide) rfl rfl (fun r w1 hpost => ?_)
    obtain ⟨rfl, rfl⟩ := hpost
    refine mr_w (wput_all _ _ 12 rfl rfl) ?_
    refine mr_aload_n C 207 dX1_runBody_206 rfl rfl ?_
    refine mr_iload_n C 208 dX1_runBody_207 rfl rfl ?_
    refine mr_iconst C (nI 0) 209 dX1_runBody_208 rfl rfl ?_
    refine mr_iload_n C 210 dX1_runBody_209 rfl rfl ?_
    refine mr_iconst C (nI 1) 211 dX1_runBody_210 rfl rfl ?_
    refine mr_iadd C (nI (d + 1)) 212 dX1_runBody_211 rfl (nI_add _ _) ?_
    refine mr_callV C (c_ans0_4 E a b b2 (lvL [nI 20] (lvT (nI 23) s)) (lvL_le _ (lvT_le hs)) se sn be so lo he inn al go ro cr gn gu gr c (d + 1) hc (by omega) hk) [0, 1, 2, 3, 4, 5, 6, 7, 8, 9, 10, 11] 0 1 215 dX1_runBody_212 rfl mk_X1_answer mi_X1_answer ml_X1_21 rfl rfl rfl rfl rfl (Nat.le_of_ble_eq_true rfl) (by decide) (by decide) (by decide) rfl rfl (fun r w1 hpost => ?_)
    obtain ⟨rfl, rfl⟩ := hpost
    refine mr_w (wput_all _ _ 12 rfl rfl) ?_
    refine mr_isub C _ 216 dX1_runBody_215 rfl rfl ?_
    refine mr_iret C dX1_runBody_216 rfl rfl (by decide) (by decide) hlen ?_
    rw [hO]
    exact ⟨rfl, rfl⟩
  · rw [nI_leI (by omega) (by omega)] at c_3; exact absurd (by omega) c_3

set_option maxRecDepth 20000 in
set_option maxHeartbeats 4000000 in
theorem c_rb23_5 (E : EG) (a : Nat → Nat) (b b2 : Nat) (s : TRC) (hs : s.2 ≤ 16) (se sn be so lo he inn al go : FN) (ro cr gn gu gr : Int32) (c d : Nat) (hc : c < 5) (hd : d + 4 ≤ 12) (hk : so c = nI 5) : Ctr E mX1_runBody (6, 0, 0) [.ref (a b), .int (nI 23), .int (nI c), .int (nI d)] (wQ E a b b2 s ++ wH E a b2 se sn be so lo he inn al go ro cr gn gu gr) (fun v w => v = some (.int (nI c - (nI 2 * (he c - nI 100)))) ∧ w = wQ E a b b2 (lvL [nI 23, nI 20, nI 14, nI 13, nI 10] s) ++ wH E a b2 se sn be so lo he inn al go ro cr gn gu gr) := by
  refine Ctr.of (by decide) (Nat.le_of_ble_eq_true rfl) ?_
  intro Z hO hn C
  have hlen : zn Z ≤ 12 := by rw [hn]; exact Nat.le_of_ble_eq_true rfl
  refine mr_iload_n C 1 dX1_runBody_0 rfl rfl ?_
  refine mr_bipush C (nI 12) 3 dX1_runBody_1 rfl rfl ?_
  refine mr_icmple C 8 6 dX1_runBody_3 (by decide) rfl (fun c_3 => ?_) (fun c_3 => ?_)
  · refine mr_aload_n C 9 dX1_runBody_8 rfl rfl ?_
    refine mr_iload_n C 10 dX1_runBody_9 rfl rfl ?_
    refine mr_callV C (c_leave E a b b2 s.1 s.2 hs (nI 23)) [0, 1] 0 1 13 dX1_runBody_10 rfl mk_X1_leave mi_X1_leave ml_X1_45 rfl rfl rfl rfl rfl (Nat.le_of_ble_eq_true rfl) (by decide) (by decide) (by decide) rfl rfl (fun r w1 hpost => ?_)
    obtain ⟨rfl, rfl⟩ := hpost
    refine mr_w (ws' := wQ E a b b2 (lvT (nI 23) s) ++ wH E a b2 se sn be so lo he inn al go ro cr gn gu gr) (jn_put [2, 10] [0] [wQ E a b b2 s, wH E a b2 se sn be so lo he inn al go ro cr gn gu gr] [wQ E a b b2 (lvT (nI 23) s)] [wQ E a b b2 (lvT (nI 23) s), wH E a b2 se sn be so lo he inn al go ro cr gn gu gr] rfl (by decide) rfl rfl rfl) ?_
    refine mr_iload_n C 14 dX1_runBody_13 rfl rfl ?_
    refine mr_tabIn C 196 dX1_runBody_14 (by decide) (by decide) rfl (by decide) ?_
    refine mr_aload_n C 197 dX1_runBody_196 rfl rfl ?_
    refine mr_bipush C (nI 20) 199 dX1_runBody_197 rfl rfl ?_
    refine mr_iload_n C 200 dX1_runBody_199 rfl rfl ?_
    refine mr_iload_n C 201 dX1_runBody_200 rfl rfl ?_
    refine mr_iconst C (nI 1) 202 dX1_runBody_201 rfl rfl ?_
    refine mr_iadd C (nI (d + 1)) 203 dX1_runBody_202 rfl (nI_add _ _) ?_
    refine mr_callV C (c_rb20 E a b b2 (lvT (nI 23) s) (lvT_le hs) se sn be so lo he inn al go ro cr gn gu gr c (d + 1) hc (by omega)) [0, 1, 2, 3, 4, 5, 6, 7, 8, 9, 10, 11] 0 1 206 dX1_runBody_203 rfl mk_X1_runBody mi_X1_runBody ml_X1_42 rfl rfl rfl rfl rfl (Nat.le_of_ble_eq_true rfl) (by decide) (by decide) (by decide) rfl rfl (fun r w1 hpost => ?_)
    obtain ⟨rfl, rfl⟩ := hpost
    refine mr_w (wput_all _ _ 12 rfl rfl) ?_
    refine mr_aload_n C 207 dX1_runBody_206 rfl rfl ?_
    refine mr_iload_n C 208 dX1_runBody_207 rfl rfl ?_
    refine mr_iconst C (nI 0) 209 dX1_runBody_208 rfl rfl ?_
    refine mr_iload_n C 210 dX1_runBody_209 rfl rfl ?_
    refine mr_iconst C (nI 1) 211 dX1_runBody_210 rfl rfl ?_
    refine mr_iadd C (nI (d + 1)) 212 dX1_runBody_211 rfl (nI_add _ _) ?_
    refine mr_callV C (c_ans0_5 E a b b2 (lvL [nI 20] (lvT (nI 23) s)) (lvL_le _ (lvT_le hs)) se sn be so lo he inn al go ro cr gn gu gr c (d + 1) hc (by omega) hk) [0, 1, 2, 3, 4, 5, 6, 7, 8, 9, 10, 11] 0 1 215 dX1_runBody_212 rfl mk_X1_answer mi_X1_answer ml_X1_21 rfl rfl rfl rfl rfl (Nat.le_of_ble_eq_true rfl) (by decide) (by decide) (by decide) rfl rfl (fun r w1 hpost => ?_)
    obtain ⟨rfl, rfl⟩ := hpost
    refine mr_w (wput_all _ _ 12 rfl rfl) ?_
    refine mr_isub C _ 216 dX1_runBody_215 rfl rfl ?_
    refine mr_iret C dX1_runBody_216 rfl rfl (by decide) (by decide) hlen ?_
    rw [hO]
    exact ⟨rfl, rfl⟩
  · rw [nI_leI (by omega) (by omega)] at c_3; exact absurd (by omega) c_3

set_option maxRecDepth 20000 in
set_option maxHeartbeats 4000000 in
theorem c_ans1_4 (E : EG) (a : Nat → Nat) (b b2 : Nat) (s : TRC) (hs : s.2 ≤ 16) (se sn be so lo he inn al go : FN) (ro cr gn gu gr : Int32) (c d : Nat) (hc : c < 5) (hd : d + 4 ≤ 12) (hk : so c = nI 4) : Ctr E mX1_answer (6, 0, 0) [.ref (a b), .int (nI c), .int (nI 1), .int (nI d)] (wQ E a b b2 s ++ wH E a b2 se sn be so lo he inn al go ro cr gn gu gr) (fun v w => v = some (.int (nI c - (he c - nI 100))) ∧ w = wQ E a b b2 (lvL [nI 23, nI 20, nI 13, nI 10] s) ++ wH E a b2 se sn be so lo he inn al go ro cr gn gu gr) := by
  refine Ctr.of (by decide) (Nat.le_of_ble_eq_true rfl) ?_
  intro Z hO hn C
  have hlen : zn Z ≤ 12 := by rw [hn]; exact Nat.le_of_ble_eq_true rfl
  refine mr_iload_n C 1 dX1_answer_0 rfl rfl ?_
  refine mr_bipush C (nI 12) 3 dX1_answer_1 rfl rfl ?_
  refine mr_icmple C 8 6 dX1_answer_3 (by decide) rfl (fun c_3 => ?_) (fun c_3 => ?_)
  · refine mr_aload_n C 9 dX1_answer_8 rfl rfl ?_
    refine mr_get C 0 12 dX1_answer_9 rfl fl_X1_13 rfl rfl ?_
    refine mr_get C 2 15 dX1_answer_12 rfl fl_X1_25 rfl rfl ?_
    refine mr_iload_n C 16 dX1_answer_15 rfl rfl ?_
    refine mr_iald C 6 c 17 dX1_answer_16 rfl rfl rfl (by omega) (by decide) ?_
    rw [hk]
    refine mr_iload_n C 18 dX1_answer_17 rfl rfl ?_
    refine mr_ifne C 27 21 dX1_answer_18 (by decide) rfl (fun _ => ?_) (fun c_ => absurd c_ (by decide))
    refine mr_getsN C 2 (by decide) 30 dX1_answer_27 rfl fn_X1_35 ?_
    refine mr_callS C (c_near2_4 E) [] 33 dX1_answer_30 rfl mk_X1_nearestBody ms_X1_nearestBody ml_X1_38 rfl rfl rfl rfl (Nat.le_of_ble_eq_true rfl) (by decide) (by decide) (by decide) (fun r w1 hpost => ?_)
    obtain ⟨rfl, rfl⟩ := hpost
    refine mr_w (ws' := wQ E a b b2 s ++ wH E a b2 se sn be so lo he inn al go ro cr gn gu gr) rfl ?_
    refine mr_istore C 35 dX1_answer_33 rfl (by decide) ?_
    refine mr_aload_n C 36 dX1_answer_35 rfl rfl ?_
    refine mr_iload C 38 dX1_answer_36 rfl rfl ?_
    refine mr_iload_n C 39 dX1_answer_38 rfl rfl ?_
    refine mr_iload_n C 40 dX1_answer_39 rfl rfl ?_
    refine mr_iconst C (nI 1) 41 dX1_answer_40 rfl rfl ?_
    refine mr_iadd C (nI (d + 1)) 42 dX1_answer_41 rfl (nI_add _ _) ?_
    refine mr_callV C (c_rb23_4 E a b b2 s hs se sn be so lo he inn al go ro cr gn gu gr c (d + 1) hc (by omega) hk) [0, 1, 2, 3, 4, 5, 6, 7, 8, 9, 10, 11] 0 1 45 dX1_answer_42 rfl mk_X1_runBody mi_X1_runBody ml_X1_42 rfl rfl rfl rfl rfl (Nat.le_of_ble_eq_true rfl) (by decide) (by decide) (by decide) rfl rfl (fun r w1 hpost => ?_)
    obtain ⟨rfl, rfl⟩ := hpost
    refine mr_w (wput_all _ _ 12 rfl rfl) ?_
    refine mr_iret C dX1_answer_45 rfl rfl (by decide) (by decide) hlen ?_
    rw [hO]
    exact ⟨rfl, rfl⟩
  · rw [nI_leI (by omega) (by omega)] at c_3; exact absurd (by omega) c_3

set_option maxRecDepth 20000 in
set_option maxHeartbeats 4000000 in
theorem c_ans1_5 (E : EG) (a : Nat → Nat) (b b2 : Nat) (s : TRC) (hs : s.2 ≤ 16) (se sn be so lo he inn al go : FN) (ro cr gn gu gr : Int32) (c d : Nat) (hc : c < 5) (hd : d + 5 ≤ 12) (hk : so c = nI 5) : Ctr E mX1_answer (7, 0, 0) [.ref (a b), .int (nI c), .int (nI 1), .int (nI d)] (wQ E a b b2 s ++ wH E a b2 se sn be so lo he inn al go ro cr gn gu gr) (fun v w => v = some (.int (nI c - (nI 2 * (he c - nI 100)))) ∧ w = wQ E a b b2 (lvL [nI 23, nI 20, nI 14, nI 13, nI 10] s) ++ wH E a b2 se sn be so lo he inn al go ro cr gn gu gr) := by
  refine Ctr.of (by decide) (Nat.le_of_ble_eq_true rfl) ?_
  intro Z hO hn C
  have hlen : zn Z ≤ 12 := by rw [hn]; exact Nat.le_of_ble_eq_true rfl
  refine mr_iload_n C 1 dX1_answer_0 rfl rfl ?_
  refine mr_bipush C (nI 12) 3 dX1_answer_1 rfl rfl ?_
  refine mr_icmple C 8 6 dX1_answer_3 (by decide) rfl (fun c_3 => ?_) (fun c_3 => ?_)
  · refine mr_aload_n C 9 dX1_answer_8 rfl rfl ?_
    refine mr_get C 0 12 dX1_answer_9 rfl fl_X1_13 rfl rfl ?_
    refine mr_get C 2 15 dX1_answer_12 rfl fl_X1_25 rfl rfl ?_
    refine mr_iload_n C 16 dX1_answer_15 rfl rfl ?_
    refine mr_iald C 6 c 17 dX1_answer_16 rfl rfl rfl (by omega) (by decide) ?_
    rw [hk]
    refine mr_iload_n C 18 dX1_answer_17 rfl rfl ?_
    refine mr_ifne C 27 21 dX1_answer_18 (by decide) rfl (fun _ => ?_) (fun c_ => absurd c_ (by decide))
    refine mr_getsN C 2 (by decide) 30 dX1_answer_27 rfl fn_X1_35 ?_
    refine mr_callS C (c_near2_5 E) [] 33 dX1_answer_30 rfl mk_X1_nearestBody ms_X1_nearestBody ml_X1_38 rfl rfl rfl rfl (Nat.le_of_ble_eq_true rfl) (by decide) (by decide) (by decide) (fun r w1 hpost => ?_)
    obtain ⟨rfl, rfl⟩ := hpost
    refine mr_w (ws' := wQ E a b b2 s ++ wH E a b2 se sn be so lo he inn al go ro cr gn gu gr) rfl ?_
    refine mr_istore C 35 dX1_answer_33 rfl (by decide) ?_
    refine mr_aload_n C 36 dX1_answer_35 rfl rfl ?_
    refine mr_iload C 38 dX1_answer_36 rfl rfl ?_
    refine mr_iload_n C 39 dX1_answer_38 rfl rfl ?_
    refine mr_iload_n C 40 dX1_answer_39 rfl rfl ?_
    refine mr_iconst C (nI 1) 41 dX1_answer_40 rfl rfl ?_
    refine mr_iadd C (nI (d + 1)) 42 dX1_answer_41 rfl (nI_add _ _) ?_
    refine mr_callV C (c_rb23_5 E a b b2 s hs se sn be so lo he inn al go ro cr gn gu gr c (d + 1) hc (by omega) hk) [0, 1, 2, 3, 4, 5, 6, 7, 8, 9, 10, 11] 0 1 45 dX1_answer_42 rfl mk_X1_runBody mi_X1_runBody ml_X1_42 rfl rfl rfl rfl rfl (Nat.le_of_ble_eq_true rfl) (by decide) (by decide) (by decide) rfl rfl (fun r w1 hpost => ?_)
    obtain ⟨rfl, rfl⟩ := hpost
    refine mr_w (wput_all _ _ 12 rfl rfl) ?_
    refine mr_iret C dX1_answer_45 rfl rfl (by decide) (by decide) hlen ?_
    rw [hO]
    exact ⟨rfl, rfl⟩
  · rw [nI_leI (by omega) (by omega)] at c_3; exact absurd (by omega) c_3

set_option maxRecDepth 20000 in
set_option maxHeartbeats 4000000 in
theorem c_rb11_1 (E : EG) (a : Nat → Nat) (b b2 : Nat) (s : TRC) (hs : s.2 ≤ 16) (se sn be so lo he inn al go : FN) (ro cr gn gu gr : Int32) (c d : Nat) (hc : c < 5) (hd : d + 3 ≤ 12) (hk : so c = nI 1) : Ctr E mX1_runBody (5, 0, 0) [.ref (a b), .int (nI 11), .int (nI c), .int (nI d)] (wQ E a b b2 s ++ wH E a b2 se sn be so lo he inn al go ro cr gn gu gr) (fun v w => v = some (.int (he c + (nI c + lo c))) ∧ w = wQ E a b b2 (lvL [nI 11, nI 10, nI 21, nI 20] s) ++ wH E a b2 se sn be so lo he inn al go ro cr gn gu gr) := by
  refine Ctr.of (by decide) (Nat.le_of_ble_eq_true rfl) ?_
  intro Z hO hn C
  have hlen : zn Z ≤ 12 := by rw [hn]; exact Nat.le_of_ble_eq_true rfl
  refine mr_iload_n C 1 dX1_runBody_0 rfl rfl ?_
  refine mr_bipush C (nI 12) 3 dX1_runBody_1 rfl rfl ?_
  refine mr_icmple C 8 6 dX1_runBody_3 (by decide) rfl (fun c_3 => ?_) (fun c_3 => ?_)
  · refine mr_aload_n C 9 dX1_runBody_8 rfl rfl ?_
    refine mr_iload_n C 10 dX1_runBody_9 rfl rfl ?_
    refine mr_callV C (c_leave E a b b2 s.1 s.2 hs (nI 11)) [0, 1] 0 1 13 dX1_runBody_10 rfl mk_X1_leave mi_X1_leave ml_X1_45 rfl rfl rfl rfl rfl (Nat.le_of_ble_eq_true rfl) (by decide) (by decide) (by decide) rfl rfl (fun r w1 hpost => ?_)
    obtain ⟨rfl, rfl⟩ := hpost
    refine mr_w (ws' := wQ E a b b2 (lvT (nI 11) s) ++ wH E a b2 se sn be so lo he inn al go ro cr gn gu gr) (jn_put [2, 10] [0] [wQ E a b b2 s, wH E a b2 se sn be so lo he inn al go ro cr gn gu gr] [wQ E a b b2 (lvT (nI 11) s)] [wQ E a b b2 (lvT (nI 11) s), wH E a b2 se sn be so lo he inn al go ro cr gn gu gr] rfl (by decide) rfl rfl rfl) ?_
    refine mr_iload_n C 14 dX1_runBody_13 rfl rfl ?_
    refine mr_tabIn C 98 dX1_runBody_14 (by decide) (by decide) rfl (by decide) ?_
    refine mr_aload_n C 99 dX1_runBody_98 rfl rfl ?_
    refine mr_bipush C (nI 10) 101 dX1_runBody_99 rfl rfl ?_
    refine mr_iload_n C 102 dX1_runBody_101 rfl rfl ?_
    refine mr_iload_n C 103 dX1_runBody_102 rfl rfl ?_
    refine mr_iconst C (nI 1) 104 dX1_runBody_103 rfl rfl ?_
    refine mr_iadd C (nI (d + 1)) 105 dX1_runBody_104 rfl (nI_add _ _) ?_
    refine mr_callV C (c_rb10 E a b b2 (lvT (nI 11) s) (lvT_le hs) se sn be so lo he inn al go ro cr gn gu gr c (d + 1) hc (by omega)) [0, 1, 2, 3, 4, 5, 6, 7, 8, 9, 10, 11] 0 1 108 dX1_runBody_105 rfl mk_X1_runBody mi_X1_runBody ml_X1_42 rfl rfl rfl rfl rfl (Nat.le_of_ble_eq_true rfl) (by decide) (by decide) (by decide) rfl rfl (fun r w1 hpost => ?_)
    obtain ⟨rfl, rfl⟩ := hpost
    refine mr_w (wput_all _ _ 12 rfl rfl) ?_
    refine mr_aload_n C 109 dX1_runBody_108 rfl rfl ?_
    refine mr_iload_n C 110 dX1_runBody_109 rfl rfl ?_
    refine mr_iconst C (nI 1) 111 dX1_runBody_110 rfl rfl ?_
    refine mr_iload_n C 112 dX1_runBody_111 rfl rfl ?_
    refine mr_iconst C (nI 1) 113 dX1_runBody_112 rfl rfl ?_
    refine mr_iadd C (nI (d + 1)) 114 dX1_runBody_113 rfl (nI_add _ _) ?_
    refine mr_callV C (c_ans1_1 E a b b2 (lvL [nI 10] (lvT (nI 11) s)) (lvL_le _ (lvT_le hs)) se sn be so lo he inn al go ro cr gn gu gr c (d + 1) hc (by omega) hk) [0, 1, 2, 3, 4, 5, 6, 7, 8, 9, 10, 11] 0 1 117 dX1_runBody_114 rfl mk_X1_answer mi_X1_answer ml_X1_21 rfl rfl rfl rfl rfl (Nat.le_of_ble_eq_true rfl) (by decide) (by decide) (by decide) rfl rfl (fun r w1 hpost => ?_)
    obtain ⟨rfl, rfl⟩ := hpost
    refine mr_w (wput_all _ _ 12 rfl rfl) ?_
    refine mr_iadd C _ 118 dX1_runBody_117 rfl rfl ?_
    refine mr_iret C dX1_runBody_118 rfl rfl (by decide) (by decide) hlen ?_
    rw [hO]
    exact ⟨rfl, rfl⟩
  · rw [nI_leI (by omega) (by omega)] at c_3; exact absurd (by omega) c_3

set_option maxRecDepth 20000 in
set_option maxHeartbeats 4000000 in
theorem c_rb11_2 (E : EG) (a : Nat → Nat) (b b2 : Nat) (s : TRC) (hs : s.2 ≤ 16) (se sn be so lo he inn al go : FN) (ro cr gn gu gr : Int32) (c d : Nat) (hc : c < 5) (hd : d + 4 ≤ 12) (hk : so c = nI 2) : Ctr E mX1_runBody (6, 0, 0) [.ref (a b), .int (nI 11), .int (nI c), .int (nI d)] (wQ E a b b2 s ++ wH E a b2 se sn be so lo he inn al go ro cr gn gu gr) (fun v w => v = some (.int (he c + (nI 2 * (nI c + lo c)))) ∧ w = wQ E a b b2 (lvL [nI 11, nI 10, nI 24, nI 21, nI 20] s) ++ wH E a b2 se sn be so lo he inn al go ro cr gn gu gr) := by
  refine Ctr.of (by decide) (Nat.le_of_ble_eq_true rfl) ?_
  intro Z hO hn C
  have hlen : zn Z ≤ 12 := by rw [hn]; exact Nat.le_of_ble_eq_true rfl
  refine mr_iload_n C 1 dX1_runBody_0 rfl rfl ?_
  refine mr_bipush C (nI 12) 3 dX1_runBody_1 rfl rfl ?_
  refine mr_icmple C 8 6 dX1_runBody_3 (by decide) rfl (fun c_3 => ?_) (fun c_3 => ?_)
  · refine mr_aload_n C 9 dX1_runBody_8 rfl rfl ?_
    refine mr_iload_n C 10 dX1_runBody_9 rfl rfl ?_
    refine mr_callV C (c_leave E a b b2 s.1 s.2 hs (nI 11)) [0, 1] 0 1 13 dX1_runBody_10 rfl mk_X1_leave mi_X1_leave ml_X1_45 rfl rfl rfl rfl rfl (Nat.le_of_ble_eq_true rfl) (by decide) (by decide) (by decide) rfl rfl (fun r w1 hpost => ?_)
    obtain ⟨rfl, rfl⟩ := hpost
    refine mr_w (ws' := wQ E a b b2 (lvT (nI 11) s) ++ wH E a b2 se sn be so lo he inn al go ro cr gn gu gr) (jn_put [2, 10] [0] [wQ E a b b2 s, wH E a b2 se sn be so lo he inn al go ro cr gn gu gr] [wQ E a b b2 (lvT (nI 11) s)] [wQ E a b b2 (lvT (nI 11) s), wH E a b2 se sn be so lo he inn al go ro cr gn gu gr] rfl (by decide) rfl rfl rfl) ?_
    refine mr_iload_n C 14 dX1_runBody_13 rfl rfl ?_
    refine mr_tabIn C 98 dX1_runBody_14 (by decide) (by decide) rfl (by decide) ?_
    refine mr_aload_n C 99 dX1_runBody_98 rfl rfl ?_
    refine mr_bipush C (nI 10) 101 dX1_runBody_99 rfl rfl ?_
    refine mr_iload_n C 102 dX1_runBody_101 rfl rfl ?_
    refine mr_iload_n C 103 dX1_runBody_102 rfl rfl ?_
    refine mr_iconst C (nI 1) 104 dX1_runBody_103 rfl rfl ?_
    refine mr_iadd C (nI (d + 1)) 105 dX1_runBody_104 rfl (nI_add _ _) ?_
    refine mr_callV C (c_rb10 E a b b2 (lvT (nI 11) s) (lvT_le hs) se sn be so lo he inn al go ro cr gn gu gr c (d + 1) hc (by omega)) [0, 1, 2, 3, 4, 5, 6, 7, 8, 9, 10, 11] 0 1 108 dX1_runBody_105 rfl mk_X1_runBody mi_X1_runBody ml_X1_42 rfl rfl rfl rfl rfl (Nat.le_of_ble_eq_true rfl) (by decide) (by decide) (by decide) rfl rfl (fun r w1 hpost => ?_)
    obtain ⟨rfl, rfl⟩ := hpost
    refine mr_w (wput_all _ _ 12 rfl rfl) ?_
    refine mr_aload_n C 109 dX1_runBody_108 rfl rfl ?_
    refine mr_iload_n C 110 dX1_runBody_109 rfl rfl ?_
    refine mr_iconst C (nI 1) 111 dX1_runBody_110 rfl rfl ?_
    refine mr_iload_n C 112 dX1_runBody_111 rfl rfl ?_
    refine mr_iconst C (nI 1) 113 dX1_runBody_112 rfl rfl ?_
    refine mr_iadd C (nI (d + 1)) 114 dX1_runBody_113 rfl (nI_add _ _) ?_
    refine mr_callV C (c_ans1_2 E a b b2 (lvL [nI 10] (lvT (nI 11) s)) (lvL_le _ (lvT_le hs)) se sn be so lo he inn al go ro cr gn gu gr c (d + 1) hc (by omega) hk) [0, 1, 2, 3, 4, 5, 6, 7, 8, 9, 10, 11] 0 1 117 dX1_runBody_114 rfl mk_X1_answer mi_X1_answer ml_X1_21 rfl rfl rfl rfl rfl (Nat.le_of_ble_eq_true rfl) (by decide) (by decide) (by decide) rfl rfl (fun r w1 hpost => ?_)
    obtain ⟨rfl, rfl⟩ := hpost
    refine mr_w (wput_all _ _ 12 rfl rfl) ?_
    refine mr_iadd C _ 118 dX1_runBody_117 rfl rfl ?_
    refine mr_iret C dX1_runBody_118 rfl rfl (by decide) (by decide) hlen ?_
    rw [hO]
    exact ⟨rfl, rfl⟩
  · rw [nI_leI (by omega) (by omega)] at c_3; exact absurd (by omega) c_3

set_option maxRecDepth 20000 in
set_option maxHeartbeats 4000000 in
theorem c_rb11_3 (E : EG) (a : Nat → Nat) (b b2 : Nat) (s : TRC) (hs : s.2 ≤ 16) (se sn be so lo he inn al go : FN) (ro cr gn gu gr : Int32) (c d : Nat) (hc : c < 5) (hd : d + 4 ≤ 12) (hk : so c = nI 3) : Ctr E mX1_runBody (6, 0, 0) [.ref (a b), .int (nI 11), .int (nI c), .int (nI d)] (wQ E a b b2 s ++ wH E a b2 se sn be so lo he inn al go ro cr gn gu gr) (fun v w => v = some (.int (he c + (nI c + lo c - nI 1000))) ∧ w = wQ E a b b2 (lvL [nI 11, nI 10, nI 22, nI 21, nI 20] s) ++ wH E a b2 se sn be so lo he inn al go ro cr gn gu gr) := by
  refine Ctr.of (by decide) (Nat.le_of_ble_eq_true rfl) ?_
  intro Z hO hn C
  have hlen : zn Z ≤ 12 := by rw [hn]; exact Nat.le_of_ble_eq_true rfl
  refine mr_iload_n C 1 dX1_runBody_0 rfl rfl ?_
  refine mr_bipush C (nI 12) 3 dX1_runBody_1 rfl rfl ?_
  refine mr_icmple C 8 6 dX1_runBody_3 (by decide) rfl (fun c_3 => ?_) (fun c_3 => ?_)
  · refine mr_aload_n C 9 dX1_runBody_8 rfl rfl ?_
    refine mr_iload_n C 10 dX1_runBody_9 rfl rfl ?_
    refine mr_callV C (c_leave E a b b2 s.1 s.2 hs (nI 11)) [0, 1] 0 1 13 dX1_runBody_10 rfl mk_X1_leave mi_X1_leave ml_X1_45 rfl rfl rfl rfl rfl (Nat.le_of_ble_eq_true rfl) (by decide) (by decide) (by decide) rfl rfl (fun r w1 hpost => ?_)
    obtain ⟨rfl, rfl⟩ := hpost
    refine mr_w (ws' := wQ E a b b2 (lvT (nI 11) s) ++ wH E a b2 se sn be so lo he inn al go ro cr gn gu gr) (jn_put [2, 10] [0] [wQ E a b b2 s, wH E a b2 se sn be so lo he inn al go ro cr gn gu gr] [wQ E a b b2 (lvT (nI 11) s)] [wQ E a b b2 (lvT (nI 11) s), wH E a b2 se sn be so lo he inn al go ro cr gn gu gr] rfl (by decide) rfl rfl rfl) ?_
    refine mr_iload_n C 14 dX1_runBody_13 rfl rfl ?_
    refine mr_tabIn C 98 dX1_runBody_14 (by decide) (by decide) rfl (by decide) ?_
    refine mr_aload_n C 99 dX1_runBody_98 rfl rfl ?_
    refine mr_bipush C (nI 10) 101 dX1_runBody_99 rfl rfl ?_
    refine mr_iload_n C 102 dX1_runBody_101 rfl rfl ?_
    refine mr_iload_n C 103 dX1_runBody_102 rfl rfl ?_
    refine mr_iconst C (nI 1) 104 dX1_runBody_103 rfl rfl ?_
    refine mr_iadd C (nI (d + 1)) 105 dX1_runBody_104 rfl (nI_add _ _) ?_
    refine mr_callV C (c_rb10 E a b b2 (lvT (nI 11) s) (lvT_le hs) se sn be so lo he inn al go ro cr gn gu gr c (d + 1) hc (by omega)) [0, 1, 2, 3, 4, 5, 6, 7, 8, 9, 10, 11] 0 1 108 dX1_runBody_105 rfl mk_X1_runBody mi_X1_runBody ml_X1_42 rfl rfl rfl rfl rfl (Nat.le_of_ble_eq_true rfl) (by decide) (by decide) (by decide) rfl rfl (fun r w1 hpost => ?_)
    obtain ⟨rfl, rfl⟩ := hpost
    refine mr_w (wput_all _ _ 12 rfl rfl) ?_
    refine mr_aload_n C 109 dX1_runBody_108 rfl rfl ?_
    refine mr_iload_n C 110 dX1_runBody_109 rfl rfl ?_
    refine mr_iconst C (nI 1) 111 dX1_runBody_110 rfl rfl ?_
    refine mr_iload_n C 112 dX1_runBody_111 rfl rfl ?_
    refine mr_iconst C (nI 1) 113 dX1_runBody_112 rfl rfl ?_
    refine mr_iadd C (nI (d + 1)) 114 dX1_runBody_113 rfl (nI_add _ _) ?_
    refine mr_callV C (c_ans1_3 E a b b2 (lvL [nI 10] (lvT (nI 11) s)) (lvL_le _ (lvT_le hs)) se sn be so lo he inn al go ro cr gn gu gr c (d + 1) hc (by omega) hk) [0, 1, 2, 3, 4, 5, 6, 7, 8, 9, 10, 11] 0 1 117 dX1_runBody_114 rfl mk_X1_answer mi_X1_answer ml_X1_21 rfl rfl rfl rfl rfl (Nat.le_of_ble_eq_true rfl) (by decide) (by decide) (by decide) rfl rfl (fun r w1 hpost => ?_)
    obtain ⟨rfl, rfl⟩ := hpost
    refine mr_w (wput_all _ _ 12 rfl rfl) ?_
    refine mr_iadd C _ 118 dX1_runBody_117 rfl rfl ?_
    refine mr_iret C dX1_runBody_118 rfl rfl (by decide) (by decide) hlen ?_
    rw [hO]
    exact ⟨rfl, rfl⟩
  · rw [nI_leI (by omega) (by omega)] at c_3; exact absurd (by omega) c_3

set_option maxRecDepth 20000 in
set_option maxHeartbeats 4000000 in
theorem c_rb12 (E : EG) (a : Nat → Nat) (b b2 : Nat) (s : TRC) (hs : s.2 ≤ 16) (se sn be so lo he inn al go : FN) (ro cr gn gu gr : Int32) (c d : Nat) (hc : c < 5) (hd : d + 5 ≤ 12) (hk : so c = nI 2) : Ctr E mX1_runBody (7, 0, 0) [.ref (a b), .int (nI 12), .int (nI c), .int (nI d)] (wQ E a b b2 s ++ wH E a b2 se sn be so lo he inn al go ro cr gn gu gr) (fun v w => v = some (.int (-(he c + (nI 2 * (nI c + lo c))))) ∧ w = wQ E a b b2 (lvL [nI 12, nI 11, nI 10, nI 24, nI 21, nI 20] s) ++ wH E a b2 se sn be so lo he inn al go ro cr gn gu gr) := by
  refine Ctr.of (by decide) (Nat.le_of_ble_eq_true rfl) ?_
  intro Z hO hn C
  have hlen : zn Z ≤ 12 := by rw [hn]; exact Nat.le_of_ble_eq_true rfl
  refine mr_iload_n C 1 dX1_runBody_0 rfl rfl ?_
  refine mr_bipush C (nI 12) 3 dX1_runBody_1 rfl rfl ?_
  refine mr_icmple C 8 6 dX1_runBody_3 (by decide) rfl (fun c_3 => ?_) (fun c_3 => ?_)
  · refine mr_aload_n C 9 dX1_runBody_8 rfl rfl ?_
    refine mr_iload_n C 10 dX1_runBody_9 rfl rfl ?_
    refine mr_callV C (c_leave E a b b2 s.1 s.2 hs (nI 12)) [0, 1] 0 1 13 dX1_runBody_10 rfl mk_X1_leave mi_X1_leave ml_X1_45 rfl rfl rfl rfl rfl (Nat.le_of_ble_eq_true rfl) (by decide) (by decide) (by decide) rfl rfl (fun r w1 hpost => ?_)
    obtain ⟨rfl, rfl⟩ := hpost
    refine mr_w (ws' := wQ E a b b2 (lvT (nI 12) s) ++ wH E a b2 se sn be so lo he inn al go ro cr gn gu gr) (jn_put [2, 10] [0] [wQ E a b b2 s, wH E a b2 se sn be so lo he inn al go ro cr gn gu gr] [wQ E a b b2 (lvT (nI 12) s)] [wQ E a b b2 (lvT (nI 12) s), wH E a b2 se sn be so lo he inn al go ro cr gn gu gr] rfl (by decide) rfl rfl rfl) ?_
    refine mr_iload_n C 14 dX1_runBody_13 rfl rfl ?_
    refine mr_tabIn C 119 dX1_runBody_14 (by decide) (by decide) rfl (by decide) ?_
    refine mr_aload_n C 120 dX1_runBody_119 rfl rfl ?_
    refine mr_bipush C (nI 11) 122 dX1_runBody_120 rfl rfl ?_
    refine mr_iload_n C 123 dX1_runBody_122 rfl rfl ?_
    refine mr_iload_n C 124 dX1_runBody_123 rfl rfl ?_
    refine mr_iconst C (nI 1) 125 dX1_runBody_124 rfl rfl ?_
    refine mr_iadd C (nI (d + 1)) 126 dX1_runBody_125 rfl (nI_add _ _) ?_
    refine mr_callV C (c_rb11_2 E a b b2 (lvT (nI 12) s) (lvT_le hs) se sn be so lo he inn al go ro cr gn gu gr c (d + 1) hc (by omega) hk) [0, 1, 2, 3, 4, 5, 6, 7, 8, 9, 10, 11] 0 1 129 dX1_runBody_126 rfl mk_X1_runBody mi_X1_runBody ml_X1_42 rfl rfl rfl rfl rfl (Nat.le_of_ble_eq_true rfl) (by decide) (by decide) (by decide) rfl rfl (fun r w1 hpost => ?_)
    obtain ⟨rfl, rfl⟩ := hpost
    refine mr_w (wput_all _ _ 12 rfl rfl) ?_
    refine mr_ineg C 130 dX1_runBody_129 rfl ?_
    refine mr_iret C dX1_runBody_130 rfl rfl (by decide) (by decide) hlen ?_
    rw [hO]
    exact ⟨rfl, rfl⟩
  · rw [nI_leI (by omega) (by omega)] at c_3; exact absurd (by omega) c_3

set_option maxRecDepth 20000 in
set_option maxHeartbeats 4000000 in
theorem c_ans0_1 (E : EG) (a : Nat → Nat) (b b2 : Nat) (s : TRC) (hs : s.2 ≤ 16) (se sn be so lo he inn al go : FN) (ro cr gn gu gr : Int32) (c d : Nat) (hc : c < 5) (hd : d + 4 ≤ 12) (hk : so c = nI 1) : Ctr E mX1_answer (6, 0, 0) [.ref (a b), .int (nI c), .int (nI 0), .int (nI d)] (wQ E a b b2 s ++ wH E a b2 se sn be so lo he inn al go ro cr gn gu gr) (fun v w => v = some (.int (he c + (nI c + lo c))) ∧ w = wQ E a b b2 (lvL [nI 11, nI 10, nI 21, nI 20] s) ++ wH E a b2 se sn be so lo he inn al go ro cr gn gu gr) := by
  refine Ctr.of (by decide) (Nat.le_of_ble_eq_true rfl) ?_
  intro Z hO hn C
  have hlen : zn Z ≤ 12 := by rw [hn]; exact Nat.le_of_ble_eq_true rfl
  refine mr_iload_n C 1 dX1_answer_0 rfl rfl ?_
  refine mr_bipush C (nI 12) 3 dX1_answer_1 rfl rfl ?_
  refine mr_icmple C 8 6 dX1_answer_3 (by decide) rfl (fun c_3 => ?_) (fun c_3 => ?_)
  · refine mr_aload_n C 9 dX1_answer_8 rfl rfl ?_
    refine mr_get C 0 12 dX1_answer_9 rfl fl_X1_13 rfl rfl ?_
    refine mr_get C 2 15 dX1_answer_12 rfl fl_X1_25 rfl rfl ?_
    refine mr_iload_n C 16 dX1_answer_15 rfl rfl ?_
    refine mr_iald C 6 c 17 dX1_answer_16 rfl rfl rfl (by omega) (by decide) ?_
    rw [hk]
    refine mr_iload_n C 18 dX1_answer_17 rfl rfl ?_
    refine mr_ifne C 27 21 dX1_answer_18 (by decide) rfl (fun c_ => absurd (by decide) c_) (fun _ => ?_)
    refine mr_getsN C 1 (by decide) 24 dX1_answer_21 rfl fn_X1_30 ?_
    refine mr_goto C 30 dX1_answer_24 (by decide) ?_
    refine mr_callS C (c_near1_1 E) [] 33 dX1_answer_30 rfl mk_X1_nearestBody ms_X1_nearestBody ml_X1_38 rfl rfl rfl rfl (Nat.le_of_ble_eq_true rfl) (by decide) (by decide) (by decide) (fun r w1 hpost => ?_)
    obtain ⟨rfl, rfl⟩ := hpost
    refine mr_w (ws' := wQ E a b b2 s ++ wH E a b2 se sn be so lo he inn al go ro cr gn gu gr) rfl ?_
    refine mr_istore C 35 dX1_answer_33 rfl (by decide) ?_
    refine mr_aload_n C 36 dX1_answer_35 rfl rfl ?_
    refine mr_iload C 38 dX1_answer_36 rfl rfl ?_
    refine mr_iload_n C 39 dX1_answer_38 rfl rfl ?_
    refine mr_iload_n C 40 dX1_answer_39 rfl rfl ?_
    refine mr_iconst C (nI 1) 41 dX1_answer_40 rfl rfl ?_
    refine mr_iadd C (nI (d + 1)) 42 dX1_answer_41 rfl (nI_add _ _) ?_
    refine mr_callV C (c_rb11_1 E a b b2 s hs se sn be so lo he inn al go ro cr gn gu gr c (d + 1) hc (by omega) hk) [0, 1, 2, 3, 4, 5, 6, 7, 8, 9, 10, 11] 0 1 45 dX1_answer_42 rfl mk_X1_runBody mi_X1_runBody ml_X1_42 rfl rfl rfl rfl rfl (Nat.le_of_ble_eq_true rfl) (by decide) (by decide) (by decide) rfl rfl (fun r w1 hpost => ?_)
    obtain ⟨rfl, rfl⟩ := hpost
    refine mr_w (wput_all _ _ 12 rfl rfl) ?_
    refine mr_iret C dX1_answer_45 rfl rfl (by decide) (by decide) hlen ?_
    rw [hO]
    exact ⟨rfl, rfl⟩
  · rw [nI_leI (by omega) (by omega)] at c_3; exact absurd (by omega) c_3

set_option maxRecDepth 20000 in
set_option maxHeartbeats 4000000 in
theorem c_ans0_2 (E : EG) (a : Nat → Nat) (b b2 : Nat) (s : TRC) (hs : s.2 ≤ 16) (se sn be so lo he inn al go : FN) (ro cr gn gu gr : Int32) (c d : Nat) (hc : c < 5) (hd : d + 6 ≤ 12) (hk : so c = nI 2) : Ctr E mX1_answer (8, 0, 0) [.ref (a b), .int (nI c), .int (nI 0), .int (nI d)] (wQ E a b b2 s ++ wH E a b2 se sn be so lo he inn al go ro cr gn gu gr) (fun v w => v = some (.int (-(he c + (nI 2 * (nI c + lo c))))) ∧ w = wQ E a b b2 (lvL [nI 12, nI 11, nI 10, nI 24, nI 21, nI 20] s) ++ wH E a b2 se sn be so lo he inn al go ro cr gn gu gr) := by
  refine Ctr.of (by decide) (Nat.le_of_ble_eq_true rfl) ?_
  intro Z hO hn C
  have hlen : zn Z ≤ 12 := by rw [hn]; exact Nat.le_of_ble_eq_true rfl
  refine mr_iload_n C 1 dX1_answer_0 rfl rfl ?_
  refine mr_bipush C (nI 12) 3 dX1_answer_1 rfl rfl ?_
  refine mr_icmple C 8 6 dX1_answer_3 (by decide) rfl (fun c_3 => ?_) (fun c_3 => ?_)
  · refine mr_aload_n C 9 dX1_answer_8 rfl rfl ?_
    refine mr_get C 0 12 dX1_answer_9 rfl fl_X1_13 rfl rfl ?_
    refine mr_get C 2 15 dX1_answer_12 rfl fl_X1_25 rfl rfl ?_
    refine mr_iload_n C 16 dX1_answer_15 rfl rfl ?_
    refine mr_iald C 6 c 17 dX1_answer_16 rfl rfl rfl (by omega) (by decide) ?_
    rw [hk]
    refine mr_iload_n C 18 dX1_answer_17 rfl rfl ?_
    refine mr_ifne C 27 21 dX1_answer_18 (by decide) rfl (fun c_ => absurd (by decide) c_) (fun _ => ?_)
    refine mr_getsN C 1 (by decide) 24 dX1_answer_21 rfl fn_X1_30 ?_
    refine mr_goto C 30 dX1_answer_24 (by decide) ?_
    refine mr_callS C (c_near1_2 E) [] 33 dX1_answer_30 rfl mk_X1_nearestBody ms_X1_nearestBody ml_X1_38 rfl rfl rfl rfl (Nat.le_of_ble_eq_true rfl) (by decide) (by decide) (by decide) (fun r w1 hpost => ?_)
    obtain ⟨rfl, rfl⟩ := hpost
    refine mr_w (ws' := wQ E a b b2 s ++ wH E a b2 se sn be so lo he inn al go ro cr gn gu gr) rfl ?_
    refine mr_istore C 35 dX1_answer_33 rfl (by decide) ?_
    refine mr_aload_n C 36 dX1_answer_35 rfl rfl ?_
    refine mr_iload C 38 dX1_answer_36 rfl rfl ?_
    refine mr_iload_n C 39 dX1_answer_38 rfl rfl ?_
    refine mr_iload_n C 40 dX1_answer_39 rfl rfl ?_
    refine mr_iconst C (nI 1) 41 dX1_answer_40 rfl rfl ?_
    refine mr_iadd C (nI (d + 1)) 42 dX1_answer_41 rfl (nI_add _ _) ?_
    refine mr_callV C (c_rb12 E a b b2 s hs se sn be so lo he inn al go ro cr gn gu gr c (d + 1) hc (by omega) hk) [0, 1, 2, 3, 4, 5, 6, 7, 8, 9, 10, 11] 0 1 45 dX1_answer_42 rfl mk_X1_runBody mi_X1_runBody ml_X1_42 rfl rfl rfl rfl rfl (Nat.le_of_ble_eq_true rfl) (by decide) (by decide) (by decide) rfl rfl (fun r w1 hpost => ?_)
    obtain ⟨rfl, rfl⟩ := hpost
    refine mr_w (wput_all _ _ 12 rfl rfl) ?_
    refine mr_iret C dX1_answer_45 rfl rfl (by decide) (by decide) hlen ?_
    rw [hO]
    exact ⟨rfl, rfl⟩
  · rw [nI_leI (by omega) (by omega)] at c_3; exact absurd (by omega) c_3

set_option maxRecDepth 20000 in
set_option maxHeartbeats 4000000 in
theorem c_ans0_3 (E : EG) (a : Nat → Nat) (b b2 : Nat) (s : TRC) (hs : s.2 ≤ 16) (se sn be so lo he inn al go : FN) (ro cr gn gu gr : Int32) (c d : Nat) (hc : c < 5) (hd : d + 5 ≤ 12) (hk : so c = nI 3) : Ctr E mX1_answer (7, 0, 0) [.ref (a b), .int (nI c), .int (nI 0), .int (nI d)] (wQ E a b b2 s ++ wH E a b2 se sn be so lo he inn al go ro cr gn gu gr) (fun v w => v = some (.int (he c + (nI c + lo c - nI 1000))) ∧ w = wQ E a b b2 (lvL [nI 11, nI 10, nI 22, nI 21, nI 20] s) ++ wH E a b2 se sn be so lo he inn al go ro cr gn gu gr) := by
  refine Ctr.of (by decide) (Nat.le_of_ble_eq_true rfl) ?_
  intro Z hO hn C
  have hlen : zn Z ≤ 12 := by rw [hn]; exact Nat.le_of_ble_eq_true rfl
  refine mr_iload_n C 1 dX1_answer_0 rfl rfl ?_
  refine mr_bipush C (nI 12) 3 dX1_answer_1 rfl rfl ?_
  refine mr_icmple C 8 6 dX1_answer_3 (by decide) rfl (fun c_3 => ?_) (fun c_3 => ?_)
  · refine mr_aload_n C 9 dX1_answer_8 rfl rfl ?_
    refine mr_get C 0 12 dX1_answer_9 rfl fl_X1_13 rfl rfl ?_
    refine mr_get C 2 15 dX1_answer_12 rfl fl_X1_25 rfl rfl ?_
    refine mr_iload_n C 16 dX1_answer_15 rfl rfl ?_
    refine mr_iald C 6 c 17 dX1_answer_16 rfl rfl rfl (by omega) (by decide) ?_
    rw [hk]
    refine mr_iload_n C 18 dX1_answer_17 rfl rfl ?_
    refine mr_ifne C 27 21 dX1_answer_18 (by decide) rfl (fun c_ => absurd (by decide) c_) (fun _ => ?_)
    refine mr_getsN C 1 (by decide) 24 dX1_answer_21 rfl fn_X1_30 ?_
    refine mr_goto C 30 dX1_answer_24 (by decide) ?_
    refine mr_callS C (c_near1_3 E) [] 33 dX1_answer_30 rfl mk_X1_nearestBody ms_X1_nearestBody ml_X1_38 rfl rfl rfl rfl (Nat.le_of_ble_eq_true rfl) (by decide) (by decide) (by decide) (fun r w1 hpost => ?_)
    obtain ⟨rfl, rfl⟩ := hpost
    refine mr_w (ws' := wQ E a b b2 s ++ wH E a b2 se sn be so lo he inn al go ro cr gn gu gr) rfl ?_
    refine mr_istore C 35 dX1_answer_33 rfl (by decide) ?_
    refine mr_aload_n C 36 dX1_answer_35 rfl rfl ?_
    refine mr_iload C 38 dX1_answer_36 rfl rfl ?_
    refine mr_iload_n C 39 dX1_answer_38 rfl rfl ?_
    refine mr_iload_n C 40 dX1_answer_39 rfl rfl ?_
    refine mr_iconst C (nI 1) 41 dX1_answer_40 rfl rfl ?_
    refine mr_iadd C (nI (d + 1)) 42 dX1_answer_41 rfl (nI_add _ _) ?_
    refine mr_callV C (c_rb11_3 E a b b2 s hs se sn be so lo he inn al go ro cr gn gu gr c (d + 1) hc (by omega) hk) [0, 1, 2, 3, 4, 5, 6, 7, 8, 9, 10, 11] 0 1 45 dX1_answer_42 rfl mk_X1_runBody mi_X1_runBody ml_X1_42 rfl rfl rfl rfl rfl (Nat.le_of_ble_eq_true rfl) (by decide) (by decide) (by decide) rfl rfl (fun r w1 hpost => ?_)
    obtain ⟨rfl, rfl⟩ := hpost
    refine mr_w (wput_all _ _ 12 rfl rfl) ?_
    refine mr_iret C dX1_answer_45 rfl rfl (by decide) (by decide) hlen ?_
    rw [hO]
    exact ⟨rfl, rfl⟩
  · rw [nI_leI (by omega) (by omega)] at c_3; exact absurd (by omega) c_3

def askT (k w : Nat) : List Int32 := match w, k with
  | 0, 1 => [nI 11, nI 10, nI 21, nI 20]
  | 0, 2 => [nI 12, nI 11, nI 10, nI 24, nI 21, nI 20]
  | 0, 3 => [nI 11, nI 10, nI 22, nI 21, nI 20]
  | 0, 4 => [nI 13, nI 10]
  | 0, 5 => [nI 14, nI 13, nI 10]
  | 1, 1 => [nI 21, nI 20]
  | 1, 2 => [nI 24, nI 21, nI 20]
  | 1, 3 => [nI 22, nI 21, nI 20]
  | 1, 4 => [nI 23, nI 20, nI 13, nI 10]
  | 1, 5 => [nI 23, nI 20, nI 14, nI 13, nI 10]
  | _, _ => []
def askV (k w : Nat) (c : Nat) (hd lc : Int32) : Int32 := match w, k with
  | 0, 1 => (hd + (nI c + lc))
  | 0, 2 => (-(hd + (nI 2 * (nI c + lc))))
  | 0, 3 => (hd + (nI c + lc - nI 1000))
  | 0, 4 => (hd - nI 100)
  | 0, 5 => (nI 2 * (hd - nI 100))
  | 1, 1 => (nI c + lc)
  | 1, 2 => (nI 2 * (nI c + lc))
  | 1, 3 => (nI c + lc - nI 1000)
  | 1, 4 => (nI c - (hd - nI 100))
  | 1, 5 => (nI c - (nI 2 * (hd - nI 100)))
  | _, _ => 0
set_option maxRecDepth 20000 in
set_option maxHeartbeats 4000000 in
theorem c_ask0_1 (E : EG) (a : Nat → Nat) (b b2 : Nat) (s : TRC) (se sn be so lo he inn al go : FN) (ro cr gn gu gr : Int32) (c : Nat) (hc : c < 5) (hk : so c = nI 1) : Ctr E mX1_askAnew (9, 0, 0) [.ref (a b), .int (nI c), .int (nI 0)] (wQ E a b b2 s ++ wH E a b2 se sn be so lo he inn al go ro cr gn gu gr) (fun v w => v = some (.int (askV 1 0 c (he c) (lo c))) ∧ w = wQ E a b b2 (lvL (askT 1 0) (s.1, 0)) ++ wH E a b2 se sn be so lo he inn al go ro cr gn gu gr) := by
  refine Ctr.of (by decide) (Nat.le_of_ble_eq_true rfl) ?_
  intro Z hO hn C
  have hlen : zn Z ≤ 12 := by rw [hn]; exact Nat.le_of_ble_eq_true rfl
  refine mr_aload_n C 1 dX1_askAnew_0 rfl rfl ?_
  refine mr_iconst C (nI 0) 2 dX1_askAnew_1 rfl rfl ?_
  refine mr_put C 0 5 dX1_askAnew_2 rfl fs_X1_17 rfl rfl rfl (Nat.le_of_ble_eq_true rfl) ?_
  refine mr_w (ws' := wQ E a b b2 (s.1, 0) ++ wH E a b2 se sn be so lo he inn al go ro cr gn gu gr) rfl ?_
  refine mr_aload_n C 6 dX1_askAnew_5 rfl rfl ?_
  refine mr_iload_n C 7 dX1_askAnew_6 rfl rfl ?_
  refine mr_iload_n C 8 dX1_askAnew_7 rfl rfl ?_
  refine mr_iconst C (nI 0) 9 dX1_askAnew_8 rfl rfl ?_
  refine mr_callV C (c_ans0_1 E a b b2 (s.1, 0) (Nat.zero_le _) se sn be so lo he inn al go ro cr gn gu gr c (0) hc (by omega) hk) [0, 1, 2, 3, 4, 5, 6, 7, 8, 9, 10, 11] 0 1 12 dX1_askAnew_9 rfl mk_X1_answer mi_X1_answer ml_X1_21 rfl rfl rfl rfl rfl (Nat.le_of_ble_eq_true rfl) (by decide) (by decide) (by decide) rfl rfl (fun r w1 hpost => ?_)
  obtain ⟨rfl, rfl⟩ := hpost
  refine mr_w (wput_all _ _ 12 rfl rfl) ?_
  refine mr_iret C dX1_askAnew_12 rfl rfl (by decide) (by decide) hlen ?_
  rw [hO]
  exact ⟨rfl, rfl⟩

set_option maxRecDepth 20000 in
set_option maxHeartbeats 4000000 in
theorem c_ask0_2 (E : EG) (a : Nat → Nat) (b b2 : Nat) (s : TRC) (se sn be so lo he inn al go : FN) (ro cr gn gu gr : Int32) (c : Nat) (hc : c < 5) (hk : so c = nI 2) : Ctr E mX1_askAnew (9, 0, 0) [.ref (a b), .int (nI c), .int (nI 0)] (wQ E a b b2 s ++ wH E a b2 se sn be so lo he inn al go ro cr gn gu gr) (fun v w => v = some (.int (askV 2 0 c (he c) (lo c))) ∧ w = wQ E a b b2 (lvL (askT 2 0) (s.1, 0)) ++ wH E a b2 se sn be so lo he inn al go ro cr gn gu gr) := by
  refine Ctr.of (by decide) (Nat.le_of_ble_eq_true rfl) ?_
  intro Z hO hn C
  have hlen : zn Z ≤ 12 := by rw [hn]; exact Nat.le_of_ble_eq_true rfl
  refine mr_aload_n C 1 dX1_askAnew_0 rfl rfl ?_
  refine mr_iconst C (nI 0) 2 dX1_askAnew_1 rfl rfl ?_
  refine mr_put C 0 5 dX1_askAnew_2 rfl fs_X1_17 rfl rfl rfl (Nat.le_of_ble_eq_true rfl) ?_
  refine mr_w (ws' := wQ E a b b2 (s.1, 0) ++ wH E a b2 se sn be so lo he inn al go ro cr gn gu gr) rfl ?_
  refine mr_aload_n C 6 dX1_askAnew_5 rfl rfl ?_
  refine mr_iload_n C 7 dX1_askAnew_6 rfl rfl ?_
  refine mr_iload_n C 8 dX1_askAnew_7 rfl rfl ?_
  refine mr_iconst C (nI 0) 9 dX1_askAnew_8 rfl rfl ?_
  refine mr_callV C (c_ans0_2 E a b b2 (s.1, 0) (Nat.zero_le _) se sn be so lo he inn al go ro cr gn gu gr c (0) hc (by omega) hk) [0, 1, 2, 3, 4, 5, 6, 7, 8, 9, 10, 11] 0 1 12 dX1_askAnew_9 rfl mk_X1_answer mi_X1_answer ml_X1_21 rfl rfl rfl rfl rfl (Nat.le_of_ble_eq_true rfl) (by decide) (by decide) (by decide) rfl rfl (fun r w1 hpost => ?_)
  obtain ⟨rfl, rfl⟩ := hpost
  refine mr_w (wput_all _ _ 12 rfl rfl) ?_
  refine mr_iret C dX1_askAnew_12 rfl rfl (by decide) (by decide) hlen ?_
  rw [hO]
  exact ⟨rfl, rfl⟩

set_option maxRecDepth 20000 in
set_option maxHeartbeats 4000000 in
theorem c_ask0_3 (E : EG) (a : Nat → Nat) (b b2 : Nat) (s : TRC) (se sn be so lo he inn al go : FN) (ro cr gn gu gr : Int32) (c : Nat) (hc : c < 5) (hk : so c = nI 3) : Ctr E mX1_askAnew (9, 0, 0) [.ref (a b), .int (nI c), .int (nI 0)] (wQ E a b b2 s ++ wH E a b2 se sn be so lo he inn al go ro cr gn gu gr) (fun v w => v = some (.int (askV 3 0 c (he c) (lo c))) ∧ w = wQ E a b b2 (lvL (askT 3 0) (s.1, 0)) ++ wH E a b2 se sn be so lo he inn al go ro cr gn gu gr) := by
  refine Ctr.of (by decide) (Nat.le_of_ble_eq_true rfl) ?_
  intro Z hO hn C
  have hlen : zn Z ≤ 12 := by rw [hn]; exact Nat.le_of_ble_eq_true rfl
  refine mr_aload_n C 1 dX1_askAnew_0 rfl rfl ?_
  refine mr_iconst C (nI 0) 2 dX1_askAnew_1 rfl rfl ?_
  refine mr_put C 0 5 dX1_askAnew_2 rfl fs_X1_17 rfl rfl rfl (Nat.le_of_ble_eq_true rfl) ?_
  refine mr_w (ws' := wQ E a b b2 (s.1, 0) ++ wH E a b2 se sn be so lo he inn al go ro cr gn gu gr) rfl ?_
  refine mr_aload_n C 6 dX1_askAnew_5 rfl rfl ?_
  refine mr_iload_n C 7 dX1_askAnew_6 rfl rfl ?_
  refine mr_iload_n C 8 dX1_askAnew_7 rfl rfl ?_
  refine mr_iconst C (nI 0) 9 dX1_askAnew_8 rfl rfl ?_
  refine mr_callV C (c_ans0_3 E a b b2 (s.1, 0) (Nat.zero_le _) se sn be so lo he inn al go ro cr gn gu gr c (0) hc (by omega) hk) [0, 1, 2, 3, 4, 5, 6, 7, 8, 9, 10, 11] 0 1 12 dX1_askAnew_9 rfl mk_X1_answer mi_X1_answer ml_X1_21 rfl rfl rfl rfl rfl (Nat.le_of_ble_eq_true rfl) (by decide) (by decide) (by decide) rfl rfl (fun r w1 hpost => ?_)
  obtain ⟨rfl, rfl⟩ := hpost
  refine mr_w (wput_all _ _ 12 rfl rfl) ?_
  refine mr_iret C dX1_askAnew_12 rfl rfl (by decide) (by decide) hlen ?_
  rw [hO]
  exact ⟨rfl, rfl⟩

set_option maxRecDepth 20000 in
set_option maxHeartbeats 4000000 in
theorem c_ask0_4 (E : EG) (a : Nat → Nat) (b b2 : Nat) (s : TRC) (se sn be so lo he inn al go : FN) (ro cr gn gu gr : Int32) (c : Nat) (hc : c < 5) (hk : so c = nI 4) : Ctr E mX1_askAnew (9, 0, 0) [.ref (a b), .int (nI c), .int (nI 0)] (wQ E a b b2 s ++ wH E a b2 se sn be so lo he inn al go ro cr gn gu gr) (fun v w => v = some (.int (askV 4 0 c (he c) (lo c))) ∧ w = wQ E a b b2 (lvL (askT 4 0) (s.1, 0)) ++ wH E a b2 se sn be so lo he inn al go ro cr gn gu gr) := by
  refine Ctr.of (by decide) (Nat.le_of_ble_eq_true rfl) ?_
  intro Z hO hn C
  have hlen : zn Z ≤ 12 := by rw [hn]; exact Nat.le_of_ble_eq_true rfl
  refine mr_aload_n C 1 dX1_askAnew_0 rfl rfl ?_
  refine mr_iconst C (nI 0) 2 dX1_askAnew_1 rfl rfl ?_
  refine mr_put C 0 5 dX1_askAnew_2 rfl fs_X1_17 rfl rfl rfl (Nat.le_of_ble_eq_true rfl) ?_
  refine mr_w (ws' := wQ E a b b2 (s.1, 0) ++ wH E a b2 se sn be so lo he inn al go ro cr gn gu gr) rfl ?_
  refine mr_aload_n C 6 dX1_askAnew_5 rfl rfl ?_
  refine mr_iload_n C 7 dX1_askAnew_6 rfl rfl ?_
  refine mr_iload_n C 8 dX1_askAnew_7 rfl rfl ?_
  refine mr_iconst C (nI 0) 9 dX1_askAnew_8 rfl rfl ?_
  refine mr_callV C (c_ans0_4 E a b b2 (s.1, 0) (Nat.zero_le _) se sn be so lo he inn al go ro cr gn gu gr c (0) hc (by omega) hk) [0, 1, 2, 3, 4, 5, 6, 7, 8, 9, 10, 11] 0 1 12 dX1_askAnew_9 rfl mk_X1_answer mi_X1_answer ml_X1_21 rfl rfl rfl rfl rfl (Nat.le_of_ble_eq_true rfl) (by decide) (by decide) (by decide) rfl rfl (fun r w1 hpost => ?_)
  obtain ⟨rfl, rfl⟩ := hpost
  refine mr_w (wput_all _ _ 12 rfl rfl) ?_
  refine mr_iret C dX1_askAnew_12 rfl rfl (by decide) (by decide) hlen ?_
  rw [hO]
  exact ⟨rfl, rfl⟩

set_option maxRecDepth 20000 in
set_option maxHeartbeats 4000000 in
theorem c_ask0_5 (E : EG) (a : Nat → Nat) (b b2 : Nat) (s : TRC) (se sn be so lo he inn al go : FN) (ro cr gn gu gr : Int32) (c : Nat) (hc : c < 5) (hk : so c = nI 5) : Ctr E mX1_askAnew (9, 0, 0) [.ref (a b), .int (nI c), .int (nI 0)] (wQ E a b b2 s ++ wH E a b2 se sn be so lo he inn al go ro cr gn gu gr) (fun v w => v = some (.int (askV 5 0 c (he c) (lo c))) ∧ w = wQ E a b b2 (lvL (askT 5 0) (s.1, 0)) ++ wH E a b2 se sn be so lo he inn al go ro cr gn gu gr) := by
  refine Ctr.of (by decide) (Nat.le_of_ble_eq_true rfl) ?_
  intro Z hO hn C
  have hlen : zn Z ≤ 12 := by rw [hn]; exact Nat.le_of_ble_eq_true rfl
  refine mr_aload_n C 1 dX1_askAnew_0 rfl rfl ?_
  refine mr_iconst C (nI 0) 2 dX1_askAnew_1 rfl rfl ?_
  refine mr_put C 0 5 dX1_askAnew_2 rfl fs_X1_17 rfl rfl rfl (Nat.le_of_ble_eq_true rfl) ?_
  refine mr_w (ws' := wQ E a b b2 (s.1, 0) ++ wH E a b2 se sn be so lo he inn al go ro cr gn gu gr) rfl ?_
  refine mr_aload_n C 6 dX1_askAnew_5 rfl rfl ?_
  refine mr_iload_n C 7 dX1_askAnew_6 rfl rfl ?_
  refine mr_iload_n C 8 dX1_askAnew_7 rfl rfl ?_
  refine mr_iconst C (nI 0) 9 dX1_askAnew_8 rfl rfl ?_
  refine mr_callV C (c_ans0_5 E a b b2 (s.1, 0) (Nat.zero_le _) se sn be so lo he inn al go ro cr gn gu gr c (0) hc (by omega) hk) [0, 1, 2, 3, 4, 5, 6, 7, 8, 9, 10, 11] 0 1 12 dX1_askAnew_9 rfl mk_X1_answer mi_X1_answer ml_X1_21 rfl rfl rfl rfl rfl (Nat.le_of_ble_eq_true rfl) (by decide) (by decide) (by decide) rfl rfl (fun r w1 hpost => ?_)
  obtain ⟨rfl, rfl⟩ := hpost
  refine mr_w (wput_all _ _ 12 rfl rfl) ?_
  refine mr_iret C dX1_askAnew_12 rfl rfl (by decide) (by decide) hlen ?_
  rw [hO]
  exact ⟨rfl, rfl⟩

set_option maxRecDepth 20000 in
set_option maxHeartbeats 4000000 in
theorem c_ask1_1 (E : EG) (a : Nat → Nat) (b b2 : Nat) (s : TRC) (se sn be so lo he inn al go : FN) (ro cr gn gu gr : Int32) (c : Nat) (hc : c < 5) (hk : so c = nI 1) : Ctr E mX1_askAnew (9, 0, 0) [.ref (a b), .int (nI c), .int (nI 1)] (wQ E a b b2 s ++ wH E a b2 se sn be so lo he inn al go ro cr gn gu gr) (fun v w => v = some (.int (askV 1 1 c (he c) (lo c))) ∧ w = wQ E a b b2 (lvL (askT 1 1) (s.1, 0)) ++ wH E a b2 se sn be so lo he inn al go ro cr gn gu gr) := by
  refine Ctr.of (by decide) (Nat.le_of_ble_eq_true rfl) ?_
  intro Z hO hn C
  have hlen : zn Z ≤ 12 := by rw [hn]; exact Nat.le_of_ble_eq_true rfl
  refine mr_aload_n C 1 dX1_askAnew_0 rfl rfl ?_
  refine mr_iconst C (nI 0) 2 dX1_askAnew_1 rfl rfl ?_
  refine mr_put C 0 5 dX1_askAnew_2 rfl fs_X1_17 rfl rfl rfl (Nat.le_of_ble_eq_true rfl) ?_
  refine mr_w (ws' := wQ E a b b2 (s.1, 0) ++ wH E a b2 se sn be so lo he inn al go ro cr gn gu gr) rfl ?_
  refine mr_aload_n C 6 dX1_askAnew_5 rfl rfl ?_
  refine mr_iload_n C 7 dX1_askAnew_6 rfl rfl ?_
  refine mr_iload_n C 8 dX1_askAnew_7 rfl rfl ?_
  refine mr_iconst C (nI 0) 9 dX1_askAnew_8 rfl rfl ?_
  refine mr_callV C (c_ans1_1 E a b b2 (s.1, 0) (Nat.zero_le _) se sn be so lo he inn al go ro cr gn gu gr c (0) hc (by omega) hk) [0, 1, 2, 3, 4, 5, 6, 7, 8, 9, 10, 11] 0 1 12 dX1_askAnew_9 rfl mk_X1_answer mi_X1_answer ml_X1_21 rfl rfl rfl rfl rfl (Nat.le_of_ble_eq_true rfl) (by decide) (by decide) (by decide) rfl rfl (fun r w1 hpost => ?_)
  obtain ⟨rfl, rfl⟩ := hpost
  refine mr_w (wput_all _ _ 12 rfl rfl) ?_
  refine mr_iret C dX1_askAnew_12 rfl rfl (by decide) (by decide) hlen ?_
  rw [hO]
  exact ⟨rfl, rfl⟩

set_option maxRecDepth 20000 in
set_option maxHeartbeats 4000000 in
theorem c_ask1_2 (E : EG) (a : Nat → Nat) (b b2 : Nat) (s : TRC) (se sn be so lo he inn al go : FN) (ro cr gn gu gr : Int32) (c : Nat) (hc : c < 5) (hk : so c = nI 2) : Ctr E mX1_askAnew (9, 0, 0) [.ref (a b), .int (nI c), .int (nI 1)] (wQ E a b b2 s ++ wH E a b2 se sn be so lo he inn al go ro cr gn gu gr) (fun v w => v = some (.int (askV 2 1 c (he c) (lo c))) ∧ w = wQ E a b b2 (lvL (askT 2 1) (s.1, 0)) ++ wH E a b2 se sn be so lo he inn al go ro cr gn gu gr) := by
  refine Ctr.of (by decide) (Nat.le_of_ble_eq_true rfl) ?_
  intro Z hO hn C
  have hlen : zn Z ≤ 12 := by rw [hn]; exact Nat.le_of_ble_eq_true rfl
  refine mr_aload_n C 1 dX1_askAnew_0 rfl rfl ?_
  refine mr_iconst C (nI 0) 2 dX1_askAnew_1 rfl rfl ?_
  refine mr_put C 0 5 dX1_askAnew_2 rfl fs_X1_17 rfl rfl rfl (Nat.le_of_ble_eq_true rfl) ?_
  refine mr_w (ws' := wQ E a b b2 (s.1, 0) ++ wH E a b2 se sn be so lo he inn al go ro cr gn gu gr) rfl ?_
  refine mr_aload_n C 6 dX1_askAnew_5 rfl rfl ?_
  refine mr_iload_n C 7 dX1_askAnew_6 rfl rfl ?_
  refine mr_iload_n C 8 dX1_askAnew_7 rfl rfl ?_
  refine mr_iconst C (nI 0) 9 dX1_askAnew_8 rfl rfl ?_
  refine mr_callV C (c_ans1_2 E a b b2 (s.1, 0) (Nat.zero_le _) se sn be so lo he inn al go ro cr gn gu gr c (0) hc (by omega) hk) [0, 1, 2, 3, 4, 5, 6, 7, 8, 9, 10, 11] 0 1 12 dX1_askAnew_9 rfl mk_X1_answer mi_X1_answer ml_X1_21 rfl rfl rfl rfl rfl (Nat.le_of_ble_eq_true rfl) (by decide) (by decide) (by decide) rfl rfl (fun r w1 hpost => ?_)
  obtain ⟨rfl, rfl⟩ := hpost
  refine mr_w (wput_all _ _ 12 rfl rfl) ?_
  refine mr_iret C dX1_askAnew_12 rfl rfl (by decide) (by decide) hlen ?_
  rw [hO]
  exact ⟨rfl, rfl⟩

set_option maxRecDepth 20000 in
set_option maxHeartbeats 4000000 in
theorem c_ask1_3 (E : EG) (a : Nat → Nat) (b b2 : Nat) (s : TRC) (se sn be so lo he inn al go : FN) (ro cr gn gu gr : Int32) (c : Nat) (hc : c < 5) (hk : so c = nI 3) : Ctr E mX1_askAnew (9, 0, 0) [.ref (a b), .int (nI c), .int (nI 1)] (wQ E a b b2 s ++ wH E a b2 se sn be so lo he inn al go ro cr gn gu gr) (fun v w => v = some (.int (askV 3 1 c (he c) (lo c))) ∧ w = wQ E a b b2 (lvL (askT 3 1) (s.1, 0)) ++ wH E a b2 se sn be so lo he inn al go ro cr gn gu gr) := by
  refine Ctr.of (by decide) (Nat.le_of_ble_eq_true rfl) ?_
  intro Z hO hn C
  have hlen : zn Z ≤ 12 := by rw [hn]; exact Nat.le_of_ble_eq_true rfl
  refine mr_aload_n C 1 dX1_askAnew_0 rfl rfl ?_
  refine mr_iconst C (nI 0) 2 dX1_askAnew_1 rfl rfl ?_
  refine mr_put C 0 5 dX1_askAnew_2 rfl fs_X1_17 rfl rfl rfl (Nat.le_of_ble_eq_true rfl) ?_
  refine mr_w (ws' := wQ E a b b2 (s.1, 0) ++ wH E a b2 se sn be so lo he inn al go ro cr gn gu gr) rfl ?_
  refine mr_aload_n C 6 dX1_askAnew_5 rfl rfl ?_
  refine mr_iload_n C 7 dX1_askAnew_6 rfl rfl ?_
  refine mr_iload_n C 8 dX1_askAnew_7 rfl rfl ?_
  refine mr_iconst C (nI 0) 9 dX1_askAnew_8 rfl rfl ?_
  refine mr_callV C (c_ans1_3 E a b b2 (s.1, 0) (Nat.zero_le _) se sn be so lo he inn al go ro cr gn gu gr c (0) hc (by omega) hk) [0, 1, 2, 3, 4, 5, 6, 7, 8, 9, 10, 11] 0 1 12 dX1_askAnew_9 rfl mk_X1_answer mi_X1_answer ml_X1_21 rfl rfl rfl rfl rfl (Nat.le_of_ble_eq_true rfl) (by decide) (by decide) (by decide) rfl rfl (fun r w1 hpost => ?_)
  obtain ⟨rfl, rfl⟩ := hpost
  refine mr_w (wput_all _ _ 12 rfl rfl) ?_
  refine mr_iret C dX1_askAnew_12 rfl rfl (by decide) (by decide) hlen ?_
  rw [hO]
  exact ⟨rfl, rfl⟩

set_option maxRecDepth 20000 in
set_option maxHeartbeats 4000000 in
theorem c_ask1_4 (E : EG) (a : Nat → Nat) (b b2 : Nat) (s : TRC) (se sn be so lo he inn al go : FN) (ro cr gn gu gr : Int32) (c : Nat) (hc : c < 5) (hk : so c = nI 4) : Ctr E mX1_askAnew (9, 0, 0) [.ref (a b), .int (nI c), .int (nI 1)] (wQ E a b b2 s ++ wH E a b2 se sn be so lo he inn al go ro cr gn gu gr) (fun v w => v = some (.int (askV 4 1 c (he c) (lo c))) ∧ w = wQ E a b b2 (lvL (askT 4 1) (s.1, 0)) ++ wH E a b2 se sn be so lo he inn al go ro cr gn gu gr) := by
  refine Ctr.of (by decide) (Nat.le_of_ble_eq_true rfl) ?_
  intro Z hO hn C
  have hlen : zn Z ≤ 12 := by rw [hn]; exact Nat.le_of_ble_eq_true rfl
  refine mr_aload_n C 1 dX1_askAnew_0 rfl rfl ?_
  refine mr_iconst C (nI 0) 2 dX1_askAnew_1 rfl rfl ?_
  refine mr_put C 0 5 dX1_askAnew_2 rfl fs_X1_17 rfl rfl rfl (Nat.le_of_ble_eq_true rfl) ?_
  refine mr_w (ws' := wQ E a b b2 (s.1, 0) ++ wH E a b2 se sn be so lo he inn al go ro cr gn gu gr) rfl ?_
  refine mr_aload_n C 6 dX1_askAnew_5 rfl rfl ?_
  refine mr_iload_n C 7 dX1_askAnew_6 rfl rfl ?_
  refine mr_iload_n C 8 dX1_askAnew_7 rfl rfl ?_
  refine mr_iconst C (nI 0) 9 dX1_askAnew_8 rfl rfl ?_
  refine mr_callV C (c_ans1_4 E a b b2 (s.1, 0) (Nat.zero_le _) se sn be so lo he inn al go ro cr gn gu gr c (0) hc (by omega) hk) [0, 1, 2, 3, 4, 5, 6, 7, 8, 9, 10, 11] 0 1 12 dX1_askAnew_9 rfl mk_X1_answer mi_X1_answer ml_X1_21 rfl rfl rfl rfl rfl (Nat.le_of_ble_eq_true rfl) (by decide) (by decide) (by decide) rfl rfl (fun r w1 hpost => ?_)
  obtain ⟨rfl, rfl⟩ := hpost
  refine mr_w (wput_all _ _ 12 rfl rfl) ?_
  refine mr_iret C dX1_askAnew_12 rfl rfl (by decide) (by decide) hlen ?_
  rw [hO]
  exact ⟨rfl, rfl⟩

set_option maxRecDepth 20000 in
set_option maxHeartbeats 4000000 in
theorem c_ask1_5 (E : EG) (a : Nat → Nat) (b b2 : Nat) (s : TRC) (se sn be so lo he inn al go : FN) (ro cr gn gu gr : Int32) (c : Nat) (hc : c < 5) (hk : so c = nI 5) : Ctr E mX1_askAnew (9, 0, 0) [.ref (a b), .int (nI c), .int (nI 1)] (wQ E a b b2 s ++ wH E a b2 se sn be so lo he inn al go ro cr gn gu gr) (fun v w => v = some (.int (askV 5 1 c (he c) (lo c))) ∧ w = wQ E a b b2 (lvL (askT 5 1) (s.1, 0)) ++ wH E a b2 se sn be so lo he inn al go ro cr gn gu gr) := by
  refine Ctr.of (by decide) (Nat.le_of_ble_eq_true rfl) ?_
  intro Z hO hn C
  have hlen : zn Z ≤ 12 := by rw [hn]; exact Nat.le_of_ble_eq_true rfl
  refine mr_aload_n C 1 dX1_askAnew_0 rfl rfl ?_
  refine mr_iconst C (nI 0) 2 dX1_askAnew_1 rfl rfl ?_
  refine mr_put C 0 5 dX1_askAnew_2 rfl fs_X1_17 rfl rfl rfl (Nat.le_of_ble_eq_true rfl) ?_
  refine mr_w (ws' := wQ E a b b2 (s.1, 0) ++ wH E a b2 se sn be so lo he inn al go ro cr gn gu gr) rfl ?_
  refine mr_aload_n C 6 dX1_askAnew_5 rfl rfl ?_
  refine mr_iload_n C 7 dX1_askAnew_6 rfl rfl ?_
  refine mr_iload_n C 8 dX1_askAnew_7 rfl rfl ?_
  refine mr_iconst C (nI 0) 9 dX1_askAnew_8 rfl rfl ?_
  refine mr_callV C (c_ans1_5 E a b b2 (s.1, 0) (Nat.zero_le _) se sn be so lo he inn al go ro cr gn gu gr c (0) hc (by omega) hk) [0, 1, 2, 3, 4, 5, 6, 7, 8, 9, 10, 11] 0 1 12 dX1_askAnew_9 rfl mk_X1_answer mi_X1_answer ml_X1_21 rfl rfl rfl rfl rfl (Nat.le_of_ble_eq_true rfl) (by decide) (by decide) (by decide) rfl rfl (fun r w1 hpost => ?_)
  obtain ⟨rfl, rfl⟩ := hpost
  refine mr_w (wput_all _ _ 12 rfl rfl) ?_
  refine mr_iret C dX1_askAnew_12 rfl rfl (by decide) (by decide) hlen ?_
  rw [hO]
  exact ⟨rfl, rfl⟩

theorem c_askAnew (E : EG) (a : Nat → Nat) (b b2 : Nat) (s : TRC) (se sn be so lo he inn al go : FN) (ro cr gn gu gr : Int32) (c : Nat) (hc : c < 5) (k x : Nat) (hk1 : 1 ≤ k) (hk5 : k ≤ 5) (hx : x ≤ 1) (hk : so c = nI k) : Ctr E mX1_askAnew (9, 0, 0) [.ref (a b), .int (nI c), .int (nI x)] (wQ E a b b2 s ++ wH E a b2 se sn be so lo he inn al go ro cr gn gu gr) (fun v w => v = some (.int (askV k x c (he c) (lo c))) ∧ w = wQ E a b b2 (lvL (askT k x) (s.1, 0)) ++ wH E a b2 se sn be so lo he inn al go ro cr gn gu gr) := by
  have h1 : x = 0 ∨ x = 1 := by omega
  have h2 : k = 1 ∨ k = 2 ∨ k = 3 ∨ k = 4 ∨ k = 5 := by omega
  rcases h1 with rfl | rfl <;> rcases h2 with rfl | rfl | rfl | rfl | rfl
  · exact c_ask0_1 E a b b2 s se sn be so lo he inn al go ro cr gn gu gr c hc hk
  · exact c_ask0_2 E a b b2 s se sn be so lo he inn al go ro cr gn gu gr c hc hk
  · exact c_ask0_3 E a b b2 s se sn be so lo he inn al go ro cr gn gu gr c hc hk
  · exact c_ask0_4 E a b b2 s se sn be so lo he inn al go ro cr gn gu gr c hc hk
  · exact c_ask0_5 E a b b2 s se sn be so lo he inn al go ro cr gn gu gr c hc hk
  · exact c_ask1_1 E a b b2 s se sn be so lo he inn al go ro cr gn gu gr c hc hk
  · exact c_ask1_2 E a b b2 s se sn be so lo he inn al go ro cr gn gu gr c hc hk
  · exact c_ask1_3 E a b b2 s se sn be so lo he inn al go ro cr gn gu gr c hc hk
  · exact c_ask1_4 E a b b2 s se sn be so lo he inn al go ro cr gn gu gr c hc hk
  · exact c_ask1_5 E a b b2 s se sn be so lo he inn al go ro cr gn gu gr c hc hk
