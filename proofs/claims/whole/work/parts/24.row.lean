/-! Row -/
set_option maxRecDepth 20000 in
set_option maxHeartbeats 4000000 in
theorem c_make (E : EG) (a : Nat → Nat) (b : Nat) (it : FN) (th ln sz x : Int32) (m : Nat) (hm : m ≤ 40) : Ctr E mX5_make (1, 0, 0) [.ref (a b), .int x, .int (nI m)] (wR E a b it th ln sz) (fun v w => ∃ f : FN, v = none ∧ w = wR E a b f (nI 1) x (nI m) ∧ ∀ j, j < m → f j = nI 0) := by
  refine Ctr.of (by decide) (Nat.le_of_ble_eq_true rfl) ?_
  intro Z hO hn C
  have hlen : zn Z ≤ 2 := by rw [hn]; exact Nat.le_of_ble_eq_true rfl
  have L : ∀ i, i ≤ m → ∀ f : FN, (∀ j, j < i → f j = nI 0) → V E mX5_make (1, 0, 0) Z 0 0 (wR E a b f (nI 1) x (nI m)) [(0, .ref (a b)), (1, .int x), (2, .int (nI m)), (3, .int (nI i))] [] 17 := by
    refine lp_up m ?_
    intro i hi ih f hf
    refine mr_iload_n C 18 dX5_make_17 rfl rfl ?_
    refine mr_iload_n C 19 dX5_make_18 rfl rfl ?_
    refine mr_icmpge C 35 22 dX5_make_19 (by decide) rfl (fun c_19 => ?_) (fun c_19 => ?_)
    · rw [nI_leI (by omega) (by omega)] at c_19
      refine mr_vret C dX5_make_35 rfl (by decide) (by decide) hlen ?_
      rw [hO]
      exact ⟨f, rfl, rfl, fun j hj => hf j (by omega)⟩
    · rw [nI_leI (by omega) (by omega)] at c_19
      refine mr_aload_n C 23 dX5_make_22 rfl rfl ?_
      refine mr_get C 0 26 dX5_make_23 rfl fl_X5_9 rfl rfl ?_
      refine mr_iload_n C 27 dX5_make_26 rfl rfl ?_
      refine mr_iconst C (nI 0) 28 dX5_make_27 rfl rfl ?_
      refine mr_iast C 1 i 29 dX5_make_28 rfl rfl rfl (by omega) (by decide) ?_
      refine mr_iinc C (nI (i + 1)) 32 dX5_make_29 rfl rfl (by decide) (nI_add i 1) ?_
      refine mr_goto C 17 dX5_make_32 (by decide) ?_
      refine mr_at (ih (by omega) _ ?_) rfl rfl rfl
      intro j hj
      rw [up_at]
      by_cases e : j = i
      · rw [if_pos e]
      · rw [if_neg e]; exact hf j (by omega)
  refine mr_aload_n C 1 dX5_make_0 rfl rfl ?_
  refine mr_iconst C (nI 1) 2 dX5_make_1 rfl rfl ?_
  refine mr_put C 0 5 dX5_make_2 rfl fs_X5_15 rfl rfl rfl (Nat.le_of_ble_eq_true rfl) ?_
  refine mr_aload_n C 6 dX5_make_5 rfl rfl ?_
  refine mr_iload_n C 7 dX5_make_6 rfl rfl ?_
  refine mr_put C 0 10 dX5_make_7 rfl fs_X5_19 rfl rfl rfl (Nat.le_of_ble_eq_true rfl) ?_
  refine mr_aload_n C 11 dX5_make_10 rfl rfl ?_
  refine mr_iload_n C 12 dX5_make_11 rfl rfl ?_
  refine mr_put C 0 15 dX5_make_12 rfl fs_X5_23 rfl rfl rfl (Nat.le_of_ble_eq_true rfl) ?_
  refine mr_iconst C (nI 0) 16 dX5_make_15 rfl rfl ?_
  refine mr_istore_n C 17 dX5_make_16 rfl rfl (by decide) ?_
  exact mr_at (L 0 (Nat.zero_le _) it (fun j h => absurd h (Nat.not_lt_zero j))) rfl rfl rfl

set_option maxRecDepth 20000 in
set_option maxHeartbeats 4000000 in
theorem c_holds (E : EG) (a : Nat → Nat) (b : Nat) (it : FN) (th ln sz i n : Int32) : Ctr E mX5_holds (1, 0, 0) [.ref (a b), .int i, .int n] (wR E a b it th ln sz) (fun v w => v = some (.int (bI (¬ n < 0 ∧ ¬ i < 0 ∧ n ≤ sz ∧ i ≤ sz - n))) ∧ w = wR E a b it th ln sz) := by
  refine Ctr.of (by decide) (Nat.le_of_ble_eq_true rfl) ?_
  intro Z hO hn C
  have hlen : zn Z ≤ 2 := by rw [hn]; exact Nat.le_of_ble_eq_true rfl
  refine mr_iload_n C 1 dX5_holds_0 rfl rfl ?_
  refine mr_iflt C 30 4 dX5_holds_1 (by decide) rfl (fun c_1 => ?_) (fun c_1 => ?_)
  · refine mr_iconst C (nI 0) 31 dX5_holds_30 rfl rfl ?_
    refine mr_iret C dX5_holds_31 rfl rfl (by decide) (by decide) hlen ?_
    rw [hO]
    exact ⟨congrArg (fun z => some (Value.int z)) (bI_f (fun h => h.1 c_1)), rfl⟩
  · refine mr_iload_n C 5 dX5_holds_4 rfl rfl ?_
    refine mr_iflt C 30 8 dX5_holds_5 (by decide) rfl (fun c_5 => ?_) (fun c_5 => ?_)
    · refine mr_iconst C (nI 0) 31 dX5_holds_30 rfl rfl ?_
      refine mr_iret C dX5_holds_31 rfl rfl (by decide) (by decide) hlen ?_
      rw [hO]
      exact ⟨congrArg (fun z => some (Value.int z)) (bI_f (fun h => h.2.1 c_5)), rfl⟩
    · refine mr_iload_n C 9 dX5_holds_8 rfl rfl ?_
      refine mr_aload_n C 10 dX5_holds_9 rfl rfl ?_
      refine mr_get C 0 13 dX5_holds_10 rfl fl_X5_23 rfl rfl ?_
      refine mr_icmpgt C 30 16 dX5_holds_13 (by decide) rfl (fun c_13 => ?_) (fun c_13 => ?_)
      · refine mr_iconst C (nI 0) 31 dX5_holds_30 rfl rfl ?_
        refine mr_iret C dX5_holds_31 rfl rfl (by decide) (by decide) hlen ?_
        rw [hO]
        exact ⟨congrArg (fun z => some (Value.int z)) (bI_f (fun h => Int32.not_lt.mpr h.2.2.1 c_13)), rfl⟩
      · refine mr_iload_n C 17 dX5_holds_16 rfl rfl ?_
        refine mr_aload_n C 18 dX5_holds_17 rfl rfl ?_
        refine mr_get C 0 21 dX5_holds_18 rfl fl_X5_23 rfl rfl ?_
        refine mr_iload_n C 22 dX5_holds_21 rfl rfl ?_
        refine mr_isub C _ 23 dX5_holds_22 rfl rfl ?_
        refine mr_icmpgt C 30 26 dX5_holds_23 (by decide) rfl (fun c_23 => ?_) (fun c_23 => ?_)
        · refine mr_iconst C (nI 0) 31 dX5_holds_30 rfl rfl ?_
          refine mr_iret C dX5_holds_31 rfl rfl (by decide) (by decide) hlen ?_
          rw [hO]
          exact ⟨congrArg (fun z => some (Value.int z)) (bI_f (fun h => Int32.not_lt.mpr h.2.2.2 c_23)), rfl⟩
        · refine mr_iconst C (nI 1) 27 dX5_holds_26 rfl rfl ?_
          refine mr_goto C 31 dX5_holds_27 (by decide) ?_
          refine mr_iret C dX5_holds_31 rfl rfl (by decide) (by decide) hlen ?_
          rw [hO]
          exact ⟨congrArg (fun z => some (Value.int z)) (bI_t ⟨c_1, c_5, Int32.not_lt.mp c_13, Int32.not_lt.mp c_23⟩), rfl⟩

def kpS (ln v : Int32) : Int32 := if ln = 0 then v.toInt8.toInt32 else if ln = nI 1 then v.toInt16.toInt32 else v
set_option maxRecDepth 20000 in
set_option maxHeartbeats 4000000 in
theorem c_put (E : EG) (a : Nat → Nat) (b : Nat) (it : FN) (th ln sz x : Int32) (j : Nat) (hj : j < 40) : Ctr E mX5_put (1, 0, 0) [.ref (a b), .int (nI j), .int x] (wR E a b it th ln sz) (fun v w => v = some (.int (kpS ln x)) ∧ w = wR E a b (upd it j (kpS ln x)) th ln sz) := by
  refine Ctr.of (by decide) (Nat.le_of_ble_eq_true rfl) ?_
  intro Z hO hn C
  have hlen : zn Z ≤ 2 := by rw [hn]; exact Nat.le_of_ble_eq_true rfl
  refine mr_aload_n C 1 dX5_put_0 rfl rfl ?_
  refine mr_get C 0 4 dX5_put_1 rfl fl_X5_19 rfl rfl ?_
  refine mr_ifne C 12 7 dX5_put_4 (by decide) rfl (fun c_4 => ?_) (fun c_4 => ?_)
  · refine mr_aload_n C 13 dX5_put_12 rfl rfl ?_
    refine mr_get C 0 16 dX5_put_13 rfl fl_X5_19 rfl rfl ?_
    refine mr_iconst C (nI 1) 17 dX5_put_16 rfl rfl ?_
    refine mr_icmpne C 25 20 dX5_put_17 (by decide) rfl (fun c_17 => ?_) (fun c_17 => ?_)
    · refine mr_iload_n C 26 dX5_put_25 rfl rfl ?_
      refine mr_istore_n C 27 dX5_put_26 rfl rfl (by decide) ?_
      refine mr_aload_n C 28 dX5_put_27 rfl rfl ?_
      refine mr_get C 0 31 dX5_put_28 rfl fl_X5_9 rfl rfl ?_
      refine mr_iload_n C 32 dX5_put_31 rfl rfl ?_
      refine mr_iload_n C 33 dX5_put_32 rfl rfl ?_
      refine mr_iast C 1 j 34 dX5_put_33 rfl rfl rfl (by omega) (by decide) ?_
      refine mr_iload_n C 35 dX5_put_34 rfl rfl ?_
      refine mr_iret C dX5_put_35 rfl rfl (by decide) (by decide) hlen ?_
      rw [hO]
      have e : kpS ln x = _ := (if_neg c_4).trans (if_neg c_17)
      exact ⟨congrArg (fun z => some (Value.int z)) e.symm, by rw [e]; rfl⟩
    · refine mr_iload_n C 21 dX5_put_20 rfl rfl ?_
      refine mr_i2s C _ 22 dX5_put_21 rfl rfl ?_
      refine mr_goto C 26 dX5_put_22 (by decide) ?_
      refine mr_istore_n C 27 dX5_put_26 rfl rfl (by decide) ?_
      refine mr_aload_n C 28 dX5_put_27 rfl rfl ?_
      refine mr_get C 0 31 dX5_put_28 rfl fl_X5_9 rfl rfl ?_
      refine mr_iload_n C 32 dX5_put_31 rfl rfl ?_
      refine mr_iload_n C 33 dX5_put_32 rfl rfl ?_
      refine mr_iast C 1 j 34 dX5_put_33 rfl rfl rfl (by omega) (by decide) ?_
      refine mr_iload_n C 35 dX5_put_34 rfl rfl ?_
      refine mr_iret C dX5_put_35 rfl rfl (by decide) (by decide) hlen ?_
      rw [hO]
      have e : kpS ln x = _ := (if_neg c_4).trans (if_pos c_17)
      exact ⟨congrArg (fun z => some (Value.int z)) e.symm, by rw [e]; rfl⟩
  · refine mr_iload_n C 8 dX5_put_7 rfl rfl ?_
    refine mr_i2b C _ 9 dX5_put_8 rfl rfl ?_
    refine mr_goto C 26 dX5_put_9 (by decide) ?_
    refine mr_istore_n C 27 dX5_put_26 rfl rfl (by decide) ?_
    refine mr_aload_n C 28 dX5_put_27 rfl rfl ?_
    refine mr_get C 0 31 dX5_put_28 rfl fl_X5_9 rfl rfl ?_
    refine mr_iload_n C 32 dX5_put_31 rfl rfl ?_
    refine mr_iload_n C 33 dX5_put_32 rfl rfl ?_
    refine mr_iast C 1 j 34 dX5_put_33 rfl rfl rfl (by omega) (by decide) ?_
    refine mr_iload_n C 35 dX5_put_34 rfl rfl ?_
    refine mr_iret C dX5_put_35 rfl rfl (by decide) (by decide) hlen ?_
    rw [hO]
    have e : kpS ln x = _ := if_pos c_4
    exact ⟨congrArg (fun z => some (Value.int z)) e.symm, by rw [e]; rfl⟩

set_option maxRecDepth 20000 in
set_option maxHeartbeats 4000000 in
theorem c_holdsSets (E : EG) (a : Nat → Nat) (b : Nat) (it : FN) (th ln sz e : Int32) (x m : Nat) (hm : x + m ≤ 40) : Ctr E mX5_holdsSets (1, 0, 0) [.ref (a b), .int (nI x), .int (nI m), .int e] (wR E a b it th ln sz) (fun v w => v = some (.int (bI (∀ j, j < m → ¬ it (x + j) < 0 ∧ it (x + j) < e))) ∧ w = wR E a b it th ln sz) := by
  refine Ctr.of (by decide) (Nat.le_of_ble_eq_true rfl) ?_
  intro Z hO hn C
  have hlen : zn Z ≤ 2 := by rw [hn]; exact Nat.le_of_ble_eq_true rfl
  have L : ∀ i, i ≤ m → (∀ j, j < i → ¬ it (x + j) < 0 ∧ it (x + j) < e) → V E mX5_holdsSets (1, 0, 0) Z 0 0 (wR E a b it th ln sz) [(0, .ref (a b)), (1, .int (nI x)), (2, .int (nI m)), (3, .int e), (4, .int (nI (x + i)))] [] 3 := by
    refine lp_up m ?_
    intro i hi ih hf
    refine mr_iload C 5 dX5_holdsSets_3 rfl rfl ?_
    refine mr_iload_n C 6 dX5_holdsSets_5 rfl rfl ?_
    refine mr_iload_n C 7 dX5_holdsSets_6 rfl rfl ?_
    refine mr_iadd C (nI (x + m)) 8 dX5_holdsSets_7 rfl (nI_add _ _) ?_
    refine mr_icmpge C 40 11 dX5_holdsSets_8 (by decide) rfl (fun c_8 => ?_) (fun c_8 => ?_)
    · rw [nI_leI (by omega) (by omega)] at c_8
      refine mr_iconst C (nI 1) 41 dX5_holdsSets_40 rfl rfl ?_
      refine mr_iret C dX5_holdsSets_41 rfl rfl (by decide) (by decide) hlen ?_
      rw [hO]
      obtain rfl : i = m := by omega
      exact ⟨congrArg (fun z => some (Value.int z)) (bI_t hf), rfl⟩
    · rw [nI_leI (by omega) (by omega)] at c_8
      refine mr_aload_n C 12 dX5_holdsSets_11 rfl rfl ?_
      refine mr_get C 0 15 dX5_holdsSets_12 rfl fl_X5_9 rfl rfl ?_
      refine mr_iload C 17 dX5_holdsSets_15 rfl rfl ?_
      refine mr_iald C 1 (x + i) 18 dX5_holdsSets_17 rfl rfl rfl (by omega) (by decide) ?_
      refine mr_iflt C 32 21 dX5_holdsSets_18 (by decide) rfl (fun c_18 => ?_) (fun c_18 => ?_)
      · refine mr_iconst C (nI 0) 33 dX5_holdsSets_32 rfl rfl ?_
        refine mr_iret C dX5_holdsSets_33 rfl rfl (by decide) (by decide) hlen ?_
        rw [hO]
        exact ⟨congrArg (fun z => some (Value.int z)) (bI_f (fun h => (h i (by omega)).1 c_18)), rfl⟩
      · refine mr_aload_n C 22 dX5_holdsSets_21 rfl rfl ?_
        refine mr_get C 0 25 dX5_holdsSets_22 rfl fl_X5_9 rfl rfl ?_
        refine mr_iload C 27 dX5_holdsSets_25 rfl rfl ?_
        refine mr_iald C 1 (x + i) 28 dX5_holdsSets_27 rfl rfl rfl (by omega) (by decide) ?_
        refine mr_iload_n C 29 dX5_holdsSets_28 rfl rfl ?_
        refine mr_icmplt C 34 32 dX5_holdsSets_29 (by decide) rfl (fun c_29 => ?_) (fun c_29 => ?_)
        · refine mr_iinc C (nI (x + i + 1)) 37 dX5_holdsSets_34 rfl rfl (by decide) (nI_add (x + i) 1) ?_
          refine mr_goto C 3 dX5_holdsSets_37 (by decide) ?_
          refine mr_at (ih (by omega) ?_) rfl rfl rfl
          intro j hj
          by_cases e2 : j = i
          · subst e2; exact ⟨c_18, c_29⟩
          · exact hf j (by omega)
        · refine mr_iconst C (nI 0) 33 dX5_holdsSets_32 rfl rfl ?_
          refine mr_iret C dX5_holdsSets_33 rfl rfl (by decide) (by decide) hlen ?_
          rw [hO]
          exact ⟨congrArg (fun z => some (Value.int z)) (bI_f (fun h => c_29 (h i (by omega)).2)), rfl⟩
  refine mr_iload_n C 1 dX5_holdsSets_0 rfl rfl ?_
  refine mr_istore C 3 dX5_holdsSets_1 rfl (by decide) ?_
  exact mr_at (L 0 (Nat.zero_le _) (fun j h => absurd h (Nat.not_lt_zero j))) rfl rfl rfl

def cbS (it : FN) (x : Nat) (b : Int32) : Nat → Int32
  | 0 => nI 0
  | m + 1 => cbS it x b m + ((it (x + m) >>> (b &&& 31)) &&& nI 1)
set_option maxRecDepth 20000 in
set_option maxHeartbeats 4000000 in
theorem c_countBit (E : EG) (a : Nat → Nat) (b : Nat) (it : FN) (th ln sz e : Int32) (x m : Nat) (hm : x + m ≤ 40) : Ctr E mX5_countBit (1, 0, 0) [.ref (a b), .int (nI x), .int (nI m), .int e] (wR E a b it th ln sz) (fun v w => v = some (.int (cbS it x e m)) ∧ w = wR E a b it th ln sz) := by
  refine Ctr.of (by decide) (Nat.le_of_ble_eq_true rfl) ?_
  intro Z hO hn C
  have hlen : zn Z ≤ 2 := by rw [hn]; exact Nat.le_of_ble_eq_true rfl
  have L : ∀ i, i ≤ m → V E mX5_countBit (1, 0, 0) Z 0 0 (wR E a b it th ln sz) [(0, .ref (a b)), (1, .int (nI x)), (2, .int (nI m)), (3, .int e), (4, .int (cbS it x e i)), (5, .int (nI (x + i)))] [] 6 := by
    refine lp_up m ?_
    intro i hi ih
    refine mr_iload C 8 dX5_countBit_6 rfl rfl ?_
    refine mr_iload_n C 9 dX5_countBit_8 rfl rfl ?_
    refine mr_iload_n C 10 dX5_countBit_9 rfl rfl ?_
    refine mr_iadd C (nI (x + m)) 11 dX5_countBit_10 rfl (nI_add _ _) ?_
    refine mr_icmpge C 36 14 dX5_countBit_11 (by decide) rfl (fun c_11 => ?_) (fun c_11 => ?_)
    · rw [nI_leI (by omega) (by omega)] at c_11
      refine mr_iload C 38 dX5_countBit_36 rfl rfl ?_
      refine mr_iret C dX5_countBit_38 rfl rfl (by decide) (by decide) hlen ?_
      rw [hO]
      obtain rfl : i = m := by omega
      exact ⟨rfl, rfl⟩
    · rw [nI_leI (by omega) (by omega)] at c_11
      refine mr_iload C 16 dX5_countBit_14 rfl rfl ?_
      refine mr_aload_n C 17 dX5_countBit_16 rfl rfl ?_
      refine mr_get C 0 20 dX5_countBit_17 rfl fl_X5_9 rfl rfl ?_
      refine mr_iload C 22 dX5_countBit_20 rfl rfl ?_
      refine mr_iald C 1 (x + i) 23 dX5_countBit_22 rfl rfl rfl (by omega) (by decide) ?_
      refine mr_iload_n C 24 dX5_countBit_23 rfl rfl ?_
      refine mr_ishr C _ 25 dX5_countBit_24 rfl rfl ?_
      refine mr_iconst C (nI 1) 26 dX5_countBit_25 rfl rfl ?_
      refine mr_iand C _ 27 dX5_countBit_26 rfl rfl ?_
      refine mr_iadd C _ 28 dX5_countBit_27 rfl rfl ?_
      refine mr_istore C 30 dX5_countBit_28 rfl (by decide) ?_
      refine mr_iinc C (nI (x + i + 1)) 33 dX5_countBit_30 rfl rfl (by decide) (nI_add (x + i) 1) ?_
      refine mr_goto C 6 dX5_countBit_33 (by decide) ?_
      exact mr_at (ih (by omega)) rfl rfl rfl
  refine mr_iconst C (nI 0) 1 dX5_countBit_0 rfl rfl ?_
  refine mr_istore C 3 dX5_countBit_1 rfl (by decide) ?_
  refine mr_iload_n C 4 dX5_countBit_3 rfl rfl ?_
  refine mr_istore C 6 dX5_countBit_4 rfl (by decide) ?_
  exact mr_at (L 0 (Nat.zero_le _)) rfl rfl rfl

