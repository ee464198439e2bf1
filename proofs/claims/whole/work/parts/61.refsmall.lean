/-! the reference: smallest methods -/
set_option maxRecDepth 20000 in
set_option maxHeartbeats 4000000 in
theorem c_in (E : EG) (x lo hi : Int64) : Ctr E mX8_in (0, 0, 0) [.long x, .long lo, .long hi] ([]) (fun v w => v = some (.int (bI (lo.toInt ≤ x.toInt ∧ x.toInt ≤ hi.toInt))) ∧ w = []) := by
  refine Ctr.of (by decide) (Nat.le_of_ble_eq_true rfl) ?_
  intro Z hO hn C
  have hlen : zn Z ≤ 0 := by rw [hn]; exact Nat.le_of_ble_eq_true rfl
  refine mr_lload_n C 1 dX8_in_0 rfl rfl ?_
  refine mr_lload_n C 2 dX8_in_1 rfl rfl ?_
  refine mr_lcmp C 3 dX8_in_2 rfl ?_
  refine mr_iflt C 17 6 dX8_in_3 (by decide) rfl (fun c_3 => ?_) (fun c_3 => ?_)
  · rw [lcmp_lt] at c_3
    refine mr_iconst C (nI 0) 18 dX8_in_17 rfl rfl ?_
    refine mr_iret C dX8_in_18 rfl rfl (by decide) (by decide) hlen ?_
    rw [hO]
    exact ⟨congrArg (fun z => some (Value.int z)) (bI_f (by omega)), rfl⟩
  · rw [lcmp_lt] at c_3
    refine mr_lload_n C 7 dX8_in_6 rfl rfl ?_
    refine mr_lload C 9 dX8_in_7 rfl rfl ?_
    refine mr_lcmp C 10 dX8_in_9 rfl ?_
    refine mr_ifgt C 17 13 dX8_in_10 (by decide) rfl (fun c_10 => ?_) (fun c_10 => ?_)
    · rw [lcmp_gt] at c_10
      refine mr_iconst C (nI 0) 18 dX8_in_17 rfl rfl ?_
      refine mr_iret C dX8_in_18 rfl rfl (by decide) (by decide) hlen ?_
      rw [hO]
      exact ⟨congrArg (fun z => some (Value.int z)) (bI_f (by omega)), rfl⟩
    · rw [lcmp_gt] at c_10
      refine mr_iconst C (nI 1) 14 dX8_in_13 rfl rfl ?_
      refine mr_goto C 18 dX8_in_14 (by decide) ?_
      refine mr_iret C dX8_in_18 rfl rfl (by decide) (by decide) hlen ?_
      rw [hO]
      exact ⟨congrArg (fun z => some (Value.int z)) (bI_t ⟨by omega, by omega⟩), rfl⟩

theorem c_inK (E : EG) (x : Int32) (A B : Int) (lo hi : Int64) (hA : lo.toInt = A) (hB : hi.toInt = B) : Ctr E mX8_in (0, 0, 0) [.long x.toInt64, .long lo, .long hi] [] (fun v w => v = some (.int (bI (A ≤ x.toInt ∧ x.toInt ≤ B))) ∧ w = []) := by
  refine Ctr.imp (c_in E x.toInt64 lo hi) ?_
  rintro v w ⟨rfl, rfl⟩
  rw [tL, hA, hB]
  exact ⟨rfl, rfl⟩
theorem ends1 {R : Nat} (h : R < 2 ^ 30) : (nI R - nI 1).toInt64.toInt = (R : Int) - 1 := by
  rw [tL, pk_sub_toInt h (by decide)]; rfl
set_option maxRecDepth 20000 in
set_option maxHeartbeats 4000000 in
theorem c_m_isRow (E : EG) (x : Int32) : Ctr E mX8_isRow (1, 0, 0) [.int x] ([]) (fun v w => v = some (.int (bI (0 ≤ x.toInt ∧ x.toInt < 8))) ∧ w = []) := by
  refine Ctr.of (by decide) (Nat.le_of_ble_eq_true rfl) ?_
  intro Z hO hn C
  have hlen : zn Z ≤ 0 := by rw [hn]; exact Nat.le_of_ble_eq_true rfl
  refine mr_iload_n C 1 dX8_isRow_0 rfl rfl ?_
  refine mr_i2l C _ 2 dX8_isRow_1 rfl rfl ?_
  refine mr_lconst C 0 3 dX8_isRow_2 rfl rfl ?_
  refine mr_ldc2 C 6 dX8_isRow_3 rfl kc_X8_67 ?_
  refine mr_callS C (c_inK E x 0 7 _ _ rfl rfl) [] 9 dX8_isRow_6 rfl mk_X8_in ms_X8_in ml_X8_69 rfl rfl rfl rfl (Nat.le_of_ble_eq_true rfl) (by decide) (by decide) (by decide) (fun r w1 hpost => ?_)
  obtain ⟨rfl, rfl⟩ := hpost
  refine mr_w (ws' := []) rfl ?_
  refine mr_iret C dX8_isRow_9 rfl bI_nar (by decide) (by decide) hlen ?_
  rw [hO]
  exact ⟨congrArg (fun z => some (Value.int z)) (bI_cong (by omega)), rfl⟩

set_option maxRecDepth 20000 in
set_option maxHeartbeats 4000000 in
theorem c_m_isLetter (E : EG) (x : Int32) : Ctr E mX8_isLetter (0, 0, 0) [.int x] ([]) (fun v w => v = some (.int (bI (pL x))) ∧ w = []) := by
  refine Ctr.of (by decide) (Nat.le_of_ble_eq_true rfl) ?_
  intro Z hO hn C
  have hlen : zn Z ≤ 0 := by rw [hn]; exact Nat.le_of_ble_eq_true rfl
  refine mr_iload_n C 1 dX8_isLetter_0 rfl rfl ?_
  refine mr_bipush C (nI 97) 3 dX8_isLetter_1 rfl rfl ?_
  refine mr_icmplt C 16 6 dX8_isLetter_3 (by decide) rfl (fun c_3 => ?_) (fun c_3 => ?_)
  · refine mr_iconst C (nI 0) 17 dX8_isLetter_16 rfl rfl ?_
    refine mr_iret C dX8_isLetter_17 rfl rfl (by decide) (by decide) hlen ?_
    rw [hO]
    exact ⟨congrArg (fun z => some (Value.int z)) (bI_f (fun h => by first | exact absurd h.1 (Int32.not_le.mpr c_3) | exact absurd h.2 (Int32.not_le.mpr c_9))), rfl⟩
  · refine mr_iload_n C 7 dX8_isLetter_6 rfl rfl ?_
    refine mr_bipush C (nI 122) 9 dX8_isLetter_7 rfl rfl ?_
    refine mr_icmpgt C 16 12 dX8_isLetter_9 (by decide) rfl (fun c_9 => ?_) (fun c_9 => ?_)
    · refine mr_iconst C (nI 0) 17 dX8_isLetter_16 rfl rfl ?_
      refine mr_iret C dX8_isLetter_17 rfl rfl (by decide) (by decide) hlen ?_
      rw [hO]
      exact ⟨congrArg (fun z => some (Value.int z)) (bI_f (fun h => by first | exact absurd h.1 (Int32.not_le.mpr c_3) | exact absurd h.2 (Int32.not_le.mpr c_9))), rfl⟩
    · refine mr_iconst C (nI 1) 13 dX8_isLetter_12 rfl rfl ?_
      refine mr_goto C 17 dX8_isLetter_13 (by decide) ?_
      refine mr_iret C dX8_isLetter_17 rfl rfl (by decide) (by decide) hlen ?_
      rw [hO]
      exact ⟨congrArg (fun z => some (Value.int z)) (bI_t ⟨Int32.not_lt.mp c_3, Int32.not_lt.mp c_9⟩), rfl⟩

set_option maxRecDepth 20000 in
set_option maxHeartbeats 4000000 in
theorem c_m_isFigure (E : EG) (x : Int32) : Ctr E mX8_isFigure (0, 0, 0) [.int x] ([]) (fun v w => v = some (.int (bI (pF x))) ∧ w = []) := by
  refine Ctr.of (by decide) (Nat.le_of_ble_eq_true rfl) ?_
  intro Z hO hn C
  have hlen : zn Z ≤ 0 := by rw [hn]; exact Nat.le_of_ble_eq_true rfl
  refine mr_iload_n C 1 dX8_isFigure_0 rfl rfl ?_
  refine mr_bipush C (nI 48) 3 dX8_isFigure_1 rfl rfl ?_
  refine mr_icmplt C 16 6 dX8_isFigure_3 (by decide) rfl (fun c_3 => ?_) (fun c_3 => ?_)
  · refine mr_iconst C (nI 0) 17 dX8_isFigure_16 rfl rfl ?_
    refine mr_iret C dX8_isFigure_17 rfl rfl (by decide) (by decide) hlen ?_
    rw [hO]
    exact ⟨congrArg (fun z => some (Value.int z)) (bI_f (fun h => by first | exact absurd h.1 (Int32.not_le.mpr c_3) | exact absurd h.2 (Int32.not_le.mpr c_9))), rfl⟩
  · refine mr_iload_n C 7 dX8_isFigure_6 rfl rfl ?_
    refine mr_bipush C (nI 57) 9 dX8_isFigure_7 rfl rfl ?_
    refine mr_icmpgt C 16 12 dX8_isFigure_9 (by decide) rfl (fun c_9 => ?_) (fun c_9 => ?_)
    · refine mr_iconst C (nI 0) 17 dX8_isFigure_16 rfl rfl ?_
      refine mr_iret C dX8_isFigure_17 rfl rfl (by decide) (by decide) hlen ?_
      rw [hO]
      exact ⟨congrArg (fun z => some (Value.int z)) (bI_f (fun h => by first | exact absurd h.1 (Int32.not_le.mpr c_3) | exact absurd h.2 (Int32.not_le.mpr c_9))), rfl⟩
    · refine mr_iconst C (nI 1) 13 dX8_isFigure_12 rfl rfl ?_
      refine mr_goto C 17 dX8_isFigure_13 (by decide) ?_
      refine mr_iret C dX8_isFigure_17 rfl rfl (by decide) (by decide) hlen ?_
      rw [hO]
      exact ⟨congrArg (fun z => some (Value.int z)) (bI_t ⟨Int32.not_lt.mp c_3, Int32.not_lt.mp c_9⟩), rfl⟩

set_option maxRecDepth 20000 in
set_option maxHeartbeats 4000000 in
theorem c_m_finding (E : EG) (a : Nat → Nat) (tn st ac td lt lg cu tk sr tl fa fp gn gi gm tr : Int32) (la mn im ho fr wa tp wh go se no al be ik ke tc : FN) (n : Nat) : Ctr E mX8_finding (1, 0, 0) [.ref (a 0), .int (nI n)] (wM E a tn st la mn im ho fr wa ac tp td lt lg cu tk sr tl fa fp wh go se no al be gn gi gm ik ke tc tr) (fun v w => v = some (.int (-1000010 - nI n)) ∧ w = wM E a tn ((nI n)) la mn im ho fr wa ac tp td lt lg cu tk sr tl fa fp wh go se no al be gn gi gm ik ke tc tr) := by
  refine Ctr.of (by decide) (Nat.le_of_ble_eq_true rfl) ?_
  intro Z hO hn C
  have hlen : zn Z ≤ 17 := by rw [hn]; exact Nat.le_of_ble_eq_true rfl
  refine mr_aload_n C 1 dX8_finding_0 rfl rfl ?_
  refine mr_iload_n C 2 dX8_finding_1 rfl rfl ?_
  refine mr_put C 0 5 dX8_finding_2 rfl fs_X8_63 rfl rfl rfl (Nat.le_of_ble_eq_true rfl) ?_
  refine mr_ldc C 7 dX8_finding_5 rfl kc_X8_66 ?_
  refine mr_iload_n C 8 dX8_finding_7 rfl rfl ?_
  refine mr_isub C _ 9 dX8_finding_8 rfl rfl ?_
  refine mr_iret C dX8_finding_9 rfl rfl (by decide) (by decide) hlen ?_
  rw [hO]
  exact ⟨rfl, rfl⟩

set_option maxRecDepth 20000 in
set_option maxHeartbeats 4000000 in
theorem c_of (E : EG) (a : Nat → Nat) (tn st ac td lt lg cu tk sr tl fa fp gn gi gm tr : Int32) (la mn im ho fr wa tp wh go se no al be ik ke tc : FN) (c x : Nat) (hc : c < 5) (hx : x < 3) (v0 : Int32) (hv : ho (22 + 3 * c + x) = v0) : Ctr E mX8_of (1, 0, 0) [.ref (a 0), .int (nI c), .int (nI x)] (wM E a tn st la mn im ho fr wa ac tp td lt lg cu tk sr tl fa fp wh go se no al be gn gi gm ik ke tc tr) (fun v w => v = some (.int v0) ∧ w = wM E a tn st la mn im ho fr wa ac tp td lt lg cu tk sr tl fa fp wh go se no al be gn gi gm ik ke tc tr) := by
  refine Ctr.of (by decide) (Nat.le_of_ble_eq_true rfl) ?_
  intro Z hO hn C
  have hlen : zn Z ≤ 17 := by rw [hn]; exact Nat.le_of_ble_eq_true rfl
  refine mr_aload_n C 1 dX8_of_0 rfl rfl ?_
  refine mr_get C 0 4 dX8_of_1 rfl fl_X8_19 rfl rfl ?_
  refine mr_bipush C (nI 22) 6 dX8_of_4 rfl rfl ?_
  refine mr_iconst C (nI 3) 7 dX8_of_6 rfl rfl ?_
  refine mr_iload_n C 8 dX8_of_7 rfl rfl ?_
  refine mr_imul C (nI (3 * c)) 9 dX8_of_8 rfl (pk_mul _ _) ?_
  refine mr_iadd C (nI (22 + (3 * c))) 10 dX8_of_9 rfl (nI_add _ _) ?_
  refine mr_iload_n C 11 dX8_of_10 rfl rfl ?_
  refine mr_iadd C (nI ((22 + (3 * c)) + x)) 12 dX8_of_11 rfl (nI_add _ _) ?_
  refine mr_iald C 4 ((22 + (3 * c)) + x) 13 dX8_of_12 rfl rfl rfl (by omega) (by decide) ?_
  refine mr_iret C dX8_of_13 rfl rfl (by decide) (by decide) hlen ?_
  rw [hO]
  rw [hv]
  exact ⟨rfl, rfl⟩

set_option maxRecDepth 20000 in
set_option maxHeartbeats 4000000 in
theorem c_m_isThere (E : EG) (a : Nat → Nat) (tn st ac td lt lg cu tk sr tl fa fp gn gi gm tr : Int32) (la mn im ho fr wa tp wh go se no al be ik ke tc : FN) (R : Nat) (hR : R ≤ 6) (h0 : ho 0 = nI R) : Ctr E mX8_isThere (1, 0, 0) [.ref (a 0)] (wM E a tn st la mn im ho fr wa ac tp td lt lg cu tk sr tl fa fp wh go se no al be gn gi gm ik ke tc tr) (fun v w => v = some (.int (bI (0 < R))) ∧ w = wM E a tn st la mn im ho fr wa ac tp td lt lg cu tk sr tl fa fp wh go se no al be gn gi gm ik ke tc tr) := by
  refine Ctr.of (by decide) (Nat.le_of_ble_eq_true rfl) ?_
  intro Z hO hn C
  have hlen : zn Z ≤ 17 := by rw [hn]; exact Nat.le_of_ble_eq_true rfl
  refine mr_aload_n C 1 dX8_isThere_0 rfl rfl ?_
  refine mr_get C 0 4 dX8_isThere_1 rfl fl_X8_19 rfl rfl ?_
  refine mr_iconst C (nI 0) 5 dX8_isThere_4 rfl rfl ?_
  refine mr_iale C 4 0 (nI R) 6 dX8_isThere_5 rfl rfl rfl (by omega) (by decide) h0 ?_
  refine mr_ifle C 13 9 dX8_isThere_6 (by decide) rfl (fun c_6 => ?_) (fun c_6 => ?_)
  · have c_1 : ¬ 0 < R := fun h => by first | exact nI_nle h (by omega) c_6 | exact absurd c_6 (nI_ne0 h (by omega))
    refine mr_iconst C (nI 0) 14 dX8_isThere_13 rfl rfl ?_
    refine mr_iret C dX8_isThere_14 rfl rfl (by decide) (by decide) hlen ?_
    rw [hO]
    exact ⟨congrArg (fun z => some (Value.int z)) (bI_f (by omega)), rfl⟩
  · have c_1 : 0 < R := by
      by_cases h : R = 0
      · subst h; exact absurd (by decide) c_6
      · omega
    refine mr_iconst C (nI 1) 10 dX8_isThere_9 rfl rfl ?_
    refine mr_goto C 14 dX8_isThere_10 (by decide) ?_
    refine mr_iret C dX8_isThere_14 rfl rfl (by decide) (by decide) hlen ?_
    rw [hO]
    exact ⟨congrArg (fun z => some (Value.int z)) (bI_t (by omega)), rfl⟩

set_option maxRecDepth 20000 in
set_option maxHeartbeats 4000000 in
theorem c_m_isRoom (E : EG) (a : Nat → Nat) (tn st ac td lt lg cu tk sr tl fa fp gn gi gm tr : Int32) (la mn im ho fr wa tp wh go se no al be ik ke tc : FN) (R : Nat) (hV : R ≤ 6) (h0 : ho 0 = nI R) (x : Int32) : Ctr E mX8_isRoom (1, 0, 0) [.ref (a 0), .int x] (wM E a tn st la mn im ho fr wa ac tp td lt lg cu tk sr tl fa fp wh go se no al be gn gi gm ik ke tc tr) (fun v w => v = some (.int (bI (0 ≤ x.toInt ∧ x.toInt < R))) ∧ w = wM E a tn st la mn im ho fr wa ac tp td lt lg cu tk sr tl fa fp wh go se no al be gn gi gm ik ke tc tr) := by
  refine Ctr.of (by decide) (Nat.le_of_ble_eq_true rfl) ?_
  intro Z hO hn C
  have hlen : zn Z ≤ 17 := by rw [hn]; exact Nat.le_of_ble_eq_true rfl
  refine mr_iload_n C 1 dX8_isRoom_0 rfl rfl ?_
  refine mr_i2l C _ 2 dX8_isRoom_1 rfl rfl ?_
  refine mr_lconst C 0 3 dX8_isRoom_2 rfl rfl ?_
  refine mr_aload_n C 4 dX8_isRoom_3 rfl rfl ?_
  refine mr_get C 0 7 dX8_isRoom_4 rfl fl_X8_19 rfl rfl ?_
  refine mr_iconst C (nI 0) 8 dX8_isRoom_7 rfl rfl ?_
  refine mr_iale C 4 0 (nI R) 9 dX8_isRoom_8 rfl rfl rfl (by omega) (by decide) h0 ?_
  refine mr_iconst C (nI 1) 10 dX8_isRoom_9 rfl rfl ?_
  refine mr_isub C (nI R - nI 1) 11 dX8_isRoom_10 rfl rfl ?_
  refine mr_i2l C _ 12 dX8_isRoom_11 rfl rfl ?_
  refine mr_callS C (c_inK E x (0) ((R : Int) - 1) _ _ rfl (ends1 (by omega))) [] 15 dX8_isRoom_12 rfl mk_X8_in ms_X8_in ml_X8_69 rfl rfl rfl rfl (Nat.le_of_ble_eq_true rfl) (by decide) (by decide) (by decide) (fun r w1 hpost => ?_)
  obtain ⟨rfl, rfl⟩ := hpost
  refine mr_w (ws' := wM E a tn st la mn im ho fr wa ac tp td lt lg cu tk sr tl fa fp wh go se no al be gn gi gm ik ke tc tr) rfl ?_
  refine mr_iret C dX8_isRoom_15 rfl bI_nar (by decide) (by decide) hlen ?_
  rw [hO]
  exact ⟨congrArg (fun z => some (Value.int z)) (bI_cong (by omega)), rfl⟩

set_option maxRecDepth 20000 in
set_option maxHeartbeats 4000000 in
theorem c_m_isCrowd (E : EG) (a : Nat → Nat) (tn st ac td lt lg cu tk sr tl fa fp gn gi gm tr : Int32) (la mn im ho fr wa tp wh go se no al be ik ke tc : FN) (K : Nat) (hV : K ≤ 5) (h2 : ho 2 = nI K) (x : Int32) : Ctr E mX8_isCrowd (1, 0, 0) [.ref (a 0), .int x] (wM E a tn st la mn im ho fr wa ac tp td lt lg cu tk sr tl fa fp wh go se no al be gn gi gm ik ke tc tr) (fun v w => v = some (.int (bI (0 ≤ x.toInt ∧ x.toInt < K))) ∧ w = wM E a tn st la mn im ho fr wa ac tp td lt lg cu tk sr tl fa fp wh go se no al be gn gi gm ik ke tc tr) := by
  refine Ctr.of (by decide) (Nat.le_of_ble_eq_true rfl) ?_
  intro Z hO hn C
  have hlen : zn Z ≤ 17 := by rw [hn]; exact Nat.le_of_ble_eq_true rfl
  refine mr_iload_n C 1 dX8_isCrowd_0 rfl rfl ?_
  refine mr_i2l C _ 2 dX8_isCrowd_1 rfl rfl ?_
  refine mr_lconst C 0 3 dX8_isCrowd_2 rfl rfl ?_
  refine mr_aload_n C 4 dX8_isCrowd_3 rfl rfl ?_
  refine mr_get C 0 7 dX8_isCrowd_4 rfl fl_X8_19 rfl rfl ?_
  refine mr_iconst C (nI 2) 8 dX8_isCrowd_7 rfl rfl ?_
  refine mr_iale C 4 2 (nI K) 9 dX8_isCrowd_8 rfl rfl rfl (by omega) (by decide) h2 ?_
  refine mr_iconst C (nI 1) 10 dX8_isCrowd_9 rfl rfl ?_
  refine mr_isub C (nI K - nI 1) 11 dX8_isCrowd_10 rfl rfl ?_
  refine mr_i2l C _ 12 dX8_isCrowd_11 rfl rfl ?_
  refine mr_callS C (c_inK E x (0) ((K : Int) - 1) _ _ rfl (ends1 (by omega))) [] 15 dX8_isCrowd_12 rfl mk_X8_in ms_X8_in ml_X8_69 rfl rfl rfl rfl (Nat.le_of_ble_eq_true rfl) (by decide) (by decide) (by decide) (fun r w1 hpost => ?_)
  obtain ⟨rfl, rfl⟩ := hpost
  refine mr_w (ws' := wM E a tn st la mn im ho fr wa ac tp td lt lg cu tk sr tl fa fp wh go se no al be gn gi gm ik ke tc tr) rfl ?_
  refine mr_iret C dX8_isCrowd_15 rfl bI_nar (by decide) (by decide) hlen ?_
  rw [hO]
  exact ⟨congrArg (fun z => some (Value.int z)) (bI_cong (by omega)), rfl⟩

set_option maxRecDepth 20000 in
set_option maxHeartbeats 4000000 in
theorem c_stepped (E : EG) (a : Nat → Nat) (tn st ac td lt lg cu tk sr tl fa fp gn gi gm : Int32) (la mn im ho fr wa tp wh go se no al be ik ke tc : FN) (x : Int32) (n : Nat) (hn0 : n ≤ 16) : Ctr E mX8_stepped (1, 0, 0) [.ref (a 0), .int x] (wM E a tn st la mn im ho fr wa ac tp td lt lg cu tk sr tl fa fp wh go se no al be gn gi gm ik ke tc ((nI n))) (fun v w => ∃ (f : FN) (m : Nat), v = none ∧ w = wM E a tn st la mn im ho fr wa ac tp td lt lg cu tk sr tl fa fp wh go se no al be gn gi gm ik ke f ((nI m)) ∧ (f, m) = lvT x (tc, n)) := by
  refine Ctr.of (by decide) (Nat.le_of_ble_eq_true rfl) ?_
  intro Z hO hn C
  have hlen : zn Z ≤ 17 := by rw [hn]; exact Nat.le_of_ble_eq_true rfl
  refine mr_aload_n C 1 dX8_stepped_0 rfl rfl ?_
  refine mr_get C 0 4 dX8_stepped_1 rfl fl_X8_287 rfl rfl ?_
  refine mr_bipush C (nI 16) 6 dX8_stepped_4 rfl rfl ?_
  refine mr_icmpge C 29 9 dX8_stepped_6 (by decide) rfl (fun c_6 => ?_) (fun c_6 => ?_)
  · rw [nI_leI (by omega) (by omega)] at c_6
    refine mr_vret C dX8_stepped_29 rfl (by decide) (by decide) hlen ?_
    rw [hO]
    refine ⟨tc, n, rfl, rfl, ?_⟩
    exact (if_neg (by show ¬ n < 16; omega)).symm
  · rw [nI_leI (by omega) (by omega)] at c_6
    refine mr_aload_n C 10 dX8_stepped_9 rfl rfl ?_
    refine mr_get C 0 13 dX8_stepped_10 rfl fl_X8_56 rfl rfl ?_
    refine mr_aload_n C 14 dX8_stepped_13 rfl rfl ?_
    refine mr_get C 0 17 dX8_stepped_14 rfl fl_X8_287 rfl rfl ?_
    refine mr_iload_n C 18 dX8_stepped_17 rfl rfl ?_
    refine mr_iast C 16 n 19 dX8_stepped_18 rfl rfl rfl (by omega) (by decide) ?_
    refine mr_aload_n C 20 dX8_stepped_19 rfl rfl ?_
    refine mr_dup C 21 dX8_stepped_20 rfl rfl ?_
    refine mr_get C 0 24 dX8_stepped_21 rfl fl_X8_287 rfl rfl ?_
    refine mr_iconst C (nI 1) 25 dX8_stepped_24 rfl rfl ?_
    refine mr_iadd C (nI (n + 1)) 26 dX8_stepped_25 rfl (nI_add _ _) ?_
    refine mr_put C 0 29 dX8_stepped_26 rfl fs_X8_287 rfl rfl rfl (Nat.le_of_ble_eq_true rfl) ?_
    refine mr_vret C dX8_stepped_29 rfl (by decide) (by decide) hlen ?_
    rw [hO]
    refine ⟨upd tc n x, n + 1, rfl, rfl, ?_⟩
    exact (if_pos (by show n < 16; omega)).symm

set_option maxRecDepth 20000 in
set_option maxHeartbeats 4000000 in
theorem c_m_fault (E : EG) (a : Nat → Nat) (tn st ac td lt lg cu tk sr tl fa fp gn gi gm tr : Int32) (la mn im ho fr wa tp wh go se no al be ik ke tc : FN)  : Ctr E mX8_fault (1, 0, 0) [.ref (a 0)] (wM E a tn st la mn im ho fr wa ac tp td lt lg cu tk sr tl fa fp wh go se no al be gn gi gm ik ke tc tr) (fun v w => v = some (.int lt) ∧ w = wM E a ((nI 0)) st la mn im ho fr wa ac tp td lt lg cu tk sr tl fa fp wh go se no al be gn gi gm ik ke tc tr) := by
  refine Ctr.of (by decide) (Nat.le_of_ble_eq_true rfl) ?_
  intro Z hO hn C
  have hlen : zn Z ≤ 17 := by rw [hn]; exact Nat.le_of_ble_eq_true rfl
  refine mr_aload_n C 1 dX8_fault_0 rfl rfl ?_
  refine mr_iconst C (nI 0) 2 dX8_fault_1 rfl rfl ?_
  refine mr_put C 0 5 dX8_fault_2 rfl fs_X8_59 rfl rfl rfl (Nat.le_of_ble_eq_true rfl) ?_
  refine mr_aload_n C 6 dX8_fault_5 rfl rfl ?_
  refine mr_get C 0 9 dX8_fault_6 rfl fl_X8_185 rfl rfl ?_
  refine mr_iret C dX8_fault_9 rfl rfl (by decide) (by decide) hlen ?_
  rw [hO]
  exact ⟨rfl, rfl⟩

set_option maxRecDepth 20000 in
set_option maxHeartbeats 4000000 in
theorem c_m_status (E : EG) (a : Nat → Nat) (tn st ac td lt lg cu tk sr tl fa fp gn gi gm tr : Int32) (la mn im ho fr wa tp wh go se no al be ik ke tc : FN)  : Ctr E mX8_status (1, 0, 0) [.ref (a 0)] (wM E a tn st la mn im ho fr wa ac tp td lt lg cu tk sr tl fa fp wh go se no al be gn gi gm ik ke tc tr) (fun v w => v = some (.int st) ∧ w = wM E a ((nI 0)) st la mn im ho fr wa ac tp td lt lg cu tk sr tl fa fp wh go se no al be gn gi gm ik ke tc tr) := by
  refine Ctr.of (by decide) (Nat.le_of_ble_eq_true rfl) ?_
  intro Z hO hn C
  have hlen : zn Z ≤ 17 := by rw [hn]; exact Nat.le_of_ble_eq_true rfl
  refine mr_aload_n C 1 dX8_status_0 rfl rfl ?_
  refine mr_iconst C (nI 0) 2 dX8_status_1 rfl rfl ?_
  refine mr_put C 0 5 dX8_status_2 rfl fs_X8_59 rfl rfl rfl (Nat.le_of_ble_eq_true rfl) ?_
  refine mr_aload_n C 6 dX8_status_5 rfl rfl ?_
  refine mr_get C 0 9 dX8_status_6 rfl fl_X8_63 rfl rfl ?_
  refine mr_iret C dX8_status_9 rfl rfl (by decide) (by decide) hlen ?_
  rw [hO]
  exact ⟨rfl, rfl⟩

