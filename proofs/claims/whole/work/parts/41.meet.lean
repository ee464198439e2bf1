/-! Future: meet -/
set_option maxRecDepth 20000 in
set_option maxHeartbeats 4000000 in
theorem c_meet (E : EG) (a : Nat → Nat) (b b2 b3 b4 : Nat) (hh hr wy : Int32) (se sn0 be0 so0 lo0 he0 f1 f2 f3 : FN) (gu : Int32) (R K g : Nat) (sn so he : FN) (x : RST) (ca cb m : Nat) (hm : m ≤ 100) (hca : ca < K) (hcb : cb < K) (hR : R ≤ 6) (hK : K ≤ 5) (hG : x.1 < 2 ^ 29) (hg : g < 6) (hH0 : HR R K sn so he x sn0 be0 so0 lo0 he0) : Ctr E mX2_meet (3, 0, 0) [.ref (a b), .int (nI ca), .int (nI cb), .int (nI m)] (wF E a b b2 b3 b4 hh hr wy ++ wH E a b3 se sn0 be0 so0 lo0 he0 f1 f2 f3 (nI R) (nI K) (nI x.1) gu (nI g)) (fun v w => ∃ (be1 lo1 g1 g2 g3 : FN) (G1 : Nat), v = some (.int (bP (∃ j, j < m ∧ (rgN gu g R K sn so he x (j + 1)).2.2 ca = (rgN gu g R K sn so he x (j + 1)).2.2 cb))) ∧ w = wF E a b b2 b3 b4 hh hr wy ++ wH E a b3 se sn0 be1 so0 lo1 he0 g1 g2 g3 (nI R) (nI K) (nI G1) gu (nI g)) := by
  refine Ctr.of (by decide) (Nat.le_of_ble_eq_true rfl) ?_
  intro Z hO hn C
  have hlen : zn Z ≤ 11 := by rw [hn]; exact Nat.le_of_ble_eq_true rfl
  have L : ∀ i, i ≤ m → ∀ be0 lo0 f1 f2 f3 : FN, HR R K sn so he (rgN gu g R K sn so he x i) sn0 be0 so0 lo0 he0 → (∀ j, j < i → ¬ (rgN gu g R K sn so he x (j + 1)).2.2 ca = (rgN gu g R K sn so he x (j + 1)).2.2 cb) → V E mX2_meet (3, 0, 0) Z 0 0 (wF E a b b2 b3 b4 hh hr wy ++ wH E a b3 se sn0 be0 so0 lo0 he0 f1 f2 f3 (nI R) (nI K) (nI (rgN gu g R K sn so he x i).1) gu (nI g)) [(0, .ref (a b)), (1, .int (nI ca)), (2, .int (nI cb)), (3, .int (nI m)), (4, .int (nI i))] [] 3 := by
    refine lp_up m ?_
    intro i hi ih be0 lo0 f1 f2 f3 hH hf
    refine mr_iload C 5 dX2_meet_3 rfl rfl ?_
    refine mr_iload_n C 6 dX2_meet_5 rfl rfl ?_
    refine mr_icmpge C 46 9 dX2_meet_6 (by decide) rfl (fun c_6 => ?_) (fun c_6 => ?_)
    · rw [nI_leI (by omega) (by omega)] at c_6
      refine mr_iconst C (nI 0) 47 dX2_meet_46 rfl rfl ?_
      refine mr_iret C dX2_meet_47 rfl rfl (by decide) (by decide) hlen ?_
      rw [hO]
      obtain rfl : i = m := by omega
      exact ⟨_, _, _, _, _, _, congrArg (fun z => some (Value.int z)) (bP_f (fun h => by obtain ⟨j, hj, e⟩ := h; exact hf j hj e)), rfl⟩
    · rw [nI_leI (by omega) (by omega)] at c_6
      refine mr_aload_n C 10 dX2_meet_9 rfl rfl ?_
      refine mr_get C 0 13 dX2_meet_10 rfl fl_X2_12 rfl rfl ?_
      refine mr_callV C (c_ringH E a b3 se sn0 be0 so0 lo0 he0 f1 f2 f3 gu R K g sn so he (rgN gu g R K sn so he x i) hR hK (by rw [rgN_G]; omega) hg hH) [1, 2, 3, 4, 5, 6, 7, 8, 9, 10] 1 3 16 dX2_meet_13 rfl mk_X3_ring mi_X3_ring ml_X2_43 rfl rfl rfl rfl rfl (Nat.le_of_ble_eq_true rfl) (by decide) (by decide) (by decide) rfl rfl (fun r w1 hpost => ?_)
      obtain ⟨be1, lo1, g1, g2, g3, rfl, rfl, hH1⟩ := hpost
      refine mr_w (ws' := wF E a b b2 b3 b4 hh hr wy ++ wH E a b3 se sn0 be1 so0 lo1 he0 g1 g2 g3 (nI R) (nI K) (nI (rgN gu g R K sn so he x (i + 1)).1) gu (nI g)) rfl ?_
      have hH1 : HR R K sn so he (rgN gu g R K sn so he x (i + 1)) sn0 be1 so0 lo1 he0 := hH1
      refine mr_pop C 17 dX2_meet_16 rfl rfl ?_
      refine mr_aload_n C 18 dX2_meet_17 rfl rfl ?_
      refine mr_get C 0 21 dX2_meet_18 rfl fl_X2_12 rfl rfl ?_
      refine mr_get C 1 24 dX2_meet_21 rfl fl_X2_36 rfl rfl ?_
      refine mr_iload_n C 25 dX2_meet_24 rfl rfl ?_
      refine mr_iald C 6 ca 26 dX2_meet_25 rfl rfl rfl (by omega) (by decide) ?_
      refine mr_aload_n C 27 dX2_meet_26 rfl rfl ?_
      refine mr_get C 0 30 dX2_meet_27 rfl fl_X2_12 rfl rfl ?_
      refine mr_get C 1 33 dX2_meet_30 rfl fl_X2_36 rfl rfl ?_
      refine mr_iload_n C 34 dX2_meet_33 rfl rfl ?_
      refine mr_iald C 6 cb 35 dX2_meet_34 rfl rfl rfl (by omega) (by decide) ?_
      refine mr_icmpne C 40 38 dX2_meet_35 (by decide) rfl (fun c_35 => ?_) (fun c_35 => ?_)
      · rw [(hH1.2.2 ca hca).2.2.1, (hH1.2.2 cb hcb).2.2.1] at c_35
        refine mr_iinc C (nI (i + 1)) 43 dX2_meet_40 rfl rfl (by decide) (nI_add i 1) ?_
        refine mr_goto C 3 dX2_meet_43 (by decide) ?_
        refine mr_at (ih (by omega) _ _ _ _ _ hH1 ?_) rfl rfl rfl
        intro j hj
        by_cases e : j = i
        · rw [e]; exact fun h => c_35 (congrArg nI h)
        · exact hf j (by omega)
      · rw [(hH1.2.2 ca hca).2.2.1, (hH1.2.2 cb hcb).2.2.1] at c_35
        refine mr_iconst C (nI 1) 39 dX2_meet_38 rfl rfl ?_
        refine mr_iret C dX2_meet_39 rfl rfl (by decide) (by decide) hlen ?_
        rw [hO]
        exact ⟨_, _, _, _, _, _, congrArg (fun z => some (Value.int z)) (bP_t ⟨i, by omega, (nI_eq (by have := (hH1.2.2 ca hca).2.2.2; omega) (by have := (hH1.2.2 cb hcb).2.2.2; omega)).mp c_35⟩), rfl⟩
  refine mr_iconst C (nI 0) 1 dX2_meet_0 rfl rfl ?_
  refine mr_istore C 3 dX2_meet_1 rfl (by decide) ?_
  exact mr_at (L 0 (Nat.zero_le _) be0 lo0 f1 f2 f3 hH0 (fun j h => absurd h (Nat.not_lt_zero j))) rfl rfl rfl

