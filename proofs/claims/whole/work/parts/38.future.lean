/-! Future: bells in a copy of the house -/
/-- a Future: now at b2, copied at b3, first and sources at b4, b4+1 -/
def wF (E : EG) (a : Nat → Nat) (b b2 b3 b4 : Nat) (hh hr wy : Int32) : va_W := [(a b, .inr (2, [.ref (a b2), .ref (a b3), .int hh, .int hr, .int wy, .ref (a b4), .ref (a (b4 + 1))]))]
theorem gst0 (g : Nat) : gst (nI 0) g = fun _ => nI 0 := by funext r; unfold gst; split <;> rfl
theorem goS_g0 (g R K G : Nat) (sn be so : FN) (l : Nat → Nat) (he : FN) : goS (nI 0) g R K G sn be so l he = goS (nI 0) 0 R K G sn be so l he := by
  funext c; unfold goS; rw [gst0 g, gst0 0]
theorem rg1_g0 (g R K : Nat) (sn so he : FN) (x : RST) : rg1 (nI 0) g R K sn so he x = rg1 (nI 0) 0 R K sn so he x := by
  unfold rg1; rw [goS_g0 g, gst0 g, gst0 0]
theorem rgN_g0 (g R K : Nat) (sn so he : FN) (x : RST) : ∀ n, rgN (nI 0) g R K sn so he x n = rgN (nI 0) 0 R K sn so he x n
  | 0 => rfl
  | n + 1 => by
    show rg1 (nI 0) g R K sn so he (rgN (nI 0) g R K sn so he x n) = rg1 (nI 0) 0 R K sn so he (rgN (nI 0) 0 R K sn so he x n)
    rw [rgN_g0 g R K sn so he x n, rg1_g0]
set_option maxRecDepth 20000 in
set_option maxHeartbeats 4000000 in
theorem c_ringTimes (E : EG) (a : Nat → Nat) (b b2 b3 b4 : Nat) (hh hr wy : Int32) (se sn0 be0 so0 lo0 he0 f1 f2 f3 : FN) (gu : Int32) (R K g : Nat) (sn so he : FN) (x : RST) (m : Nat) (hm : m ≤ 100) (hR : R ≤ 6) (hK : K ≤ 5) (hG : x.1 < 2 ^ 29) (hg : g < 6) (hH0 : HR R K sn so he x sn0 be0 so0 lo0 he0) : Ctr E mX2_ringTimes (3, 0, 0) [.ref (a b), .int (nI m)] (wF E a b b2 b3 b4 hh hr wy ++ wH E a b3 se sn0 be0 so0 lo0 he0 f1 f2 f3 (nI R) (nI K) (nI x.1) gu (nI g)) (fun v w => ∃ be1 lo1 g1 g2 g3 : FN, v = none ∧ w = wF E a b b2 b3 b4 hh hr wy ++ wH E a b3 se sn0 be1 so0 lo1 he0 g1 g2 g3 (nI R) (nI K) (nI (rgN gu g R K sn so he x m).1) gu (nI g) ∧ HR R K sn so he (rgN gu g R K sn so he x m) sn0 be1 so0 lo1 he0) := by
  refine Ctr.of (by decide) (Nat.le_of_ble_eq_true rfl) ?_
  intro Z hO hn C
  have hlen : zn Z ≤ 11 := by rw [hn]; exact Nat.le_of_ble_eq_true rfl
  have L : ∀ i, i ≤ m → ∀ be0 lo0 f1 f2 f3 : FN, HR R K sn so he (rgN gu g R K sn so he x i) sn0 be0 so0 lo0 he0 → V E mX2_ringTimes (3, 0, 0) Z 0 0 (wF E a b b2 b3 b4 hh hr wy ++ wH E a b3 se sn0 be0 so0 lo0 he0 f1 f2 f3 (nI R) (nI K) (nI (rgN gu g R K sn so he x i).1) gu (nI g)) [(0, .ref (a b)), (1, .int (nI m)), (2, .int (nI i))] [] 2 := by
    refine lp_up m ?_
    intro i hi ih be0 lo0 f1 f2 f3 hH
    refine mr_iload_n C 3 dX2_ringTimes_2 rfl rfl ?_
    refine mr_iload_n C 4 dX2_ringTimes_3 rfl rfl ?_
    refine mr_icmpge C 21 7 dX2_ringTimes_4 (by decide) rfl (fun c_4 => ?_) (fun c_4 => ?_)
    · rw [nI_leI (by omega) (by omega)] at c_4
      refine mr_vret C dX2_ringTimes_21 rfl (by decide) (by decide) hlen ?_
      rw [hO]
      obtain rfl : i = m := by omega
      exact ⟨_, _, _, _, _, rfl, rfl, hH⟩
    · rw [nI_leI (by omega) (by omega)] at c_4
      refine mr_aload_n C 8 dX2_ringTimes_7 rfl rfl ?_
      refine mr_get C 0 11 dX2_ringTimes_8 rfl fl_X2_12 rfl rfl ?_
      refine mr_callV C (c_ringH E a b3 se sn0 be0 so0 lo0 he0 f1 f2 f3 gu R K g sn so he (rgN gu g R K sn so he x i) hR hK (by rw [rgN_G]; omega) hg hH) [1, 2, 3, 4, 5, 6, 7, 8, 9, 10] 1 3 14 dX2_ringTimes_11 rfl mk_X3_ring mi_X3_ring ml_X2_43 rfl rfl rfl rfl rfl (Nat.le_of_ble_eq_true rfl) (by decide) (by decide) (by decide) rfl rfl (fun r w1 hpost => ?_)
      obtain ⟨be1, lo1, g1, g2, g3, rfl, rfl, hH1⟩ := hpost
      refine mr_w (ws' := wF E a b b2 b3 b4 hh hr wy ++ wH E a b3 se sn0 be1 so0 lo1 he0 g1 g2 g3 (nI R) (nI K) (nI (rgN gu g R K sn so he x (i + 1)).1) gu (nI g)) rfl ?_
      refine mr_pop C 15 dX2_ringTimes_14 rfl rfl ?_
      refine mr_iinc C (nI (i + 1)) 18 dX2_ringTimes_15 rfl rfl (by decide) (nI_add i 1) ?_
      refine mr_goto C 2 dX2_ringTimes_18 (by decide) ?_
      exact mr_at (ih (by omega) _ _ _ _ _ hH1) rfl rfl rfl
  refine mr_iconst C (nI 0) 1 dX2_ringTimes_0 rfl rfl ?_
  refine mr_istore_n C 2 dX2_ringTimes_1 rfl rfl (by decide) ?_
  exact mr_at (L 0 (Nat.zero_le _) be0 lo0 f1 f2 f3 hH0) rfl rfl rfl

set_option maxRecDepth 20000 in
set_option maxHeartbeats 4000000 in
theorem c_allAsNow (E : EG) (a : Nat → Nat) (b b2 b3 b4 : Nat) (hh hr wy : Int32) (se sn be so lo he inn al go se2 sn2 be2 so2 lo2 he2 inn2 al2 go2 : FN) (ro gn gu gr ro2 cr2 gn2 gu2 gr2 : Int32) (K : Nat) (l l2 : Nat → Nat) (hK : K ≤ 5) (hl : ∀ c, c < K → lo c = nI (l c) ∧ l c < 6) (hl2 : ∀ c, c < K → lo2 c = nI (l2 c) ∧ l2 c < 6) : Ctr E mX2_allAsNow (1, 0, 0) [.ref (a b)] (wF E a b b2 b3 b4 hh hr wy ++ (wH E a b2 se sn be so lo he inn al go ro (nI K) gn gu gr ++ wH E a b3 se2 sn2 be2 so2 lo2 he2 inn2 al2 go2 ro2 cr2 gn2 gu2 gr2)) (fun v w => v = some (.int (bI (∀ c, c < K → l2 c = l c))) ∧ w = wF E a b b2 b3 b4 hh hr wy ++ (wH E a b2 se sn be so lo he inn al go ro (nI K) gn gu gr ++ wH E a b3 se2 sn2 be2 so2 lo2 he2 inn2 al2 go2 ro2 cr2 gn2 gu2 gr2)) := by
  refine Ctr.of (by decide) (Nat.le_of_ble_eq_true rfl) ?_
  intro Z hO hn C
  have hlen : zn Z ≤ 21 := by rw [hn]; exact Nat.le_of_ble_eq_true rfl
  have L : ∀ i, i ≤ K → (∀ j, j < i → l2 j = l j) → V E mX2_allAsNow (1, 0, 0) Z 0 0 (wF E a b b2 b3 b4 hh hr wy ++ (wH E a b2 se sn be so lo he inn al go ro (nI K) gn gu gr ++ wH E a b3 se2 sn2 be2 so2 lo2 he2 inn2 al2 go2 ro2 cr2 gn2 gu2 gr2)) [(0, .ref (a b)), (1, .int (nI i))] [] 2 := by
    refine lp_up K ?_
    intro i hi ih hf
    refine mr_iload_n C 3 dX2_allAsNow_2 rfl rfl ?_
    refine mr_aload_n C 4 dX2_allAsNow_3 rfl rfl ?_
    refine mr_get C 0 7 dX2_allAsNow_4 rfl fl_X2_25 rfl rfl ?_
    refine mr_get C 1 10 dX2_allAsNow_7 rfl fl_X2_92 rfl rfl ?_
    refine mr_icmpge C 42 13 dX2_allAsNow_10 (by decide) rfl (fun c_10 => ?_) (fun c_10 => ?_)
    · rw [nI_leI (by omega) (by omega)] at c_10
      refine mr_iconst C (nI 1) 43 dX2_allAsNow_42 rfl rfl ?_
      refine mr_iret C dX2_allAsNow_43 rfl rfl (by decide) (by decide) hlen ?_
      rw [hO]
      obtain rfl : i = K := by omega
      exact ⟨congrArg (fun z => some (Value.int z)) (bI_t hf), rfl⟩
    · rw [nI_leI (by omega) (by omega)] at c_10
      refine mr_aload_n C 14 dX2_allAsNow_13 rfl rfl ?_
      refine mr_get C 0 17 dX2_allAsNow_14 rfl fl_X2_12 rfl rfl ?_
      refine mr_get C 11 20 dX2_allAsNow_17 rfl fl_X2_36 rfl rfl ?_
      refine mr_iload_n C 21 dX2_allAsNow_20 rfl rfl ?_
      refine mr_iald C 16 i 22 dX2_allAsNow_21 rfl rfl rfl (by omega) (by decide) ?_
      refine mr_aload_n C 23 dX2_allAsNow_22 rfl rfl ?_
      refine mr_get C 0 26 dX2_allAsNow_23 rfl fl_X2_25 rfl rfl ?_
      refine mr_get C 1 29 dX2_allAsNow_26 rfl fl_X2_36 rfl rfl ?_
      refine mr_iload_n C 30 dX2_allAsNow_29 rfl rfl ?_
      refine mr_iald C 6 i 31 dX2_allAsNow_30 rfl rfl rfl (by omega) (by decide) ?_
      refine mr_icmpeq C 36 34 dX2_allAsNow_31 (by decide) rfl (fun c_31 => ?_) (fun c_31 => ?_)
      · rw [(hl2 i (by omega)).1, (hl i (by omega)).1, nI_eq (by have := (hl2 i (by omega)).2; omega) (by have := (hl i (by omega)).2; omega)] at c_31
        refine mr_iinc C (nI (i + 1)) 39 dX2_allAsNow_36 rfl rfl (by decide) (nI_add i 1) ?_
        refine mr_goto C 2 dX2_allAsNow_39 (by decide) ?_
        refine mr_at (ih (by omega) ?_) rfl rfl rfl
        intro j hj
        by_cases e : j = i
        · rw [e]; exact c_31
        · exact hf j (by omega)
      · rw [(hl2 i (by omega)).1, (hl i (by omega)).1, nI_eq (by have := (hl2 i (by omega)).2; omega) (by have := (hl i (by omega)).2; omega)] at c_31
        refine mr_iconst C (nI 0) 35 dX2_allAsNow_34 rfl rfl ?_
        refine mr_iret C dX2_allAsNow_35 rfl rfl (by decide) (by decide) hlen ?_
        rw [hO]
        exact ⟨congrArg (fun z => some (Value.int z)) (bI_f (fun h => c_31 (h i (by omega)))), rfl⟩
  refine mr_iconst C (nI 0) 1 dX2_allAsNow_0 rfl rfl ?_
  refine mr_istore_n C 2 dX2_allAsNow_1 rfl rfl (by decide) ?_
  exact mr_at (L 0 (Nat.zero_le _) (fun j h => absurd h (Nat.not_lt_zero j))) rfl rfl rfl

