/-! Future: where, how many, worth, meetings -/
/-- some house, whatever it holds -/
def AnyH (E : EG) (a : Nat → Nat) (b : Nat) (w : va_W) : Prop := ∃ (se sn be so lo he f1 f2 f3 : FN) (ro cr gn gu : Int32) (g : Nat), g < 6 ∧ w = wH E a b se sn be so lo he f1 f2 f3 ro cr gn gu (nI g)
theorem HR.take {R K G : Nat} {sn be so lo he f2 f3 f4 f5 f6 : FN} {l : Nat → Nat} (hR : R ≤ 6) (hK : K ≤ 5) (hl : ∀ c, c < K → lo c = nI (l c) ∧ l c < R) (h2 : Ag 6 f2 sn) (h3 : Ag 6 f3 be) (h4 : Ag 5 f4 so) (h5 : Ag 5 f5 lo) (h6 : Ag 5 f6 he) : HR R K sn so he (G, be, l) f2 f3 f4 f5 f6 :=
  ⟨fun r hr => h2 r (by omega), fun _ r hr => h3 r (by omega), fun c hc => ⟨h4 c (by omega), h6 c (by omega), (h5 c (by omega)).trans (hl c hc).1, (hl c hc).2⟩⟩
theorem HR.sum {R K : Nat} {sn so he : FN} {x : RST} {sn0 be0 so0 lo0 he0 : FN} {r : Nat} (h : HR R K sn so he x sn0 be0 so0 lo0 he0) (hR : R ≤ 6) (hr : r < 6) : ∀ n, n ≤ K → sumH lo0 he0 (nI r) n = cntS (fun _ => nI 0) x.2.2 he n r
  | 0, _ => rfl
  | n + 1, hn => by
    have ih := HR.sum (r := r) h hR hr n (by omega)
    obtain ⟨-, e2, e3, e4⟩ := h.2.2 n (by omega)
    unfold sumH
    show _ = if r = x.2.2 n then cntS (fun _ => nI 0) x.2.2 he n r + he n else cntS (fun _ => nI 0) x.2.2 he n r
    rw [e3, ih, e2]
    by_cases k : r = x.2.2 n
    · rw [if_pos (by rw [k]), if_pos k]
    · rw [if_neg (fun e => k ((nI_eq (by omega) (by omega)).mp e).symm), if_neg k]
set_option maxRecDepth 20000 in
set_option maxHeartbeats 4000000 in
theorem c_whereBehind (E : EG) (a : Nat → Nat) (b b2 b3 b4 : Nat) (hh hr wy : Int32) (se sn be so lo he inn al go se0 sn0 be0 so0 lo0 he0 inn0 al0 go0 : FN) (gu gr ro0 cr0 gn0 gu0 : Int32) (R K G g : Nat) (l : Nat → Nat) (hR : R ≤ 6) (hK : K ≤ 5) (hG : G < 2 ^ 29) (hg : g < 6) (hl : ∀ c, c < K → lo c = nI (l c) ∧ l c < R) (c m : Nat) (hc : c < K) (hm : m ≤ 60) : Ctr E mX2_whereBehind (4, 0, 0) [.ref (a b), .int (nI c), .int (nI m)] (wF E a b b2 b3 b4 hh hr wy ++ (wH E a b2 se sn be so lo he inn al go (nI R) (nI K) (nI G) gu gr ++ wH E a b3 se0 sn0 be0 so0 lo0 he0 inn0 al0 go0 ro0 cr0 gn0 gu0 (nI g))) (fun v w => ∃ wc, v = some (.int (nI ((rgN (nI 0) 0 R K sn so he (G, be, l) m).2.2 c))) ∧ AnyH E a b3 wc ∧ w = wF E a b b2 b3 b4 hh hr wy ++ (wH E a b2 se sn be so lo he inn al go (nI R) (nI K) (nI G) gu gr ++ wc)) := by
  refine Ctr.of (by decide) (Nat.le_of_ble_eq_true rfl) ?_
  intro Z hO hn C
  have hlen : zn Z ≤ 21 := by rw [hn]; exact Nat.le_of_ble_eq_true rfl
  refine mr_aload_n C 1 dX2_whereBehind_0 rfl rfl ?_
  refine mr_get C 0 4 dX2_whereBehind_1 rfl fl_X2_12 rfl rfl ?_
  refine mr_aload_n C 5 dX2_whereBehind_4 rfl rfl ?_
  refine mr_get C 0 8 dX2_whereBehind_5 rfl fl_X2_25 rfl rfl ?_
  refine mr_callV C (c_take E a b3 b2 se0 sn0 be0 so0 lo0 he0 inn0 al0 go0 se sn be so lo he inn al go ro0 cr0 gn0 gu0 (nI g) (nI R) (nI K) (nI G) gu gr) [11, 12, 13, 14, 15, 16, 17, 18, 19, 20, 1, 2, 3, 4, 5, 6, 7, 8, 9, 10] 11 3 11 dX2_whereBehind_8 rfl mk_X3_take mi_X3_take ml_X2_28 rfl rfl rfl rfl rfl (Nat.le_of_ble_eq_true rfl) (by decide) (by decide) (by decide) rfl rfl (fun r w1 hpost => ?_)
  obtain ⟨f1, f2, f3, f4, f5, f6, rfl, rfl, -, h2, h3, h4, h5, h6⟩ := hpost
  refine mr_w (wput_swap (wF E a b b2 b3 b4 hh hr wy) (wH E a b2 se sn be so lo he inn al go (nI R) (nI K) (nI G) gu gr) _ (wH E a b3 f1 f2 f3 f4 f5 f6 inn0 al0 go0 (nI R) (nI K) (nI G) (nI 0) (nI g)) (wH E a b2 se sn be so lo he inn al go (nI R) (nI K) (nI G) gu gr) rfl rfl) ?_
  have hH : HR R K sn so he (G, be, l) f2 f3 f4 f5 f6 := HR.take hR hK hl h2 h3 h4 h5 h6
  refine mr_aload_n C 12 dX2_whereBehind_11 rfl rfl ?_
  refine mr_iload_n C 13 dX2_whereBehind_12 rfl rfl ?_
  refine mr_callV C (c_ringTimes E a b b2 b3 b4 hh hr wy f1 f2 f3 f4 f5 f6 inn0 al0 go0 (nI 0) R K g sn so he (G, be, l) m (by omega) hR hK hG hg hH) [0, 11, 12, 13, 14, 15, 16, 17, 18, 19, 20] 0 2 16 dX2_whereBehind_13 rfl mk_X2_ringTimes mi_X2_ringTimes ml_X2_32 rfl rfl rfl rfl rfl (Nat.le_of_ble_eq_true rfl) (by decide) (by decide) (by decide) rfl rfl (fun r w1 hpost => ?_)
  obtain ⟨be1, lo1, g1, g2, g3, rfl, rfl, hH1⟩ := hpost
  refine mr_w (wput_outer (wF E a b b2 b3 b4 hh hr wy) (wH E a b2 se sn be so lo he inn al go (nI R) (nI K) (nI G) gu gr) _ (wF E a b b2 b3 b4 hh hr wy) (wH E a b3 f1 f2 be1 f4 lo1 f6 g1 g2 g3 (nI R) (nI K) (nI (rgN (nI 0) g R K sn so he (G, be, l) m).1) (nI 0) (nI g)) rfl rfl) ?_
  rw [rgN_g0] at hH1
  refine mr_aload_n C 17 dX2_whereBehind_16 rfl rfl ?_
  refine mr_get C 0 20 dX2_whereBehind_17 rfl fl_X2_12 rfl rfl ?_
  refine mr_get C 11 23 dX2_whereBehind_20 rfl fl_X2_36 rfl rfl ?_
  refine mr_iload_n C 24 dX2_whereBehind_23 rfl rfl ?_
  refine mr_iald C 16 c 25 dX2_whereBehind_24 rfl rfl rfl (by omega) (by decide) ?_
  refine mr_iret C dX2_whereBehind_25 rfl rfl (by decide) (by decide) hlen ?_
  rw [hO]
  exact ⟨_, congrArg (fun z => some (Value.int z)) (hH1.2.2 c hc).2.2.1, ⟨_, _, _, _, _, _, _, _, _, _, _, _, _, _, hg, rfl⟩, rfl⟩

set_option maxRecDepth 20000 in
set_option maxHeartbeats 4000000 in
theorem c_headsBehind (E : EG) (a : Nat → Nat) (b b2 b3 b4 : Nat) (hh hr wy : Int32) (se sn be so lo he inn al go se0 sn0 be0 so0 lo0 he0 inn0 al0 go0 : FN) (gu gr ro0 cr0 gn0 gu0 : Int32) (R K G g : Nat) (l : Nat → Nat) (hR : R ≤ 6) (hK : K ≤ 5) (hG : G < 2 ^ 29) (hg : g < 6) (hl : ∀ c, c < K → lo c = nI (l c) ∧ l c < R) (r m : Nat) (hr6 : r < R) (hm : m ≤ 60) : Ctr E mX2_headsBehind (4, 0, 0) [.ref (a b), .int (nI r), .int (nI m)] (wF E a b b2 b3 b4 hh hr wy ++ (wH E a b2 se sn be so lo he inn al go (nI R) (nI K) (nI G) gu gr ++ wH E a b3 se0 sn0 be0 so0 lo0 he0 inn0 al0 go0 ro0 cr0 gn0 gu0 (nI g))) (fun v w => ∃ wc, v = some (.int (cntS (fun _ => nI 0) (rgN (nI 0) 0 R K sn so he (G, be, l) m).2.2 he K r)) ∧ AnyH E a b3 wc ∧ w = wF E a b b2 b3 b4 hh hr wy ++ (wH E a b2 se sn be so lo he inn al go (nI R) (nI K) (nI G) gu gr ++ wc)) := by
  refine Ctr.of (by decide) (Nat.le_of_ble_eq_true rfl) ?_
  intro Z hO hn C
  have hlen : zn Z ≤ 21 := by rw [hn]; exact Nat.le_of_ble_eq_true rfl
  refine mr_aload_n C 1 dX2_headsBehind_0 rfl rfl ?_
  refine mr_get C 0 4 dX2_headsBehind_1 rfl fl_X2_12 rfl rfl ?_
  refine mr_aload_n C 5 dX2_headsBehind_4 rfl rfl ?_
  refine mr_get C 0 8 dX2_headsBehind_5 rfl fl_X2_25 rfl rfl ?_
  refine mr_callV C (c_take E a b3 b2 se0 sn0 be0 so0 lo0 he0 inn0 al0 go0 se sn be so lo he inn al go ro0 cr0 gn0 gu0 (nI g) (nI R) (nI K) (nI G) gu gr) [11, 12, 13, 14, 15, 16, 17, 18, 19, 20, 1, 2, 3, 4, 5, 6, 7, 8, 9, 10] 11 3 11 dX2_headsBehind_8 rfl mk_X3_take mi_X3_take ml_X2_28 rfl rfl rfl rfl rfl (Nat.le_of_ble_eq_true rfl) (by decide) (by decide) (by decide) rfl rfl (fun r w1 hpost => ?_)
  obtain ⟨f1, f2, f3, f4, f5, f6, rfl, rfl, -, h2, h3, h4, h5, h6⟩ := hpost
  refine mr_w (wput_swap (wF E a b b2 b3 b4 hh hr wy) (wH E a b2 se sn be so lo he inn al go (nI R) (nI K) (nI G) gu gr) _ (wH E a b3 f1 f2 f3 f4 f5 f6 inn0 al0 go0 (nI R) (nI K) (nI G) (nI 0) (nI g)) (wH E a b2 se sn be so lo he inn al go (nI R) (nI K) (nI G) gu gr) rfl rfl) ?_
  have hH : HR R K sn so he (G, be, l) f2 f3 f4 f5 f6 := HR.take hR hK hl h2 h3 h4 h5 h6
  refine mr_aload_n C 12 dX2_headsBehind_11 rfl rfl ?_
  refine mr_iload_n C 13 dX2_headsBehind_12 rfl rfl ?_
  refine mr_callV C (c_ringTimes E a b b2 b3 b4 hh hr wy f1 f2 f3 f4 f5 f6 inn0 al0 go0 (nI 0) R K g sn so he (G, be, l) m (by omega) hR hK hG hg hH) [0, 11, 12, 13, 14, 15, 16, 17, 18, 19, 20] 0 2 16 dX2_headsBehind_13 rfl mk_X2_ringTimes mi_X2_ringTimes ml_X2_32 rfl rfl rfl rfl rfl (Nat.le_of_ble_eq_true rfl) (by decide) (by decide) (by decide) rfl rfl (fun r w1 hpost => ?_)
  obtain ⟨be1, lo1, g1, g2, g3, rfl, rfl, hH1⟩ := hpost
  refine mr_w (wput_outer (wF E a b b2 b3 b4 hh hr wy) (wH E a b2 se sn be so lo he inn al go (nI R) (nI K) (nI G) gu gr) _ (wF E a b b2 b3 b4 hh hr wy) (wH E a b3 f1 f2 be1 f4 lo1 f6 g1 g2 g3 (nI R) (nI K) (nI (rgN (nI 0) g R K sn so he (G, be, l) m).1) (nI 0) (nI g)) rfl rfl) ?_
  rw [rgN_g0] at hH1
  refine mr_aload_n C 17 dX2_headsBehind_16 rfl rfl ?_
  refine mr_get C 0 20 dX2_headsBehind_17 rfl fl_X2_12 rfl rfl ?_
  refine mr_iload_n C 21 dX2_headsBehind_20 rfl rfl ?_
  refine mr_callV C (c_headsIn E a b3 f1 f2 be1 f4 lo1 f6 g1 g2 g3 (nI R) (nI ((rgN (nI 0) g R K sn so he (G, be, l) m).1)) (nI 0) (nI g) K hK (nI r)) [11, 12, 13, 14, 15, 16, 17, 18, 19, 20] 11 3 24 dX2_headsBehind_21 rfl mk_X3_headsIn mi_X3_headsIn ml_X2_39 rfl rfl rfl rfl rfl (Nat.le_of_ble_eq_true rfl) (by decide) (by decide) (by decide) rfl rfl (fun r w1 hpost => ?_)
  obtain ⟨rfl, rfl⟩ := hpost
  refine mr_w (wput_last (wF E a b b2 b3 b4 hh hr wy) (wH E a b2 se sn be so lo he inn al go (nI R) (nI K) (nI G) gu gr) _ (wH E a b3 f1 f2 be1 f4 lo1 f6 g1 g2 g3 (nI R) (nI K) (nI ((rgN (nI 0) g R K sn so he (G, be, l) m).1)) (nI 0) (nI g)) rfl) ?_
  refine mr_iret C dX2_headsBehind_24 rfl rfl (by decide) (by decide) hlen ?_
  rw [hO]
  exact ⟨_, congrArg (fun z => some (Value.int z)) (hH1.sum hR (by omega) K (Nat.le_refl K)), ⟨_, _, _, _, _, _, _, _, _, _, _, _, _, _, hg, rfl⟩, rfl⟩

/-- what a room is worth over n bells -/
def wthS (R K : Nat) (sn so he : FN) (x : RST) (st : Int32) (r : Nat) : Nat → Int32
  | 0 => nI 0
  | n + 1 => wthS R K sn so he x st r n + (if st < cntS (fun _ => nI 0) (rgN (nI 0) 0 R K sn so he x (n + 1)).2.2 he K r then st else cntS (fun _ => nI 0) (rgN (nI 0) 0 R K sn so he x (n + 1)).2.2 he K r)
set_option maxRecDepth 20000 in
set_option maxHeartbeats 4000000 in
theorem c_worth (E : EG) (a : Nat → Nat) (b b2 b3 b4 : Nat) (hh hr wy : Int32) (se sn be so lo he inn al go se0 sn0 be0 so0 lo0 he0 inn0 al0 go0 : FN) (gu gr ro0 cr0 gn0 gu0 : Int32) (R K G g : Nat) (l : Nat → Nat) (hR : R ≤ 6) (hK : K ≤ 5) (hG : G < 2 ^ 29) (hg : g < 6) (hl : ∀ c, c < K → lo c = nI (l c) ∧ l c < R) (r m : Nat) (hr6 : r < R) (hm : m ≤ 60) : Ctr E mX2_worth (4, 0, 0) [.ref (a b), .int (nI r), .int (nI m)] (wF E a b b2 b3 b4 hh hr wy ++ (wH E a b2 se sn be so lo he inn al go (nI R) (nI K) (nI G) gu gr ++ wH E a b3 se0 sn0 be0 so0 lo0 he0 inn0 al0 go0 ro0 cr0 gn0 gu0 (nI g))) (fun v w => ∃ wc, v = some (.int (wthS R K sn so he (G, be, l) (se r) r m)) ∧ AnyH E a b3 wc ∧ w = wF E a b b2 b3 b4 hh hr wy ++ (wH E a b2 se sn be so lo he inn al go (nI R) (nI K) (nI G) gu gr ++ wc)) := by
  refine Ctr.of (by decide) (Nat.le_of_ble_eq_true rfl) ?_
  intro Z hO hn C
  have hlen : zn Z ≤ 21 := by rw [hn]; exact Nat.le_of_ble_eq_true rfl
  have L : ∀ f1 f2 f4 f6 : FN, ∀ i, i ≤ m → ∀ be1 lo1 g1 g2 g3 : FN, HR R K sn so he (rgN (nI 0) 0 R K sn so he (G, be, l) i) f2 be1 f4 lo1 f6 → V E mX2_worth (4, 0, 0) Z 0 0 (wF E a b b2 b3 b4 hh hr wy ++ (wH E a b2 se sn be so lo he inn al go (nI R) (nI K) (nI G) gu gr ++ wH E a b3 f1 f2 be1 f4 lo1 f6 g1 g2 g3 (nI R) (nI K) (nI (rgN (nI 0) 0 R K sn so he (G, be, l) i).1) (nI 0) (nI g))) [(0, .ref (a b)), (1, .int (nI r)), (2, .int (nI m)), (3, .int (wthS R K sn so he (G, be, l) (se r) r i)), (4, .int (nI i))] [] 16 := by
    intro f1 f2 f4 f6
    refine lp_up m ?_
    intro i hi ih be1 lo1 g1 g2 g3 hH1
    refine mr_iload C 18 dX2_worth_16 rfl rfl ?_
    refine mr_iload_n C 19 dX2_worth_18 rfl rfl ?_
    refine mr_icmpge C 59 22 dX2_worth_19 (by decide) rfl (fun c_19 => ?_) (fun c_19 => ?_)
    · rw [nI_leI (by omega) (by omega)] at c_19
      refine mr_iload_n C 60 dX2_worth_59 rfl rfl ?_
      refine mr_iret C dX2_worth_60 rfl rfl (by decide) (by decide) hlen ?_
      rw [hO]
      obtain rfl : i = m := by omega
      exact ⟨_, rfl, ⟨_, _, _, _, _, _, _, _, _, _, _, _, _, _, hg, rfl⟩, rfl⟩
    · rw [nI_leI (by omega) (by omega)] at c_19
      refine mr_aload_n C 23 dX2_worth_22 rfl rfl ?_
      refine mr_get C 0 26 dX2_worth_23 rfl fl_X2_12 rfl rfl ?_
      refine mr_callV C (c_ringH E a b3 f1 f2 be1 f4 lo1 f6 g1 g2 g3 (nI 0) R K g sn so he (rgN (nI 0) 0 R K sn so he (G, be, l) i) hR hK (by rw [rgN_G]; show G + i < _; omega) hg hH1) [11, 12, 13, 14, 15, 16, 17, 18, 19, 20] 11 3 29 dX2_worth_26 rfl mk_X3_ring mi_X3_ring ml_X2_43 rfl rfl rfl rfl rfl (Nat.le_of_ble_eq_true rfl) (by decide) (by decide) (by decide) rfl rfl (fun r w1 hpost => ?_)
      obtain ⟨be2, lo2, k1, k2, k3, rfl, rfl, hH2⟩ := hpost
      rw [rg1_g0] at hH2
      refine mr_w (wput_last (wF E a b b2 b3 b4 hh hr wy) (wH E a b2 se sn be so lo he inn al go (nI R) (nI K) (nI G) gu gr) _ (wH E a b3 f1 f2 be2 f4 lo2 f6 k1 k2 k3 (nI R) (nI K) (nI (rgN (nI 0) 0 R K sn so he (G, be, l) (i + 1)).1) (nI 0) (nI g)) rfl) ?_
      refine mr_pop C 30 dX2_worth_29 rfl rfl ?_
      refine mr_iload_n C 31 dX2_worth_30 rfl rfl ?_
      refine mr_aload_n C 32 dX2_worth_31 rfl rfl ?_
      refine mr_get C 0 35 dX2_worth_32 rfl fl_X2_12 rfl rfl ?_
      refine mr_iload_n C 36 dX2_worth_35 rfl rfl ?_
      refine mr_callV C (c_headsIn E a b3 f1 f2 be2 f4 lo2 f6 k1 k2 k3 (nI R) (nI ((rgN (nI 0) 0 R K sn so he (G, be, l) (i + 1)).1)) (nI 0) (nI g) K hK (nI r)) [11, 12, 13, 14, 15, 16, 17, 18, 19, 20] 11 3 39 dX2_worth_36 rfl mk_X3_headsIn mi_X3_headsIn ml_X2_39 rfl rfl rfl rfl rfl (Nat.le_of_ble_eq_true rfl) (by decide) (by decide) (by decide) rfl rfl (fun r w1 hpost => ?_)
      obtain ⟨rfl, rfl⟩ := hpost
      refine mr_w (wput_last (wF E a b b2 b3 b4 hh hr wy) (wH E a b2 se sn be so lo he inn al go (nI R) (nI K) (nI G) gu gr) _ (wH E a b3 f1 f2 be2 f4 lo2 f6 k1 k2 k3 (nI R) (nI K) (nI ((rgN (nI 0) 0 R K sn so he (G, be, l) (i + 1)).1)) (nI 0) (nI g)) rfl) ?_
      refine mr_aload_n C 40 dX2_worth_39 rfl rfl ?_
      refine mr_get C 0 43 dX2_worth_40 rfl fl_X2_25 rfl rfl ?_
      refine mr_get C 1 46 dX2_worth_43 rfl fl_X2_47 rfl rfl ?_
      refine mr_iload_n C 47 dX2_worth_46 rfl rfl ?_
      refine mr_iald C 2 r 48 dX2_worth_47 rfl rfl rfl (by omega) (by decide) ?_
      refine mr_min C 51 dX2_worth_48 rfl ml_X2_50 (Nat.le_of_ble_eq_true rfl) (by decide) (by decide) (by decide) ?_
      refine mr_iadd C _ 52 dX2_worth_51 rfl rfl ?_
      refine mr_istore_n C 53 dX2_worth_52 rfl rfl (by decide) ?_
      refine mr_iinc C (nI (i + 1)) 56 dX2_worth_53 rfl rfl (by decide) (nI_add i 1) ?_
      refine mr_goto C 16 dX2_worth_56 (by decide) ?_
      have e := hH2.sum hR (show r < 6 by omega) K (Nat.le_refl K)
      rw [e]
      exact mr_at (ih (by omega) _ _ _ _ _ hH2) rfl rfl rfl
  refine mr_aload_n C 1 dX2_worth_0 rfl rfl ?_
  refine mr_get C 0 4 dX2_worth_1 rfl fl_X2_12 rfl rfl ?_
  refine mr_aload_n C 5 dX2_worth_4 rfl rfl ?_
  refine mr_get C 0 8 dX2_worth_5 rfl fl_X2_25 rfl rfl ?_
  refine mr_callV C (c_take E a b3 b2 se0 sn0 be0 so0 lo0 he0 inn0 al0 go0 se sn be so lo he inn al go ro0 cr0 gn0 gu0 (nI g) (nI R) (nI K) (nI G) gu gr) [11, 12, 13, 14, 15, 16, 17, 18, 19, 20, 1, 2, 3, 4, 5, 6, 7, 8, 9, 10] 11 3 11 dX2_worth_8 rfl mk_X3_take mi_X3_take ml_X2_28 rfl rfl rfl rfl rfl (Nat.le_of_ble_eq_true rfl) (by decide) (by decide) (by decide) rfl rfl (fun r w1 hpost => ?_)
  obtain ⟨f1, f2, f3, f4, f5, f6, rfl, rfl, -, h2, h3, h4, h5, h6⟩ := hpost
  refine mr_w (wput_swap (wF E a b b2 b3 b4 hh hr wy) (wH E a b2 se sn be so lo he inn al go (nI R) (nI K) (nI G) gu gr) _ (wH E a b3 f1 f2 f3 f4 f5 f6 inn0 al0 go0 (nI R) (nI K) (nI G) (nI 0) (nI g)) (wH E a b2 se sn be so lo he inn al go (nI R) (nI K) (nI G) gu gr) rfl rfl) ?_
  have hH : HR R K sn so he (G, be, l) f2 f3 f4 f5 f6 := HR.take hR hK hl h2 h3 h4 h5 h6
  refine mr_iconst C (nI 0) 12 dX2_worth_11 rfl rfl ?_
  refine mr_istore_n C 13 dX2_worth_12 rfl rfl (by decide) ?_
  refine mr_iconst C (nI 0) 14 dX2_worth_13 rfl rfl ?_
  refine mr_istore C 16 dX2_worth_14 rfl (by decide) ?_
  exact mr_at (L f1 f2 f4 f6 0 (Nat.zero_le _) f3 f5 inn0 al0 go0 hH) rfl rfl rfl

