/-! Future: partedBy -/
theorem drS_ag {f h : FN} {x y : Nat} {z : Int32} (hf : Ag 6 f h) (hx : x < 6) (hy : y < 6) : Ag 6 (drS f x y z) (drS h x y z) := by
  intro r hr
  unfold drS dr1
  simp only [up_at]
  rw [hf r hr, hf x hx, hf y hy]
set_option maxRecDepth 20000 in
set_option maxHeartbeats 4000000 in
theorem c_partedBy (E : EG) (a : Nat → Nat) (b b2 b3 b4 : Nat) (hh hr wy : Int32) (se sn be so lo he inn al go se0 sn0 be0 so0 lo0 he0 inn0 al0 go0 : FN) (gu gr ro0 cr0 gn0 gu0 : Int32) (R K G g : Nat) (l : Nat → Nat) (hR : R ≤ 6) (hK : K ≤ 5) (hG : G < 2 ^ 29) (hg : g < 6) (hl : ∀ c, c < K → lo c = nI (l c) ∧ l c < R) (dx dy ca cb m : Nat) (hdx : dx < R) (hdy : dy < R) (hca : ca < K) (hcb : cb < K) (hm : m ≤ 60) : Ctr E mX2_partedBy (4, 0, 0) [.ref (a b), .int (nI dx), .int (nI dy), .int (nI ca), .int (nI cb), .int (nI m)] (wF E a b b2 b3 b4 hh hr wy ++ (wH E a b2 se sn be so lo he inn al go (nI R) (nI K) (nI G) gu gr ++ wH E a b3 se0 sn0 be0 so0 lo0 he0 inn0 al0 go0 ro0 cr0 gn0 gu0 (nI g))) (fun v w => ∃ wc, v = some (.int (bP (¬ ∃ j, j < m ∧ (rgN (nI 0) 0 R K (drS sn dx dy (nI 0)) so he (G, be, l) (j + 1)).2.2 ca = (rgN (nI 0) 0 R K (drS sn dx dy (nI 0)) so he (G, be, l) (j + 1)).2.2 cb))) ∧ AnyH E a b3 wc ∧ w = wF E a b b2 b3 b4 hh hr wy ++ (wH E a b2 se sn be so lo he inn al go (nI R) (nI K) (nI G) gu gr ++ wc)) := by
  refine Ctr.of (by decide) (Nat.le_of_ble_eq_true rfl) ?_
  intro Z hO hn C
  have hlen : zn Z ≤ 21 := by rw [hn]; exact Nat.le_of_ble_eq_true rfl
  refine mr_aload_n C 1 dX2_partedBy_0 rfl rfl ?_
  refine mr_get C 0 4 dX2_partedBy_1 rfl fl_X2_12 rfl rfl ?_
  refine mr_aload_n C 5 dX2_partedBy_4 rfl rfl ?_
  refine mr_get C 0 8 dX2_partedBy_5 rfl fl_X2_25 rfl rfl ?_
  refine mr_callV C (c_take E a b3 b2 se0 sn0 be0 so0 lo0 he0 inn0 al0 go0 se sn be so lo he inn al go ro0 cr0 gn0 gu0 (nI g) (nI R) (nI K) (nI G) gu gr) [11, 12, 13, 14, 15, 16, 17, 18, 19, 20, 1, 2, 3, 4, 5, 6, 7, 8, 9, 10] 11 3 11 dX2_partedBy_8 rfl mk_X3_take mi_X3_take ml_X2_28 rfl rfl rfl rfl rfl (Nat.le_of_ble_eq_true rfl) (by decide) (by decide) (by decide) rfl rfl (fun r w1 hpost => ?_)
  obtain ⟨f1, f2, f3, f4, f5, f6, rfl, rfl, -, h2, h3, h4, h5, h6⟩ := hpost
  refine mr_w (wput_swap (wF E a b b2 b3 b4 hh hr wy) (wH E a b2 se sn be so lo he inn al go (nI R) (nI K) (nI G) gu gr) _ (wH E a b3 f1 f2 f3 f4 f5 f6 inn0 al0 go0 (nI R) (nI K) (nI G) (nI 0) (nI g)) (wH E a b2 se sn be so lo he inn al go (nI R) (nI K) (nI G) gu gr) rfl rfl) ?_
  have hH : HR R K sn so he (G, be, l) f2 f3 f4 f5 f6 := HR.take hR hK hl h2 h3 h4 h5 h6
  refine mr_aload_n C 12 dX2_partedBy_11 rfl rfl ?_
  refine mr_get C 0 15 dX2_partedBy_12 rfl fl_X2_12 rfl rfl ?_
  refine mr_iload_n C 16 dX2_partedBy_15 rfl rfl ?_
  refine mr_iload_n C 17 dX2_partedBy_16 rfl rfl ?_
  refine mr_iconst C (nI 0) 18 dX2_partedBy_17 rfl rfl ?_
  refine mr_callV C (c_putDoor E a b3 f1 f2 f3 f4 f5 f6 inn0 al0 go0 (nI R) (nI K) (nI G) (nI 0) (nI g) dx dy (nI 0) (by omega) (by omega)) [11, 12, 13, 14, 15, 16, 17, 18, 19, 20] 11 3 21 dX2_partedBy_18 rfl mk_X3_putDoor mi_X3_putDoor ml_X2_112 rfl rfl rfl rfl rfl (Nat.le_of_ble_eq_true rfl) (by decide) (by decide) (by decide) rfl rfl (fun r w1 hpost => ?_)
  obtain ⟨rfl, rfl⟩ := hpost
  refine mr_w (wput_last (wF E a b b2 b3 b4 hh hr wy) (wH E a b2 se sn be so lo he inn al go (nI R) (nI K) (nI G) gu gr) _ (wH E a b3 f1 (drS f2 dx dy (nI 0)) f3 f4 f5 f6 inn0 al0 go0 (nI R) (nI K) (nI G) (nI 0) (nI g)) rfl) ?_
  have hH : HR R K (drS sn dx dy (nI 0)) so he (G, be, l) (drS f2 dx dy (nI 0)) f3 f4 f5 f6 := HR.take hR hK hl (drS_ag h2 (by omega) (by omega)) h3 h4 h5 h6
  refine mr_aload_n C 22 dX2_partedBy_21 rfl rfl ?_
  refine mr_iload_n C 23 dX2_partedBy_22 rfl rfl ?_
  refine mr_iload C 25 dX2_partedBy_23 rfl rfl ?_
  refine mr_iload C 27 dX2_partedBy_25 rfl rfl ?_
  refine mr_callV C (c_meet E a b b2 b3 b4 hh hr wy f1 (drS f2 dx dy (nI 0)) f3 f4 f5 f6 inn0 al0 go0 (nI 0) R K g (drS sn dx dy (nI 0)) so he (G, be, l) ca cb m (by omega) hca hcb hR hK hG hg hH) [0, 11, 12, 13, 14, 15, 16, 17, 18, 19, 20] 0 2 30 dX2_partedBy_27 rfl mk_X2_meet mi_X2_meet ml_X2_75 rfl rfl rfl rfl rfl (Nat.le_of_ble_eq_true rfl) (by decide) (by decide) (by decide) rfl rfl (fun r w1 hpost => ?_)
  obtain ⟨be1, lo1, g1, g2, g3, G1, rfl, rfl⟩ := hpost
  refine mr_w (wput_outer (wF E a b b2 b3 b4 hh hr wy) (wH E a b2 se sn be so lo he inn al go (nI R) (nI K) (nI G) gu gr) _ (wF E a b b2 b3 b4 hh hr wy) (wH E a b3 f1 (drS f2 dx dy (nI 0)) be1 f4 lo1 f6 g1 g2 g3 (nI R) (nI K) (nI G1) (nI 0) (nI g)) rfl rfl) ?_
  simp only [rgN_g0]
  refine mr_ifne C 37 33 dX2_partedBy_30 (by decide) rfl (fun c_30 => ?_) (fun c_30 => ?_)
  · rw [bP_ne] at c_30
    refine mr_iconst C (nI 0) 38 dX2_partedBy_37 rfl rfl ?_
    refine mr_iret C dX2_partedBy_38 rfl rfl (by decide) (by decide) hlen ?_
    rw [hO]
    exact ⟨_, congrArg (fun z => some (Value.int z)) (bP_f (fun h => h c_30)), ⟨_, _, _, _, _, _, _, _, _, _, _, _, _, _, hg, rfl⟩, rfl⟩
  · rw [bP_eq] at c_30
    refine mr_iconst C (nI 1) 34 dX2_partedBy_33 rfl rfl ?_
    refine mr_goto C 38 dX2_partedBy_34 (by decide) ?_
    refine mr_iret C dX2_partedBy_38 rfl rfl (by decide) (by decide) hlen ?_
    rw [hO]
    exact ⟨_, congrArg (fun z => some (Value.int z)) (bP_t c_30), ⟨_, _, _, _, _, _, _, _, _, _, _, _, _, _, hg, rfl⟩, rfl⟩

