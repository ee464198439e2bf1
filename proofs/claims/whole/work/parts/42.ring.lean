/-! Future: bellsToRing -/
/-- the first of k, k+1 .. of which P holds; NONE -/
noncomputable def fstS (P : Nat → Prop) : Nat → Nat → Int32
  | 0, _ => -1000000
  | d + 1, k => ifP (P k) (nI k) (fstS P d (k + 1))
set_option maxRecDepth 20000 in
set_option maxHeartbeats 4000000 in
theorem c_bellsToRing (E : EG) (a : Nat → Nat) (b b2 b3 b4 : Nat) (hh hr wy : Int32) (se sn be so lo he inn al go se0 sn0 be0 so0 lo0 he0 inn0 al0 go0 : FN) (gu gr ro0 cr0 gn0 gu0 : Int32) (R K G g : Nat) (l : Nat → Nat) (hR : R ≤ 6) (hK : K ≤ 5) (hG : G < 2 ^ 29) (hg : g < 6) (hl : ∀ c, c < K → lo c = nI (l c) ∧ l c < R) : Ctr E mX2_bellsToRing (4, 0, 0) [.ref (a b)] (wF E a b b2 b3 b4 hh hr wy ++ (wH E a b2 se sn be so lo he inn al go (nI R) (nI K) (nI G) gu gr ++ wH E a b3 se0 sn0 be0 so0 lo0 he0 inn0 al0 go0 ro0 cr0 gn0 gu0 (nI g))) (fun v w => ∃ wc, v = some (.int (fstS (fun k => ∀ c, c < K → (rgN (nI 0) 0 R K sn so he (G, be, l) k).2.2 c = l c) 60 1)) ∧ AnyH E a b3 wc ∧ w = wF E a b b2 b3 b4 hh hr wy ++ (wH E a b2 se sn be so lo he inn al go (nI R) (nI K) (nI G) gu gr ++ wc)) := by
  refine Ctr.of (by decide) (Nat.le_of_ble_eq_true rfl) ?_
  intro Z hO hn C
  have hlen : zn Z ≤ 21 := by rw [hn]; exact Nat.le_of_ble_eq_true rfl
  generalize hR0 : fstS (fun k => ∀ c, c < K → (rgN (nI 0) 0 R K sn so he (G, be, l) k).2.2 c = l c) 60 1 = R0 at hO
  have L : ∀ f1 f2 f4 f6 : FN, ∀ i, i ≤ 60 → ∀ be1 lo1 g1 g2 g3 : FN, HR R K sn so he (rgN (nI 0) 0 R K sn so he (G, be, l) i) f2 be1 f4 lo1 f6 → fstS (fun k => ∀ c, c < K → (rgN (nI 0) 0 R K sn so he (G, be, l) k).2.2 c = l c) (60 - i) (i + 1) = R0 → V E mX2_bellsToRing (4, 0, 0) Z 0 0 (wF E a b b2 b3 b4 hh hr wy ++ (wH E a b2 se sn be so lo he inn al go (nI R) (nI K) (nI G) gu gr ++ wH E a b3 f1 f2 be1 f4 lo1 f6 g1 g2 g3 (nI R) (nI K) (nI (rgN (nI 0) 0 R K sn so he (G, be, l) i).1) (nI 0) (nI g))) [(0, .ref (a b)), (1, .int (nI (i + 1)))] [] 13 := by
    intro f1 f2 f4 f6
    refine lp_up 60 ?_
    intro i hi ih be1 lo1 g1 g2 g3 hH1 he0
    refine mr_iload_n C 14 dX2_bellsToRing_13 rfl rfl ?_
    refine mr_bipush C (nI 60) 16 dX2_bellsToRing_14 rfl rfl ?_
    refine mr_icmpgt C 42 19 dX2_bellsToRing_16 (by decide) rfl (fun c_16 => ?_) (fun c_16 => ?_)
    · rw [nI_ltI (by omega) (by omega)] at c_16
      refine mr_ldc C 44 dX2_bellsToRing_42 rfl kc_X2_56 ?_
      refine mr_iret C dX2_bellsToRing_44 rfl rfl (by decide) (by decide) hlen ?_
      rw [hO]
      obtain rfl : i = 60 := by omega
      rw [← he0]
      exact ⟨_, rfl, ⟨_, _, _, _, _, _, _, _, _, _, _, _, _, _, hg, rfl⟩, rfl⟩
    · rw [nI_ltI (by omega) (by omega)] at c_16
      refine mr_aload_n C 20 dX2_bellsToRing_19 rfl rfl ?_
      refine mr_get C 0 23 dX2_bellsToRing_20 rfl fl_X2_12 rfl rfl ?_
      refine mr_callV C (c_ringH E a b3 f1 f2 be1 f4 lo1 f6 g1 g2 g3 (nI 0) R K g sn so he (rgN (nI 0) 0 R K sn so he (G, be, l) i) hR hK (by rw [rgN_G]; show G + i < _; omega) hg hH1) [11, 12, 13, 14, 15, 16, 17, 18, 19, 20] 11 3 26 dX2_bellsToRing_23 rfl mk_X3_ring mi_X3_ring ml_X2_43 rfl rfl rfl rfl rfl (Nat.le_of_ble_eq_true rfl) (by decide) (by decide) (by decide) rfl rfl (fun r w1 hpost => ?_)
      obtain ⟨be2, lo2, k1, k2, k3, rfl, rfl, hH2⟩ := hpost
      rw [rg1_g0] at hH2
      refine mr_w (wput_last (wF E a b b2 b3 b4 hh hr wy) (wH E a b2 se sn be so lo he inn al go (nI R) (nI K) (nI G) gu gr) _ (wH E a b3 f1 f2 be2 f4 lo2 f6 k1 k2 k3 (nI R) (nI K) (nI (rgN (nI 0) 0 R K sn so he (G, be, l) (i + 1)).1) (nI 0) (nI g)) rfl) ?_
      have hH2 : HR R K sn so he (rgN (nI 0) 0 R K sn so he (G, be, l) (i + 1)) f2 be2 f4 lo2 f6 := hH2
      refine mr_pop C 27 dX2_bellsToRing_26 rfl rfl ?_
      refine mr_aload_n C 28 dX2_bellsToRing_27 rfl rfl ?_
      refine mr_callV C (c_allAsNow E a b b2 b3 b4 hh hr wy se sn be so lo he inn al go f1 f2 be2 f4 lo2 f6 k1 k2 k3 (nI R) (nI G) gu gr (nI R) (nI K) (nI (rgN (nI 0) 0 R K sn so he (G, be, l) (i + 1)).1) (nI 0) (nI g) K l (rgN (nI 0) 0 R K sn so he (G, be, l) (i + 1)).2.2 hK (fun c hc => ⟨(hl c hc).1, by have := (hl c hc).2; omega⟩) (fun c hc => ⟨(hH2.2.2 c hc).2.2.1, by have := (hH2.2.2 c hc).2.2.2; omega⟩)) [0, 1, 2, 3, 4, 5, 6, 7, 8, 9, 10, 11, 12, 13, 14, 15, 16, 17, 18, 19, 20] 0 2 31 dX2_bellsToRing_28 rfl mk_X2_allAsNow mi_X2_allAsNow ml_X2_57 rfl rfl rfl rfl rfl (Nat.le_of_ble_eq_true rfl) (by decide) (by decide) (by decide) rfl rfl (fun r w1 hpost => ?_)
      obtain ⟨rfl, rfl⟩ := hpost
      refine mr_w (wput_all _ _ 21 rfl rfl) ?_
      refine mr_ifeq C 36 34 dX2_bellsToRing_31 (by decide) rfl (fun c_31 => ?_) (fun c_31 => ?_)
      · rw [bI_eq] at c_31
        refine mr_iinc C (nI (i + 1 + 1)) 39 dX2_bellsToRing_36 rfl rfl (by decide) (nI_add (i + 1) 1) ?_
        refine mr_goto C 13 dX2_bellsToRing_39 (by decide) ?_
        have e : fstS (fun k => ∀ c, c < K → (rgN (nI 0) 0 R K sn so he (G, be, l) k).2.2 c = l c) (60 - i) (i + 1) = fstS (fun k => ∀ c, c < K → (rgN (nI 0) 0 R K sn so he (G, be, l) k).2.2 c = l c) (60 - (i + 1)) (i + 1 + 1) := by
          rw [show 60 - i = (60 - (i + 1)) + 1 by omega]
          exact ifP_f c_31
        exact mr_at (ih (by omega) _ _ _ _ _ hH2 (e.symm.trans he0)) rfl rfl rfl
      · rw [← Ne, bI_ne] at c_31
        refine mr_iload_n C 35 dX2_bellsToRing_34 rfl rfl ?_
        refine mr_iret C dX2_bellsToRing_35 rfl rfl (by decide) (by decide) hlen ?_
        rw [hO]
        have e : fstS (fun k => ∀ c, c < K → (rgN (nI 0) 0 R K sn so he (G, be, l) k).2.2 c = l c) (60 - i) (i + 1) = nI (i + 1) := by
          rw [show 60 - i = (60 - (i + 1)) + 1 by omega]
          exact ifP_t c_31
        rw [← he0, e]
        exact ⟨_, rfl, ⟨_, _, _, _, _, _, _, _, _, _, _, _, _, _, hg, rfl⟩, rfl⟩
  refine mr_aload_n C 1 dX2_bellsToRing_0 rfl rfl ?_
  refine mr_get C 0 4 dX2_bellsToRing_1 rfl fl_X2_12 rfl rfl ?_
  refine mr_aload_n C 5 dX2_bellsToRing_4 rfl rfl ?_
  refine mr_get C 0 8 dX2_bellsToRing_5 rfl fl_X2_25 rfl rfl ?_
  refine mr_callV C (c_take E a b3 b2 se0 sn0 be0 so0 lo0 he0 inn0 al0 go0 se sn be so lo he inn al go ro0 cr0 gn0 gu0 (nI g) (nI R) (nI K) (nI G) gu gr) [11, 12, 13, 14, 15, 16, 17, 18, 19, 20, 1, 2, 3, 4, 5, 6, 7, 8, 9, 10] 11 3 11 dX2_bellsToRing_8 rfl mk_X3_take mi_X3_take ml_X2_28 rfl rfl rfl rfl rfl (Nat.le_of_ble_eq_true rfl) (by decide) (by decide) (by decide) rfl rfl (fun r w1 hpost => ?_)
  obtain ⟨f1, f2, f3, f4, f5, f6, rfl, rfl, -, h2, h3, h4, h5, h6⟩ := hpost
  refine mr_w (wput_swap (wF E a b b2 b3 b4 hh hr wy) (wH E a b2 se sn be so lo he inn al go (nI R) (nI K) (nI G) gu gr) _ (wH E a b3 f1 f2 f3 f4 f5 f6 inn0 al0 go0 (nI R) (nI K) (nI G) (nI 0) (nI g)) (wH E a b2 se sn be so lo he inn al go (nI R) (nI K) (nI G) gu gr) rfl rfl) ?_
  have hH : HR R K sn so he (G, be, l) f2 f3 f4 f5 f6 := HR.take hR hK hl h2 h3 h4 h5 h6
  refine mr_iconst C (nI 1) 12 dX2_bellsToRing_11 rfl rfl ?_
  refine mr_istore_n C 13 dX2_bellsToRing_12 rfl rfl (by decide) ?_
  exact mr_at (L f1 f2 f4 f6 0 (Nat.zero_le _) f3 f5 inn0 al0 go0 hH hR0) rfl rfl rfl

