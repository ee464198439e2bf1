/-! Future: bellsToRest -/
/-- how many bells running, the latest of i, moved nobody -/
def stlS (R K : Nat) (sn so he : FN) (x : RST) : Nat → Nat
  | 0 => 0
  | i + 1 => if wentS (rgN (nI 0) 0 R K sn so he x i).2.2 (rgN (nI 0) 0 R K sn so he x (i + 1)).2.2 K = 0 then stlS R K sn so he x i + 1 else 0
def rstS (R K : Nat) (sn so he : FN) (x : RST) : Nat → Nat → Int32
  | 0, _ => -1000000
  | d + 1, k => if stlS R K sn so he x k = 2 then nI k - nI 2 else rstS R K sn so he x d (k + 1)
set_option maxRecDepth 20000 in
set_option maxHeartbeats 4000000 in
theorem c_bellsToRest (E : EG) (a : Nat → Nat) (b b2 b3 b4 : Nat) (hh hr wy : Int32) (se sn be so lo he inn al go se0 sn0 be0 so0 lo0 he0 inn0 al0 go0 : FN) (gu gr ro0 cr0 gn0 gu0 : Int32) (R K G g : Nat) (l : Nat → Nat) (hR : R ≤ 6) (hK : K ≤ 5) (hG : G < 2 ^ 29) (hg : g < 6) (hl : ∀ c, c < K → lo c = nI (l c) ∧ l c < R) : Ctr E mX2_bellsToRest (4, 0, 0) [.ref (a b)] (wF E a b b2 b3 b4 hh hr wy ++ (wH E a b2 se sn be so lo he inn al go (nI R) (nI K) (nI G) gu gr ++ wH E a b3 se0 sn0 be0 so0 lo0 he0 inn0 al0 go0 ro0 cr0 gn0 gu0 (nI g))) (fun v w => ∃ wc, v = some (.int (rstS R K sn so he (G, be, l) 62 1)) ∧ AnyH E a b3 wc ∧ w = wF E a b b2 b3 b4 hh hr wy ++ (wH E a b2 se sn be so lo he inn al go (nI R) (nI K) (nI G) gu gr ++ wc)) := by
  refine Ctr.of (by decide) (Nat.le_of_ble_eq_true rfl) ?_
  intro Z hO hn C
  have hlen : zn Z ≤ 21 := by rw [hn]; exact Nat.le_of_ble_eq_true rfl
  generalize hR0 : rstS R K sn so he (G, be, l) 62 1 = R0 at hO
  have L : ∀ f1 f2 f4 f6 : FN, ∀ i, i ≤ 62 → ∀ be1 lo1 g1 g2 g3 : FN, HR R K sn so he (rgN (nI 0) 0 R K sn so he (G, be, l) i) f2 be1 f4 lo1 f6 → stlS R K sn so he (G, be, l) i ≤ 1 → rstS R K sn so he (G, be, l) (62 - i) (i + 1) = R0 → V E mX2_bellsToRest (4, 0, 0) Z 0 0 (wF E a b b2 b3 b4 hh hr wy ++ (wH E a b2 se sn be so lo he inn al go (nI R) (nI K) (nI G) gu gr ++ wH E a b3 f1 f2 be1 f4 lo1 f6 g1 g2 g3 (nI R) (nI K) (nI (rgN (nI 0) 0 R K sn so he (G, be, l) i).1) (nI 0) (nI g))) [(0, .ref (a b)), (1, .int (nI (stlS R K sn so he (G, be, l) i))), (2, .int (nI (i + 1)))] [] 15 := by
    intro f1 f2 f4 f6
    refine lp_up 62 ?_
    intro i hi ih be1 lo1 g1 g2 g3 hH1 hs he0
    refine mr_iload_n C 16 dX2_bellsToRest_15 rfl rfl ?_
    refine mr_bipush C (nI 62) 18 dX2_bellsToRest_16 rfl rfl ?_
    refine mr_icmpgt C 54 21 dX2_bellsToRest_18 (by decide) rfl (fun c_18 => ?_) (fun c_18 => ?_)
    · rw [nI_ltI (by omega) (by omega)] at c_18
      refine mr_ldc C 56 dX2_bellsToRest_54 rfl kc_X2_56 ?_
      refine mr_iret C dX2_bellsToRest_56 rfl rfl (by decide) (by decide) hlen ?_
      rw [hO]
      obtain rfl : i = 62 := by omega
      rw [← he0]
      exact ⟨_, rfl, ⟨_, _, _, _, _, _, _, _, _, _, _, _, _, _, hg, rfl⟩, rfl⟩
    · rw [nI_ltI (by omega) (by omega)] at c_18
      refine mr_aload_n C 22 dX2_bellsToRest_21 rfl rfl ?_
      refine mr_get C 0 25 dX2_bellsToRest_22 rfl fl_X2_12 rfl rfl ?_
      refine mr_callV C (c_ringH E a b3 f1 f2 be1 f4 lo1 f6 g1 g2 g3 (nI 0) R K g sn so he (rgN (nI 0) 0 R K sn so he (G, be, l) i) hR hK (by rw [rgN_G]; show G + i < _; omega) hg hH1) [11, 12, 13, 14, 15, 16, 17, 18, 19, 20] 11 3 28 dX2_bellsToRest_25 rfl mk_X3_ring mi_X3_ring ml_X2_43 rfl rfl rfl rfl rfl (Nat.le_of_ble_eq_true rfl) (by decide) (by decide) (by decide) rfl rfl (fun r w1 hpost => ?_)
      obtain ⟨be2, lo2, k1, k2, k3, rfl, rfl, hH2⟩ := hpost
      rw [rg1_g0] at hH2 ⊢
      refine mr_w (wput_last (wF E a b b2 b3 b4 hh hr wy) (wH E a b2 se sn be so lo he inn al go (nI R) (nI K) (nI G) gu gr) _ (wH E a b3 f1 f2 be2 f4 lo2 f6 k1 k2 k3 (nI R) (nI K) (nI (rgN (nI 0) 0 R K sn so he (G, be, l) (i + 1)).1) (nI 0) (nI g)) rfl) ?_
      have hH2 : HR R K sn so he (rgN (nI 0) 0 R K sn so he (G, be, l) (i + 1)) f2 be2 f4 lo2 f6 := hH2
      refine mr_ifne C 37 31 dX2_bellsToRest_28 (by decide) rfl (fun c_28 => ?_) (fun c_28 => ?_)
      · refine mr_iconst C (nI 0) 38 dX2_bellsToRest_37 rfl rfl ?_
        refine mr_istore_n C 39 dX2_bellsToRest_38 rfl rfl (by decide) ?_
        refine mr_iload_n C 40 dX2_bellsToRest_39 rfl rfl ?_
        refine mr_iconst C (nI 2) 41 dX2_bellsToRest_40 rfl rfl ?_
        refine mr_icmpne C 48 44 dX2_bellsToRest_41 (by decide) rfl (fun _ => ?_) (fun c_ => absurd c_ (by decide))
        refine mr_iinc C (nI (i + 1 + 1)) 51 dX2_bellsToRest_48 rfl rfl (by decide) (nI_add (i + 1) 1) ?_
        refine mr_goto C 15 dX2_bellsToRest_51 (by decide) ?_
        have e1 : stlS R K sn so he (G, be, l) (i + 1) = 0 := if_neg c_28
        have e : rstS R K sn so he (G, be, l) (62 - i) (i + 1) = rstS R K sn so he (G, be, l) (62 - (i + 1)) (i + 1 + 1) := by
          rw [show 62 - i = (62 - (i + 1)) + 1 by omega]
          exact if_neg (by omega)
        have ih2 := ih (by omega) be2 lo2 k1 k2 k3 hH2 (by omega) (e.symm.trans he0)
        rw [e1] at ih2
        exact mr_at ih2 rfl rfl rfl
      · refine mr_iload_n C 32 dX2_bellsToRest_31 rfl rfl ?_
        refine mr_iconst C (nI 1) 33 dX2_bellsToRest_32 rfl rfl ?_
        refine mr_iadd C (nI ((stlS R K sn so he (G, be, l) i) + 1)) 34 dX2_bellsToRest_33 rfl (nI_add _ _) ?_
        refine mr_goto C 38 dX2_bellsToRest_34 (by decide) ?_
        refine mr_istore_n C 39 dX2_bellsToRest_38 rfl rfl (by decide) ?_
        refine mr_iload_n C 40 dX2_bellsToRest_39 rfl rfl ?_
        refine mr_iconst C (nI 2) 41 dX2_bellsToRest_40 rfl rfl ?_
        refine mr_icmpne C 48 44 dX2_bellsToRest_41 (by decide) rfl (fun c_41 => ?_) (fun c_41 => ?_)
        · rw [Ne, nI_eq (by omega) (by omega)] at c_41
          refine mr_iinc C (nI (i + 1 + 1)) 51 dX2_bellsToRest_48 rfl rfl (by decide) (nI_add (i + 1) 1) ?_
          refine mr_goto C 15 dX2_bellsToRest_51 (by decide) ?_
          have e1 : stlS R K sn so he (G, be, l) (i + 1) = stlS R K sn so he (G, be, l) i + 1 := if_pos c_28
          have e : rstS R K sn so he (G, be, l) (62 - i) (i + 1) = rstS R K sn so he (G, be, l) (62 - (i + 1)) (i + 1 + 1) := by
            rw [show 62 - i = (62 - (i + 1)) + 1 by omega]
            exact if_neg (by omega)
          have ih2 := ih (by omega) be2 lo2 k1 k2 k3 hH2 (by omega) (e.symm.trans he0)
          rw [e1] at ih2
          exact mr_at ih2 rfl rfl rfl
        · rw [nI_eq (by omega) (by omega)] at c_41
          refine mr_iload_n C 45 dX2_bellsToRest_44 rfl rfl ?_
          refine mr_iconst C (nI 2) 46 dX2_bellsToRest_45 rfl rfl ?_
          refine mr_isub C _ 47 dX2_bellsToRest_46 rfl rfl ?_
          refine mr_iret C dX2_bellsToRest_47 rfl rfl (by decide) (by decide) hlen ?_
          rw [hO]
          have e1 : stlS R K sn so he (G, be, l) (i + 1) = stlS R K sn so he (G, be, l) i + 1 := if_pos c_28
          have e : rstS R K sn so he (G, be, l) (62 - i) (i + 1) = nI (i + 1) - nI 2 := by
            rw [show 62 - i = (62 - (i + 1)) + 1 by omega]
            exact if_pos (by omega)
          rw [← he0, e]
          exact ⟨_, rfl, ⟨_, _, _, _, _, _, _, _, _, _, _, _, _, _, hg, rfl⟩, rfl⟩
  refine mr_aload_n C 1 dX2_bellsToRest_0 rfl rfl ?_
  refine mr_get C 0 4 dX2_bellsToRest_1 rfl fl_X2_12 rfl rfl ?_
  refine mr_aload_n C 5 dX2_bellsToRest_4 rfl rfl ?_
  refine mr_get C 0 8 dX2_bellsToRest_5 rfl fl_X2_25 rfl rfl ?_
  refine mr_callV C (c_take E a b3 b2 se0 sn0 be0 so0 lo0 he0 inn0 al0 go0 se sn be so lo he inn al go ro0 cr0 gn0 gu0 (nI g) (nI R) (nI K) (nI G) gu gr) [11, 12, 13, 14, 15, 16, 17, 18, 19, 20, 1, 2, 3, 4, 5, 6, 7, 8, 9, 10] 11 3 11 dX2_bellsToRest_8 rfl mk_X3_take mi_X3_take ml_X2_28 rfl rfl rfl rfl rfl (Nat.le_of_ble_eq_true rfl) (by decide) (by decide) (by decide) rfl rfl (fun r w1 hpost => ?_)
  obtain ⟨f1, f2, f3, f4, f5, f6, rfl, rfl, -, h2, h3, h4, h5, h6⟩ := hpost
  refine mr_w (wput_swap (wF E a b b2 b3 b4 hh hr wy) (wH E a b2 se sn be so lo he inn al go (nI R) (nI K) (nI G) gu gr) _ (wH E a b3 f1 f2 f3 f4 f5 f6 inn0 al0 go0 (nI R) (nI K) (nI G) (nI 0) (nI g)) (wH E a b2 se sn be so lo he inn al go (nI R) (nI K) (nI G) gu gr) rfl rfl) ?_
  have hH : HR R K sn so he (G, be, l) f2 f3 f4 f5 f6 := HR.take hR hK hl h2 h3 h4 h5 h6
  refine mr_iconst C (nI 0) 12 dX2_bellsToRest_11 rfl rfl ?_
  refine mr_istore_n C 13 dX2_bellsToRest_12 rfl rfl (by decide) ?_
  refine mr_iconst C (nI 1) 14 dX2_bellsToRest_13 rfl rfl ?_
  refine mr_istore_n C 15 dX2_bellsToRest_14 rfl rfl (by decide) ?_
  exact mr_at (L f1 f2 f4 f6 0 (Nat.zero_le _) f3 f5 inn0 al0 go0 hH (Nat.zero_le _) hR0) rfl rfl rfl

