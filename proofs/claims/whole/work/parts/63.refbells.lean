/-! the reference: bells one after another -/
/-- the reference's own notes stand for a house while bells ring -/
def HM (R K : Nat) (sn so he : FN) (x : RST) (ho se be wh : FN) : Prop := HR R K sn so he x se be (hoS ho) wh (hoH ho)
theorem c_goBellH (E : EG) (a : Nat → Nat) (tn st ac td lt lg cu tk sr tl fa fp gm tr : Int32) (la mn im ho fr wa tp wh go se no al be ik ke tc : FN) (R K g : Nat) (hR : R ≤ 6) (hK : K ≤ 5) (hg : g < 6) (h0 : ho 0 = nI R) (h2 : ho 2 = nI K) (hk : ∀ c, c < K → ∃ k, 1 ≤ k ∧ k ≤ 5 ∧ hoS ho c = nI k) (sn so he : FN) (x : RST) (hG : x.1 < 2 ^ 30) (hH : HM R K sn so he x ho se be wh) : Ctr E mX8_goBell (3, 0, 0) [.ref (a 0)] (wM E a tn st la mn im ho fr wa ac tp td lt lg cu tk sr tl fa fp wh go se no al be ((nI x.1)) ((nI g)) gm ik ke tc tr) (fun v w => ∃ wh1 be1 f1 f2 h : FN, v = some (.int (wentS x.2.2 (rg1 gm g R K sn so he x).2.2 K)) ∧ w = wM E a tn st la mn im ho fr wa ac tp td lt lg cu tk sr tl fa fp wh1 h se f1 f2 be1 ((nI (rg1 gm g R K sn so he x).1)) ((nI g)) gm ik ke tc tr ∧ HM R K sn so he (rg1 gm g R K sn so he x) ho se be1 wh1) := by
  have hH' : HR R K sn so he x se be (hoS ho) wh (hoH ho) := hH
  refine Ctr.imp (c_goBell E a tn st ac td lt lg cu tk sr tl fa fp gm tr la mn im ho fr wa tp wh go se no al be ik ke tc R K x.1 g x.2.2 hR hK hG hg h0 h2 hk (fun c hc => ⟨(hH'.2.2 c hc).2.2.1, Nat.lt_of_lt_of_le (hH'.2.2 c hc).2.2.2 hR⟩)) ?_
  rintro v w ⟨wh1, be1, f1, f2, h, rfl, rfl, e1, e2⟩
  exact ⟨wh1, be1, f1, f2, h, by rw [hH'.went], rfl, hH'.go hR e1 e2⟩
set_option maxRecDepth 20000 in
set_option maxHeartbeats 4000000 in
theorem c_goBells (E : EG) (a : Nat → Nat) (tn st ac td lt lg cu tk sr tl fa fp gm tr : Int32) (la mn im ho fr wa tp wh go se no al be ik ke tc : FN) (R K g : Nat) (hR : R ≤ 6) (hK : K ≤ 5) (hg : g < 6) (h0 : ho 0 = nI R) (h2 : ho 2 = nI K) (hk : ∀ c, c < K → ∃ k, 1 ≤ k ∧ k ≤ 5 ∧ hoS ho c = nI k) (sn so he : FN) (x : RST) (m : Nat) (hm : m ≤ 100) (hG : x.1 < 2 ^ 29) (hH : HM R K sn so he x ho se be wh) : Ctr E mX8_goBells (4, 0, 0) [.ref (a 0), .int (nI m)] (wM E a tn st la mn im ho fr wa ac tp td lt lg cu tk sr tl fa fp wh go se no al be ((nI x.1)) ((nI g)) gm ik ke tc tr) (fun v w => ∃ wh1 be1 f1 f2 h : FN, v = none ∧ w = wM E a tn st la mn im ho fr wa ac tp td lt lg cu tk sr tl fa fp wh1 h se f1 f2 be1 ((nI (rgN gm g R K sn so he x m).1)) ((nI g)) gm ik ke tc tr ∧ HM R K sn so he (rgN gm g R K sn so he x m) ho se be1 wh1) := by
  refine Ctr.of (by decide) (Nat.le_of_ble_eq_true rfl) ?_
  intro Z hO hn C
  have hlen : zn Z ≤ 17 := by rw [hn]; exact Nat.le_of_ble_eq_true rfl
  have L : ∀ i, i ≤ m → ∀ wh1 be1 f1 f2 h : FN, HM R K sn so he (rgN gm g R K sn so he x i) ho se be1 wh1 → V E mX8_goBells (4, 0, 0) Z 0 0 (wM E a tn st la mn im ho fr wa ac tp td lt lg cu tk sr tl fa fp wh1 h se f1 f2 be1 ((nI (rgN gm g R K sn so he x i).1)) ((nI g)) gm ik ke tc tr) [(0, .ref (a 0)), (1, .int (nI m)), (2, .int (nI i))] [] 2 := by
    refine lp_up m ?_
    intro i hi ih wh1 be1 f1 f2 h hH1
    refine mr_iload_n C 3 dX8_goBells_2 rfl rfl ?_
    refine mr_iload_n C 4 dX8_goBells_3 rfl rfl ?_
    refine mr_icmpge C 18 7 dX8_goBells_4 (by decide) rfl (fun c_4 => ?_) (fun c_4 => ?_)
    · rw [nI_leI (by omega) (by omega)] at c_4
      refine mr_vret C dX8_goBells_18 rfl (by decide) (by decide) hlen ?_
      rw [hO]
      obtain rfl : i = m := by omega
      exact ⟨_, _, _, _, _, rfl, rfl, hH1⟩
    · rw [nI_leI (by omega) (by omega)] at c_4
      refine mr_aload_n C 8 dX8_goBells_7 rfl rfl ?_
      refine mr_callV C (c_goBellH E a tn st ac td lt lg cu tk sr tl fa fp gm tr la mn im ho fr wa tp wh1 h se f1 f2 be1 ik ke tc R K g hR hK hg h0 h2 hk sn so he (rgN gm g R K sn so he x i) (by rw [rgN_G]; omega) hH1) [0, 1, 2, 3, 4, 5, 6, 7, 8, 9, 10, 11, 12, 13, 14, 15, 16] 0 8 11 dX8_goBells_8 rfl mk_X8_goBell mi_X8_goBell ml_X8_213 rfl rfl rfl rfl rfl (Nat.le_of_ble_eq_true rfl) (by decide) (by decide) (by decide) rfl rfl (fun r w1 hpost => ?_)
      obtain ⟨wh2, be2, k1, k2, k3, rfl, rfl, hH2⟩ := hpost
      refine mr_w (wput_all _ _ 17 rfl rfl) ?_
      refine mr_istore_n C 12 dX8_goBells_11 rfl rfl (by decide) ?_
      refine mr_iinc C (nI (i + 1)) 15 dX8_goBells_12 rfl rfl (by decide) (nI_add i 1) ?_
      refine mr_goto C 2 dX8_goBells_15 (by decide) ?_
      exact mr_at (ih (by omega) _ _ _ _ _ hH2) rfl rfl rfl
  refine mr_iconst C (nI 0) 1 dX8_goBells_0 rfl rfl ?_
  refine mr_istore_n C 2 dX8_goBells_1 rfl rfl (by decide) ?_
  exact mr_at (L 0 (Nat.zero_le _) wh be no al go hH) rfl rfl rfl

theorem RH.lay {ho : FN} {R K G : Nat} {se sn be so lo he f h f2 : FN} (hR : RH ho R K G se sn be so lo he) (hl : ∀ c, c < K → lo c = nI (lN_ lo c) ∧ lN_ lo c < R) (h1 : ∀ j, j < R → f j = ho (10 + j) ∧ h j = ho (16 + j)) (h2 : ∀ j, j < K → f2 j = hoL ho j) : HM R K sn so he (G, be, lN_ lo) ho f h f2 :=
  ⟨fun r hr => (h1 r hr).1.trans (hR.2.2.2.1 r hr).2.1, fun _ r hr => (h1 r hr).2.trans (hR.2.2.2.1 r hr).2.2, fun c hc => ⟨(hR.2.2.2.2.2 c hc).1, (hR.2.2.2.2.2 c hc).2.2, ((h2 c hc).trans (hR.2.2.2.2.2 c hc).2.1).trans (hl c hc).1, (hl c hc).2⟩⟩
