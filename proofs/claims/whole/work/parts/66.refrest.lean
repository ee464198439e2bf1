/-! the reference: rests, rings, the hired -/
set_option maxRecDepth 20000 in
set_option maxHeartbeats 4000000 in
theorem c_restIn (E : EG) (a : Nat → Nat) (tn st ac td lt lg cu tk sr tl fa fp tr : Int32) (la mn im ho fr wa tp wh go se no al be ik ke tc : FN) (R K : Nat) (sn0 so0 he0 : FN) (hR : R ≤ 6) (hK : K ≤ 5) (h0 : ho 0 = nI R) (h2 : ho 2 = nI K) (hk : ∀ c, c < K → ∃ k, 1 ≤ k ∧ k ≤ 5 ∧ hoS ho c = nI k) (x : RST) (hG : x.1 < 2 ^ 29) (hH : HM R K sn0 so0 he0 x ho se be wh) : Ctr E mX8_restIn (5, 0, 0) [.ref (a 0)] (wM E a tn st la mn im ho fr wa ac tp td lt lg cu tk sr tl fa fp wh go se no al be ((nI x.1)) ((nI 0)) ((nI 0)) ik ke tc tr) (fun v w => ∃ (wh' be' no' al' go' : FN) (gn' : Int32), v = some (.int (rstS R K sn0 so0 he0 x 62 1)) ∧ w = wM E a tn st la mn im ho fr wa ac tp td lt lg cu tk sr tl fa fp (wh') (go') se (no') (al') (be') (gn') ((nI 0)) ((nI 0)) ik ke tc tr) := by
  refine Ctr.of (by decide) (Nat.le_of_ble_eq_true rfl) ?_
  intro Z hO hn C
  have hlen : zn Z ≤ 17 := by rw [hn]; exact Nat.le_of_ble_eq_true rfl
  generalize hR9 : rstS R K sn0 so0 he0 x 62 1 = R9 at hO
  have L : ∀ i, i ≤ 62 → ∀ wh1 be1 q1 q2 q3 : FN, HM R K sn0 so0 he0 (rgN (nI 0) 0 R K sn0 so0 he0 x i) ho se be1 wh1 → stlS R K sn0 so0 he0 x i ≤ 1 → rstS R K sn0 so0 he0 x (62 - i) (i + 1) = R9 → V E mX8_restIn (5, 0, 0) Z 0 0 (wM E a tn st la mn im ho fr wa ac tp td lt lg cu tk sr tl fa fp wh1 q3 se q1 q2 be1 ((nI (rgN (nI 0) 0 R K sn0 so0 he0 x i).1)) ((nI 0)) ((nI 0)) ik ke tc tr) [(0, .ref (a 0)), (1, .int (nI (stlS R K sn0 so0 he0 x i))), (2, .int (nI i))] [] 4 := by
    refine lp_up 62 ?_
    intro i hi ih wh1 be1 q1 q2 q3 hH1 hs he9
    refine mr_iload_n C 5 dX8_restIn_4 rfl rfl ?_
    refine mr_bipush C (nI 61) 7 dX8_restIn_5 rfl rfl ?_
    refine mr_icmpgt C 40 10 dX8_restIn_7 (by decide) rfl (fun c_7 => ?_) (fun c_7 => ?_)
    · rw [nI_ltI (by omega) (by omega)] at c_7
      refine mr_ldc C 42 dX8_restIn_40 rfl kc_X8_95 ?_
      refine mr_iret C dX8_restIn_42 rfl rfl (by decide) (by decide) hlen ?_
      rw [hO]
      obtain rfl : i = 62 := by omega
      rw [← he9]
      exact ⟨_, _, _, _, _, _, rfl, rfl⟩
    · rw [nI_ltI (by omega) (by omega)] at c_7
      refine mr_aload_n C 11 dX8_restIn_10 rfl rfl ?_
      refine mr_callV C (c_goBellH E a tn st ac td lt lg cu tk sr tl fa fp (nI 0) tr la mn im ho fr wa tp wh1 q3 se q1 q2 be1 ik ke tc R K 0 hR hK (by decide) h0 h2 hk sn0 so0 he0 (rgN (nI 0) 0 R K sn0 so0 he0 x i) (by rw [rgN_G]; omega) hH1) [0, 1, 2, 3, 4, 5, 6, 7, 8, 9, 10, 11, 12, 13, 14, 15, 16] 0 8 14 dX8_restIn_11 rfl mk_X8_goBell mi_X8_goBell ml_X8_213 rfl rfl rfl rfl rfl (Nat.le_of_ble_eq_true rfl) (by decide) (by decide) (by decide) rfl rfl (fun r w1 hpost => ?_)
      obtain ⟨wh2, be2, k1, k2, k3, rfl, rfl, hH2⟩ := hpost
      refine mr_w (wput_all _ _ 17 rfl rfl) ?_
      refine mr_ifne C 23 17 dX8_restIn_14 (by decide) rfl (fun c_14 => ?_) (fun c_14 => ?_)
      · refine mr_iconst C (nI 0) 24 dX8_restIn_23 rfl rfl ?_
        refine mr_istore_n C 25 dX8_restIn_24 rfl rfl (by decide) ?_
        refine mr_iload_n C 26 dX8_restIn_25 rfl rfl ?_
        refine mr_iconst C (nI 2) 27 dX8_restIn_26 rfl rfl ?_
        refine mr_icmpne C 34 30 dX8_restIn_27 (by decide) rfl (fun _ => ?_) (fun c_ => absurd c_ (by decide))
        refine mr_iinc C (nI (i + 1)) 37 dX8_restIn_34 rfl rfl (by decide) (nI_add i 1) ?_
        refine mr_goto C 4 dX8_restIn_37 (by decide) ?_
        have e1 : stlS R K sn0 so0 he0 x (i + 1) = 0 := if_neg c_14
        have e : rstS R K sn0 so0 he0 x (62 - i) (i + 1) = rstS R K sn0 so0 he0 x (62 - (i + 1)) (i + 1 + 1) := by
          rw [show 62 - i = (62 - (i + 1)) + 1 by omega]
          exact if_neg (by omega)
        have ih2 := ih (by omega) wh2 be2 k1 k2 k3 hH2 (by omega) (e.symm.trans he9)
        rw [e1] at ih2
        exact mr_at ih2 rfl rfl rfl
      · refine mr_iload_n C 18 dX8_restIn_17 rfl rfl ?_
        refine mr_iconst C (nI 1) 19 dX8_restIn_18 rfl rfl ?_
        refine mr_iadd C (nI ((stlS R K sn0 so0 he0 x i) + 1)) 20 dX8_restIn_19 rfl (nI_add _ _) ?_
        refine mr_goto C 24 dX8_restIn_20 (by decide) ?_
        refine mr_istore_n C 25 dX8_restIn_24 rfl rfl (by decide) ?_
        refine mr_iload_n C 26 dX8_restIn_25 rfl rfl ?_
        refine mr_iconst C (nI 2) 27 dX8_restIn_26 rfl rfl ?_
        refine mr_icmpne C 34 30 dX8_restIn_27 (by decide) rfl (fun c_27 => ?_) (fun c_27 => ?_)
        · rw [Ne, nI_eq (by omega) (by omega)] at c_27
          refine mr_iinc C (nI (i + 1)) 37 dX8_restIn_34 rfl rfl (by decide) (nI_add i 1) ?_
          refine mr_goto C 4 dX8_restIn_37 (by decide) ?_
          have e1 : stlS R K sn0 so0 he0 x (i + 1) = stlS R K sn0 so0 he0 x i + 1 := if_pos c_14
          have e : rstS R K sn0 so0 he0 x (62 - i) (i + 1) = rstS R K sn0 so0 he0 x (62 - (i + 1)) (i + 1 + 1) := by
            rw [show 62 - i = (62 - (i + 1)) + 1 by omega]
            exact if_neg (by omega)
          have ih2 := ih (by omega) wh2 be2 k1 k2 k3 hH2 (by omega) (e.symm.trans he9)
          rw [e1] at ih2
          exact mr_at ih2 rfl rfl rfl
        · rw [nI_eq (by omega) (by omega)] at c_27
          refine mr_iload_n C 31 dX8_restIn_30 rfl rfl ?_
          refine mr_iconst C (nI 1) 32 dX8_restIn_31 rfl rfl ?_
          refine mr_isub C _ 33 dX8_restIn_32 rfl rfl ?_
          refine mr_iret C dX8_restIn_33 rfl rfl (by decide) (by decide) hlen ?_
          rw [hO]
          have e1 : stlS R K sn0 so0 he0 x (i + 1) = stlS R K sn0 so0 he0 x i + 1 := if_pos c_14
          have hi0 : i ≠ 0 := fun h => by
            subst h; exact absurd (show 0 + 1 = 2 from c_27) (by decide)
          have e : rstS R K sn0 so0 he0 x (62 - i) (i + 1) = nI (i + 1) - nI 2 := by
            rw [show 62 - i = (62 - (i + 1)) + 1 by omega]
            exact if_pos (by omega)
          rw [← he9, e]
          exact ⟨_, _, _, _, _, _, congrArg (fun z => some (Value.int z)) (by rw [pk_sub (by omega), pk_sub (by omega)]; rfl), rfl⟩
  refine mr_iconst C (nI 0) 1 dX8_restIn_0 rfl rfl ?_
  refine mr_istore_n C 2 dX8_restIn_1 rfl rfl (by decide) ?_
  refine mr_iconst C (nI 0) 3 dX8_restIn_2 rfl rfl ?_
  refine mr_istore_n C 4 dX8_restIn_3 rfl rfl (by decide) ?_
  exact mr_at (L 0 (Nat.zero_le _) wh be no al go hH (Nat.zero_le _) hR9) rfl rfl rfl

set_option maxRecDepth 20000 in
set_option maxHeartbeats 4000000 in
theorem c_ringIn (E : EG) (a : Nat → Nat) (tn st ac td lt lg cu tk sr tl fa fp tr : Int32) (la mn im ho fr wa tp wh go se no al be ik ke tc : FN) (R K : Nat) (sn0 so0 he0 : FN) (hR : R ≤ 6) (hK : K ≤ 5) (h0 : ho 0 = nI R) (h2 : ho 2 = nI K) (hk : ∀ c, c < K → ∃ k, 1 ≤ k ∧ k ≤ 5 ∧ hoS ho c = nI k) (x : RST) (hG : x.1 < 2 ^ 29) (hH : HM R K sn0 so0 he0 x ho se be wh) (l0 : Nat → Nat) (hl0 : ∀ c, c < K → hoL ho c = nI (l0 c) ∧ l0 c < 6) : Ctr E mX8_ringIn (5, 0, 0) [.ref (a 0)] (wM E a tn st la mn im ho fr wa ac tp td lt lg cu tk sr tl fa fp wh go se no al be ((nI x.1)) ((nI 0)) ((nI 0)) ik ke tc tr) (fun v w => ∃ (wh' be' no' al' go' : FN) (gn' : Int32), v = some (.int (fstS (fun k => ∀ c, c < K → (rgN (nI 0) 0 R K sn0 so0 he0 x k).2.2 c = l0 c) 60 1)) ∧ w = wM E a tn st la mn im ho fr wa ac tp td lt lg cu tk sr tl fa fp (wh') (go') se (no') (al') (be') (gn') ((nI 0)) ((nI 0)) ik ke tc tr) := by
  refine Ctr.of (by decide) (Nat.le_of_ble_eq_true rfl) ?_
  intro Z hO hn C
  have hlen : zn Z ≤ 17 := by rw [hn]; exact Nat.le_of_ble_eq_true rfl
  generalize hR9 : fstS (fun k => ∀ c, c < K → (rgN (nI 0) 0 R K sn0 so0 he0 x k).2.2 c = l0 c) 60 1 = R9 at hO
  have L : ∀ i, i ≤ 60 → ∀ wh1 be1 q1 q2 q3 : FN, HM R K sn0 so0 he0 (rgN (nI 0) 0 R K sn0 so0 he0 x i) ho se be1 wh1 → fstS (fun k => ∀ c, c < K → (rgN (nI 0) 0 R K sn0 so0 he0 x k).2.2 c = l0 c) (60 - i) (i + 1) = R9 → V E mX8_ringIn (5, 0, 0) Z 0 0 (wM E a tn st la mn im ho fr wa ac tp td lt lg cu tk sr tl fa fp wh1 q3 se q1 q2 be1 ((nI (rgN (nI 0) 0 R K sn0 so0 he0 x i).1)) ((nI 0)) ((nI 0)) ik ke tc tr) [(0, .ref (a 0)), (1, .int (nI (i + 1)))] [] 2 := by
    refine lp_up 60 ?_
    intro i hi ih wh1 be1 q1 q2 q3 hH1 he9
    refine mr_iload_n C 3 dX8_ringIn_2 rfl rfl ?_
    refine mr_bipush C (nI 60) 5 dX8_ringIn_3 rfl rfl ?_
    refine mr_icmpgt C 74 8 dX8_ringIn_5 (by decide) rfl (fun c_5 => ?_) (fun c_5 => ?_)
    · rw [nI_ltI (by omega) (by omega)] at c_5
      refine mr_ldc C 76 dX8_ringIn_74 rfl kc_X8_95 ?_
      refine mr_iret C dX8_ringIn_76 rfl rfl (by decide) (by decide) hlen ?_
      rw [hO]
      obtain rfl : i = 60 := by omega
      rw [← he9]
      exact ⟨_, _, _, _, _, _, rfl, rfl⟩
    · rw [nI_ltI (by omega) (by omega)] at c_5
      refine mr_aload_n C 9 dX8_ringIn_8 rfl rfl ?_
      refine mr_callV C (c_goBellH E a tn st ac td lt lg cu tk sr tl fa fp (nI 0) tr la mn im ho fr wa tp wh1 q3 se q1 q2 be1 ik ke tc R K 0 hR hK (by decide) h0 h2 hk sn0 so0 he0 (rgN (nI 0) 0 R K sn0 so0 he0 x i) (by rw [rgN_G]; omega) hH1) [0, 1, 2, 3, 4, 5, 6, 7, 8, 9, 10, 11, 12, 13, 14, 15, 16] 0 8 12 dX8_ringIn_9 rfl mk_X8_goBell mi_X8_goBell ml_X8_213 rfl rfl rfl rfl rfl (Nat.le_of_ble_eq_true rfl) (by decide) (by decide) (by decide) rfl rfl (fun r w1 hpost => ?_)
      obtain ⟨wh2, be2, k1, k2, k3, rfl, rfl, hH2⟩ := hpost
      refine mr_w (wput_all _ _ 17 rfl rfl) ?_
      refine mr_istore_n C 13 dX8_ringIn_12 rfl rfl (by decide) ?_
      refine mr_iconst C (nI 1) 14 dX8_ringIn_13 rfl rfl ?_
      refine mr_istore_n C 15 dX8_ringIn_14 rfl rfl (by decide) ?_
      refine mr_iconst C (nI 0) 16 dX8_ringIn_15 rfl rfl ?_
      refine mr_istore C 18 dX8_ringIn_16 rfl (by decide) ?_
      have hH2 : HM R K sn0 so0 he0 (rgN (nI 0) 0 R K sn0 so0 he0 x (i + 1)) ho se be2 wh2 := hH2
      have bh_ : V E mX8_ringIn (5, 0, 0) Z 0 0 (wM E a tn st la mn im ho fr wa ac tp td lt lg cu tk sr tl fa fp wh2 k3 se k1 k2 be2 ((nI (rgN (nI 0) 0 R K sn0 so0 he0 x (i + 1)).1)) ((nI 0)) ((nI 0)) ik ke tc tr) [(0, .ref (a 0)), (1, .int (nI (i + 1))), (3, .int (bP (∀ j, j < K → (rgN (nI 0) 0 R K sn0 so0 he0 x (i + 1)).2.2 j = l0 j)))] [] 62 := by
        refine mr_iload_n C 63 dX8_ringIn_62 rfl rfl ?_
        refine mr_ifeq C 68 66 dX8_ringIn_63 (by decide) rfl (fun c_63 => ?_) (fun c_63 => ?_)
        · rw [bP_eq] at c_63
          refine mr_iinc C (nI (i + 1 + 1)) 71 dX8_ringIn_68 rfl rfl (by decide) (nI_add (i + 1) 1) ?_
          refine mr_goto C 2 dX8_ringIn_71 (by decide) ?_
          have e : fstS (fun k => ∀ c, c < K → (rgN (nI 0) 0 R K sn0 so0 he0 x k).2.2 c = l0 c) (60 - i) (i + 1) = fstS (fun k => ∀ c, c < K → (rgN (nI 0) 0 R K sn0 so0 he0 x k).2.2 c = l0 c) (60 - (i + 1)) (i + 1 + 1) := by
            rw [show 60 - i = (60 - (i + 1)) + 1 by omega]
            exact ifP_f c_63
          exact mr_at (ih (by omega) _ _ _ _ _ hH2 (e.symm.trans he9)) rfl rfl rfl
        · rw [← Ne, bP_ne] at c_63
          refine mr_iload_n C 67 dX8_ringIn_66 rfl rfl ?_
          refine mr_iret C dX8_ringIn_67 rfl rfl (by decide) (by decide) hlen ?_
          rw [hO]
          have e : fstS (fun k => ∀ c, c < K → (rgN (nI 0) 0 R K sn0 so0 he0 x k).2.2 c = l0 c) (60 - i) (i + 1) = nI (i + 1) := by
            rw [show 60 - i = (60 - (i + 1)) + 1 by omega]
            exact ifP_t c_63
          rw [← he9, e]
          exact ⟨_, _, _, _, _, _, rfl, rfl⟩
      have IN : ∀ c, c ≤ K → V E mX8_ringIn (5, 0, 0) Z 0 0 (wM E a tn st la mn im ho fr wa ac tp td lt lg cu tk sr tl fa fp wh2 k3 se k1 k2 be2 ((nI (rgN (nI 0) 0 R K sn0 so0 he0 x (i + 1)).1)) ((nI 0)) ((nI 0)) ik ke tc tr) [(0, .ref (a 0)), (1, .int (nI (i + 1))), (3, .int (bP (∀ j, j < c → (rgN (nI 0) 0 R K sn0 so0 he0 x (i + 1)).2.2 j = l0 j))), (4, .int (nI c))] [] 18 := by
        refine lp_up K ?_
        intro c hc ihc
        refine mr_iload C 20 dX8_ringIn_18 rfl rfl ?_
        refine mr_aload_n C 21 dX8_ringIn_20 rfl rfl ?_
        refine mr_get C 0 24 dX8_ringIn_21 rfl fl_X8_19 rfl rfl ?_
        refine mr_iconst C (nI 2) 25 dX8_ringIn_24 rfl rfl ?_
        refine mr_iale C 4 2 (nI K) 26 dX8_ringIn_25 rfl rfl rfl (by omega) (by decide) h2 ?_
        refine mr_icmpge C 62 29 dX8_ringIn_26 (by decide) rfl (fun c_26 => ?_) (fun c_26 => ?_)
        · rw [nI_leI (by omega) (by omega)] at c_26
          obtain rfl : c = K := by omega
          exact mr_at bh_ rfl rfl rfl
        · rw [nI_leI (by omega) (by omega)] at c_26
          refine mr_iload_n C 30 dX8_ringIn_29 rfl rfl ?_
          refine mr_ifeq C 54 33 dX8_ringIn_30 (by decide) rfl (fun c_30 => ?_) (fun c_30 => ?_)
          · rw [bP_eq] at c_30
            refine mr_iconst C (nI 0) 55 dX8_ringIn_54 rfl rfl ?_
            refine mr_istore_n C 56 dX8_ringIn_55 rfl rfl (by decide) ?_
            refine mr_iinc C (nI (c + 1)) 59 dX8_ringIn_56 rfl rfl (by decide) (nI_add c 1) ?_
            refine mr_goto C 18 dX8_ringIn_59 (by decide) ?_
            have e : nI 0 = bP (∀ j, j < (c + 1) → (rgN (nI 0) 0 R K sn0 so0 he0 x (i + 1)).2.2 j = l0 j) := bP_f (fun h => c_30 (fun j hj => h j (by omega)))
            have ih2 := ihc (by omega)
            rw [← e] at ih2
            exact mr_at ih2 rfl rfl rfl
          · rw [← Ne, bP_ne] at c_30
            refine mr_aload_n C 34 dX8_ringIn_33 rfl rfl ?_
            refine mr_get C 0 37 dX8_ringIn_34 rfl fl_X8_31 rfl rfl ?_
            refine mr_iload C 39 dX8_ringIn_37 rfl rfl ?_
            refine mr_iald C 8 c 40 dX8_ringIn_39 rfl rfl rfl (by omega) (by decide) ?_
            refine mr_aload_n C 41 dX8_ringIn_40 rfl rfl ?_
            refine mr_iload C 43 dX8_ringIn_41 rfl rfl ?_
            refine mr_iconst C (nI 1) 44 dX8_ringIn_43 rfl rfl ?_
            refine mr_callV C (c_of E a tn st ac td lt lg cu tk sr tl fa fp ((nI (rgN (nI 0) 0 R K sn0 so0 he0 x (i + 1)).1)) (nI 0) (nI 0) tr la mn im ho fr wa tp wh2 k3 se k1 k2 be2 ik ke tc c 1 (by omega) (by decide) (hoL ho c) rfl) [0, 1, 2, 3, 4, 5, 6, 7, 8, 9, 10, 11, 12, 13, 14, 15, 16] 0 8 47 dX8_ringIn_44 rfl mk_X8_of mi_X8_of ml_X8_201 rfl rfl rfl rfl rfl (Nat.le_of_ble_eq_true rfl) (by decide) (by decide) (by decide) rfl rfl (fun r w1 hpost => ?_)
            obtain ⟨rfl, rfl⟩ := hpost
            refine mr_w (wput_all _ _ 17 rfl rfl) ?_
            refine mr_icmpne C 54 50 dX8_ringIn_47 (by decide) rfl (fun c_47 => ?_) (fun c_47 => ?_)
            · rw [Ne, ((hH2 : HM R K sn0 so0 he0 (rgN (nI 0) 0 R K sn0 so0 he0 x (i + 1)) ho se be2 wh2).2.2 c (by omega)).2.2.1, (hl0 c (by omega)).1, nI_eq (by have := (hH2.2.2 c (by omega)).2.2.2; omega) (by have := (hl0 c (by omega)).2; omega)] at c_47
              refine mr_iconst C (nI 0) 55 dX8_ringIn_54 rfl rfl ?_
              refine mr_istore_n C 56 dX8_ringIn_55 rfl rfl (by decide) ?_
              refine mr_iinc C (nI (c + 1)) 59 dX8_ringIn_56 rfl rfl (by decide) (nI_add c 1) ?_
              refine mr_goto C 18 dX8_ringIn_59 (by decide) ?_
              have e : nI 0 = bP (∀ j, j < (c + 1) → (rgN (nI 0) 0 R K sn0 so0 he0 x (i + 1)).2.2 j = l0 j) := bP_f (fun h => c_47 (h c (by omega)))
              have ih2 := ihc (by omega)
              rw [← e] at ih2
              exact mr_at ih2 rfl rfl rfl
            · rw [((hH2 : HM R K sn0 so0 he0 (rgN (nI 0) 0 R K sn0 so0 he0 x (i + 1)) ho se be2 wh2).2.2 c (by omega)).2.2.1, (hl0 c (by omega)).1, nI_eq (by have := (hH2.2.2 c (by omega)).2.2.2; omega) (by have := (hl0 c (by omega)).2; omega)] at c_47
              refine mr_iconst C (nI 1) 51 dX8_ringIn_50 rfl rfl ?_
              refine mr_goto C 55 dX8_ringIn_51 (by decide) ?_
              refine mr_istore_n C 56 dX8_ringIn_55 rfl rfl (by decide) ?_
              refine mr_iinc C (nI (c + 1)) 59 dX8_ringIn_56 rfl rfl (by decide) (nI_add c 1) ?_
              refine mr_goto C 18 dX8_ringIn_59 (by decide) ?_
              have e : nI 1 = bP (∀ j, j < (c + 1) → (rgN (nI 0) 0 R K sn0 so0 he0 x (i + 1)).2.2 j = l0 j) := bP_t (fun j hj => by by_cases e : j = c; exact e ▸ c_47; exact c_30 j (by omega))
              have ih2 := ihc (by omega)
              rw [← e] at ih2
              exact mr_at ih2 rfl rfl rfl
      have i0 := IN 0 (Nat.zero_le _)
      rw [← bP_t (p := ∀ j, j < 0 → (rgN (nI 0) 0 R K sn0 so0 he0 x (i + 1)).2.2 j = l0 j) (fun j h => absurd h (Nat.not_lt_zero j))] at i0
      exact mr_at i0 rfl rfl rfl
  refine mr_iconst C (nI 1) 1 dX8_ringIn_0 rfl rfl ?_
  refine mr_istore_n C 2 dX8_ringIn_1 rfl rfl (by decide) ?_
  exact mr_at (L 0 (Nat.zero_le _) wh be no al go hH hR9) rfl rfl rfl

set_option maxRecDepth 20000 in
set_option maxHeartbeats 4000000 in
theorem c_m_rest (E : EG) (a : Nat → Nat) (tn st ac td lt lg cu tk sr tl fa fp gn gi gm tr : Int32) (la mn im ho fr wa tp wh go se no al be ik ke tc : FN) (R K G : Nat) (se0 sn0 be0 so0 lo0 he0 : FN) (hR : R ≤ 6) (hK : K ≤ 5) (hG : G ≤ 9999) (hl : ∀ c, c < K → lo0 c = nI (lN_ lo0 c) ∧ lN_ lo0 c < R) (hso : ∀ c, c < K → ∃ k, 1 ≤ k ∧ k ≤ 5 ∧ so0 c = nI k) (hrh : RH ho R K G se0 sn0 be0 so0 lo0 he0) (y0 : Int32)  : Ctr E mX8_rest (6, 0, 0) [.ref (a 0), .int y0] (wM E a tn st la mn im ho fr wa ac tp td lt lg cu tk sr tl fa fp wh go se no al be gn gi gm ik ke tc tr) (fun v w => ∃ (wh' go' se' no' al' be' : FN) (gn' gi' gm' : Int32), v = some (.int (restV y0 R K sn0 so0 he0 (G, be0, lN_ lo0))) ∧ w = wM E a ((nI 0)) st la mn im ho fr wa ac tp td lt lg cu tk sr tl fa fp (wh') (go') (se') (no') (al') (be') (gn') (gi') (gm') ik ke tc tr) := by
  refine Ctr.of (by decide) (Nat.le_of_ble_eq_true rfl) ?_
  intro Z hO hn C
  have hlen : zn Z ≤ 17 := by rw [hn]; exact Nat.le_of_ble_eq_true rfl
  have h0 := hrh.1
  have h2 := hrh.2.1
  have h3 := hrh.2.2.1
  have hk : ∀ c, c < K → ∃ k, 1 ≤ k ∧ k ≤ 5 ∧ hoS ho c = nI k := fun c hc => by
    obtain ⟨k, e1, e2, e3⟩ := hso c hc
    exact ⟨k, e1, e2, (hrh.2.2.2.2.2 c hc).1.trans e3⟩
  refine mr_aload_n C 1 dX8_rest_0 rfl rfl ?_
  refine mr_iconst C (nI 0) 2 dX8_rest_1 rfl rfl ?_
  refine mr_put C 0 5 dX8_rest_2 rfl fs_X8_59 rfl rfl rfl (Nat.le_of_ble_eq_true rfl) ?_
  refine mr_w (ws' := wM E a ((nI 0)) st la mn im ho fr wa ac tp td lt lg cu tk sr tl fa fp wh go se no al be gn gi gm ik ke tc tr) rfl ?_
  refine mr_aload_n C 6 dX8_rest_5 rfl rfl ?_
  refine mr_callV C (c_m_isThere E a ((nI 0)) st ac td lt lg cu tk sr tl fa fp gn gi gm tr la mn im ho fr wa tp wh go se no al be ik ke tc R hR h0) [0, 1, 2, 3, 4, 5, 6, 7, 8, 9, 10, 11, 12, 13, 14, 15, 16] 0 8 9 dX8_rest_6 rfl mk_X8_isThere mi_X8_isThere ml_X8_222 rfl rfl rfl rfl rfl (Nat.le_of_ble_eq_true rfl) (by decide) (by decide) (by decide) rfl rfl (fun r w1 hpost => ?_)
  obtain ⟨rfl, rfl⟩ := hpost
  refine mr_w (wput_all _ _ 17 rfl rfl) ?_
  refine mr_ifne C 15 12 dX8_rest_9 (by decide) rfl (fun c_9 => ?_) (fun c_9 => ?_)
  · rw [bI_ne] at c_9
    refine mr_iload_n C 16 dX8_rest_15 rfl rfl ?_
    refine mr_i2l C _ 17 dX8_rest_16 rfl rfl ?_
    refine mr_lconst C 0 18 dX8_rest_17 rfl rfl ?_
    refine mr_lconst C 1 19 dX8_rest_18 rfl rfl ?_
    refine mr_callS C (c_inK E y0 (0) (1) _ _ rfl rfl) [] 22 dX8_rest_19 rfl mk_X8_in ms_X8_in ml_X8_69 rfl rfl rfl rfl (Nat.le_of_ble_eq_true rfl) (by decide) (by decide) (by decide) (fun r w1 hpost => ?_)
    obtain ⟨rfl, rfl⟩ := hpost
    refine mr_w (ws' := wM E a ((nI 0)) st la mn im ho fr wa ac tp td lt lg cu tk sr tl fa fp wh go se no al be gn gi gm ik ke tc tr) rfl ?_
    refine mr_ifne C 28 25 dX8_rest_22 (by decide) rfl (fun c_22 => ?_) (fun c_22 => ?_)
    · rw [bI_ne] at c_22
      refine mr_aload_n C 29 dX8_rest_28 rfl rfl ?_
      refine mr_callV C (c_layNow E a ((nI 0)) st ac td lt lg cu tk sr tl fa fp gn gi gm tr la mn im ho fr wa tp wh go se no al be ik ke tc R K G hR hK h0 h2 h3) [0, 1, 2, 3, 4, 5, 6, 7, 8, 9, 10, 11, 12, 13, 14, 15, 16] 0 8 32 dX8_rest_29 rfl mk_X8_layNow mi_X8_layNow ml_X8_219 rfl rfl rfl rfl rfl (Nat.le_of_ble_eq_true rfl) (by decide) (by decide) (by decide) rfl rfl (fun r w1 hpost => ?_)
      obtain ⟨f1, f2, f3_, rfl, rfl, hf1, hf2⟩ := hpost
      have hH : HM R K sn0 so0 he0 (G, be0, lN_ lo0) ho f1 f2 f3_ := hrh.lay hl hf1 hf2
      refine mr_w (wput_all _ _ 17 rfl rfl) ?_
      refine mr_iload_n C 33 dX8_rest_32 rfl rfl ?_
      refine mr_ifne C 43 36 dX8_rest_33 (by decide) rfl (fun c_33 => ?_) (fun c_33 => ?_)
      · rw [Ne, tI_eq0] at c_33
        refine mr_aload_n C 44 dX8_rest_43 rfl rfl ?_
        refine mr_callV C (c_ringIn E a ((nI 0)) st ac td lt lg cu tk sr tl fa fp tr la mn im ho fr wa tp f3_ go f1 no al f2 ik ke tc R K sn0 so0 he0 hR hK h0 h2 hk (G, be0, lN_ lo0) (by show G < 2 ^ 29; omega) hH (lN_ lo0) (fun c hc => ⟨((hrh.2.2.2.2.2 c hc).2.1).trans (hl c hc).1, Nat.lt_of_lt_of_le (hl c hc).2 hR⟩)) [0, 1, 2, 3, 4, 5, 6, 7, 8, 9, 10, 11, 12, 13, 14, 15, 16] 0 8 47 dX8_rest_44 rfl mk_X8_ringIn mi_X8_ringIn ml_X8_255 rfl rfl rfl rfl rfl (Nat.le_of_ble_eq_true rfl) (by decide) (by decide) (by decide) rfl rfl (fun r w1 hpost => ?_)
        obtain ⟨wh1, be1, q1, q2, q3, gn1, rfl, rfl⟩ := hpost
        refine mr_w (wput_all _ _ 17 rfl rfl) ?_
        refine mr_iret C dX8_rest_47 rfl rfl (by decide) (by decide) hlen ?_
        rw [hO]
        exact ⟨_, _, _, _, _, _, _, _, _, congrArg (fun z => some (Value.int z)) (((ifP_f (by omega)).trans ((ifP_t (by omega)).trans (ifP_f (by omega)))).symm), rfl⟩
      · rw [tI_eq0] at c_33
        refine mr_aload_n C 37 dX8_rest_36 rfl rfl ?_
        refine mr_callV C (c_restIn E a ((nI 0)) st ac td lt lg cu tk sr tl fa fp tr la mn im ho fr wa tp f3_ go f1 no al f2 ik ke tc R K sn0 so0 he0 hR hK h0 h2 hk (G, be0, lN_ lo0) (by show G < 2 ^ 29; omega) hH ) [0, 1, 2, 3, 4, 5, 6, 7, 8, 9, 10, 11, 12, 13, 14, 15, 16] 0 8 40 dX8_rest_37 rfl mk_X8_restIn mi_X8_restIn ml_X8_252 rfl rfl rfl rfl rfl (Nat.le_of_ble_eq_true rfl) (by decide) (by decide) (by decide) rfl rfl (fun r w1 hpost => ?_)
        obtain ⟨wh1, be1, q1, q2, q3, gn1, rfl, rfl⟩ := hpost
        refine mr_w (wput_all _ _ 17 rfl rfl) ?_
        refine mr_goto C 47 dX8_rest_40 (by decide) ?_
        refine mr_iret C dX8_rest_47 rfl rfl (by decide) (by decide) hlen ?_
        rw [hO]
        exact ⟨_, _, _, _, _, _, _, _, _, congrArg (fun z => some (Value.int z)) (((ifP_f (by omega)).trans ((ifP_t (by omega)).trans (ifP_t (by omega)))).symm), rfl⟩
    · rw [bI_eq] at c_22
      refine mr_ldc C 27 dX8_rest_25 rfl kc_X8_79 ?_
      refine mr_iret C dX8_rest_27 rfl rfl (by decide) (by decide) hlen ?_
      rw [hO]
      exact ⟨_, _, _, _, _, _, _, _, _, congrArg (fun z => some (Value.int z)) (((ifP_f (by omega)).trans (ifP_f (by omega))).symm), rfl⟩
  · rw [bI_eq] at c_9
    refine mr_ldc C 14 dX8_rest_12 rfl kc_X8_226 ?_
    refine mr_iret C dX8_rest_14 rfl rfl (by decide) (by decide) hlen ?_
    rw [hO]
    exact ⟨_, _, _, _, _, _, _, _, _, congrArg (fun z => some (Value.int z)) ((ifP_t (by omega)).symm), rfl⟩

set_option maxRecDepth 20000 in
set_option maxHeartbeats 4000000 in
theorem c_layHired (E : EG) (a : Nat → Nat) (tn st ac td lt lg cu tk sr tl fa fp gn gi gm tr : Int32) (la mn im ho fr wa tp wh go se no al be ik ke tc : FN) (R K G : Nat) (se0 sn0 be0 so0 lo0 he0 : FN) (hR : R ≤ 6) (hK : K ≤ 5) (hG : G ≤ 9999) (hl : ∀ c, c < K → lo0 c = nI (lN_ lo0 c) ∧ lN_ lo0 c < R) (hso : ∀ c, c < K → ∃ k, 1 ≤ k ∧ k ≤ 5 ∧ so0 c = nI k) (hrh : RH ho R K G se0 sn0 be0 so0 lo0 he0) (g m : Nat) (hg : g < R) : Ctr E mX8_layHired (4, 0, 0) [.ref (a 0), .int (nI g), .int (nI m)] (wM E a tn st la mn im ho fr wa ac tp td lt lg cu tk sr tl fa fp wh go se no al be gn gi gm ik ke tc tr) (fun v w => ∃ f1 f2 f3_ : FN, v = none ∧ w = wM E a tn st la mn im ho fr wa ac tp td lt lg cu tk sr tl fa fp f3_ go f1 no al f2 ((nI G)) ((nI g)) ((nI m)) ik ke tc tr ∧ HM R K sn0 so0 he0 (G, upd be0 g (be0 g + nI m), lN_ lo0) ho f1 f2 f3_) := by
  refine Ctr.of (by decide) (Nat.le_of_ble_eq_true rfl) ?_
  intro Z hO hn C
  have hlen : zn Z ≤ 17 := by rw [hn]; exact Nat.le_of_ble_eq_true rfl
  have h0 := hrh.1
  have h2 := hrh.2.1
  have h3 := hrh.2.2.1
  have hk : ∀ c, c < K → ∃ k, 1 ≤ k ∧ k ≤ 5 ∧ hoS ho c = nI k := fun c hc => by
    obtain ⟨k, e1, e2, e3⟩ := hso c hc
    exact ⟨k, e1, e2, (hrh.2.2.2.2.2 c hc).1.trans e3⟩
  refine mr_aload_n C 1 dX8_layHired_0 rfl rfl ?_
  refine mr_callV C (c_layNow E a tn st ac td lt lg cu tk sr tl fa fp gn gi gm tr la mn im ho fr wa tp wh go se no al be ik ke tc R K G hR hK h0 h2 h3) [0, 1, 2, 3, 4, 5, 6, 7, 8, 9, 10, 11, 12, 13, 14, 15, 16] 0 8 4 dX8_layHired_1 rfl mk_X8_layNow mi_X8_layNow ml_X8_219 rfl rfl rfl rfl rfl (Nat.le_of_ble_eq_true rfl) (by decide) (by decide) (by decide) rfl rfl (fun r w1 hpost => ?_)
  obtain ⟨f1, f2, f3_, rfl, rfl, hf1, hf2⟩ := hpost
  have hH : HM R K sn0 so0 he0 (G, be0, lN_ lo0) ho f1 f2 f3_ := hrh.lay hl hf1 hf2
  refine mr_w (wput_all _ _ 17 rfl rfl) ?_
  refine mr_aload_n C 5 dX8_layHired_4 rfl rfl ?_
  refine mr_iload_n C 6 dX8_layHired_5 rfl rfl ?_
  refine mr_put C 0 9 dX8_layHired_6 rfl fs_X8_198 rfl rfl rfl (Nat.le_of_ble_eq_true rfl) ?_
  refine mr_aload_n C 10 dX8_layHired_9 rfl rfl ?_
  refine mr_iload_n C 11 dX8_layHired_10 rfl rfl ?_
  refine mr_put C 0 14 dX8_layHired_11 rfl fs_X8_195 rfl rfl rfl (Nat.le_of_ble_eq_true rfl) ?_
  refine mr_aload_n C 15 dX8_layHired_14 rfl rfl ?_
  refine mr_get C 0 18 dX8_layHired_15 rfl fl_X8_46 rfl rfl ?_
  refine mr_iload_n C 19 dX8_layHired_18 rfl rfl ?_
  refine mr_dup2 C 20 dX8_layHired_19 rfl rfl rfl ?_
  refine mr_iald C 13 g 21 dX8_layHired_20 rfl rfl rfl (by omega) (by decide) ?_
  refine mr_iload_n C 22 dX8_layHired_21 rfl rfl ?_
  refine mr_iadd C _ 23 dX8_layHired_22 rfl rfl ?_
  refine mr_iast C 13 g 24 dX8_layHired_23 rfl rfl rfl (by omega) (by decide) ?_
  refine mr_vret C dX8_layHired_24 rfl (by decide) (by decide) hlen ?_
  rw [hO]
  refine ⟨f1, upd f2 g (f2 g + nI m), f3_, rfl, rfl, ⟨hH.1, fun h r hr => ?_, hH.2.2⟩⟩
  show upd f2 g (f2 g + nI m) r = upd be0 g (be0 g + nI m) r
  have e1 := fun r hr => (hf1 r hr).2.trans (hrh.2.2.2.1 r hr).2.2
  rw [up_at, up_at]
  by_cases e : r = g
  · rw [if_pos e, if_pos e, e1 g hg]
  · rw [if_neg e, if_neg e]; exact e1 r hr

theorem bP_nar {q : Prop} : narrow .boolean (.int (bP q)) = .int (bP q) := @bI_nar q (Classical.propDecidable q)
set_option maxRecDepth 20000 in
set_option maxHeartbeats 4000000 in
theorem c_isSo (E : EG) (a : Nat → Nat) (tn st ac td lt lg cu tk sr tl fa fp gn gi gm tr : Int32) (la mn im ho fr wa tp wh go se no al be ik ke tc : FN) (R K : Nat) (sn0 so0 he0 : FN) (hR : R ≤ 6) (hK : K ≤ 5) (h2 : ho 2 = nI K) (x : RST) (hH : HM R K sn0 so0 he0 x ho se be wh) (r em : Nat) (hr : r < 6) (hem : em ≤ 1) : Ctr E mX8_isSo (2, 0, 0) [.ref (a 0), .int (nI r), .int (nI em)] (wM E a tn st la mn im ho fr wa ac tp td lt lg cu tk sr tl fa fp wh go se no al be gn gi gm ik ke tc tr) (fun v w => v = some (.int (bP (∀ j, j < K → (em = 1 → x.2.2 j ≠ r) ∧ (em = 0 → x.2.2 j = r ∨ so0 j = nI 4)))) ∧ w = wM E a tn st la mn im ho fr wa ac tp td lt lg cu tk sr tl fa fp wh go se no al be gn gi gm ik ke tc tr) := by
  refine Ctr.of (by decide) (Nat.le_of_ble_eq_true rfl) ?_
  intro Z hO hn C
  have hlen : zn Z ≤ 17 := by rw [hn]; exact Nat.le_of_ble_eq_true rfl
  have L : ∀ c, c ≤ K → V E mX8_isSo (2, 0, 0) Z 0 0 (wM E a tn st la mn im ho fr wa ac tp td lt lg cu tk sr tl fa fp wh go se no al be gn gi gm ik ke tc tr) [(0, .ref (a 0)), (1, .int (nI r)), (2, .int (nI em)), (3, .int (bP (∀ j, j < c → (em = 1 → x.2.2 j ≠ r) ∧ (em = 0 → x.2.2 j = r ∨ so0 j = nI 4)))), (4, .int (nI c))] [] 5 := by
    refine lp_up K ?_
    intro c hc ihc
    refine mr_iload C 7 dX8_isSo_5 rfl rfl ?_
    refine mr_aload_n C 8 dX8_isSo_7 rfl rfl ?_
    refine mr_get C 0 11 dX8_isSo_8 rfl fl_X8_19 rfl rfl ?_
    refine mr_iconst C (nI 2) 12 dX8_isSo_11 rfl rfl ?_
    refine mr_iale C 4 2 (nI K) 13 dX8_isSo_12 rfl rfl rfl (by omega) (by decide) h2 ?_
    refine mr_icmpge C 72 16 dX8_isSo_13 (by decide) rfl (fun c_13 => ?_) (fun c_13 => ?_)
    · rw [nI_leI (by omega) (by omega)] at c_13
      refine mr_iload_n C 73 dX8_isSo_72 rfl rfl ?_
      refine mr_iret C dX8_isSo_73 rfl bP_nar (by decide) (by decide) hlen ?_
      rw [hO]
      obtain rfl : c = K := by omega
      exact ⟨rfl, rfl⟩
    · rw [nI_leI (by omega) (by omega)] at c_13
      refine mr_iload_n C 17 dX8_isSo_16 rfl rfl ?_
      refine mr_ifeq C 64 20 dX8_isSo_17 (by decide) rfl (fun c_17 => ?_) (fun c_17 => ?_)
      · rw [bP_eq] at c_17
        refine mr_iconst C (nI 0) 65 dX8_isSo_64 rfl rfl ?_
        refine mr_istore_n C 66 dX8_isSo_65 rfl rfl (by decide) ?_
        refine mr_iinc C (nI (c + 1)) 69 dX8_isSo_66 rfl rfl (by decide) (nI_add c 1) ?_
        refine mr_goto C 5 dX8_isSo_69 (by decide) ?_
        have e : nI 0 = bP (∀ j, j < (c + 1) → (em = 1 → x.2.2 j ≠ r) ∧ (em = 0 → x.2.2 j = r ∨ so0 j = nI 4)) := bP_f (fun h => c_17 (fun j hj => h j (by omega)))
        have ih2 := ihc (by omega)
        rw [← e] at ih2
        exact mr_at ih2 rfl rfl rfl
      · rw [← Ne, bP_ne] at c_17
        refine mr_iload_n C 21 dX8_isSo_20 rfl rfl ?_
        refine mr_ifeq C 38 24 dX8_isSo_21 (by decide) rfl (fun c_21 => ?_) (fun c_21 => ?_)
        · have c_21 : em = 0 := (nI_eq (b := 0) (by omega) (by omega)).mp c_21
          refine mr_aload_n C 39 dX8_isSo_38 rfl rfl ?_
          refine mr_get C 0 42 dX8_isSo_39 rfl fl_X8_31 rfl rfl ?_
          refine mr_iload C 44 dX8_isSo_42 rfl rfl ?_
          refine mr_iald C 8 c 45 dX8_isSo_44 rfl rfl rfl (by omega) (by decide) ?_
          refine mr_iload_n C 46 dX8_isSo_45 rfl rfl ?_
          refine mr_icmpeq C 60 49 dX8_isSo_46 (by decide) rfl (fun c_46 => ?_) (fun c_46 => ?_)
          · rw [(hH.2.2 c (by omega)).2.2.1, nI_eq (by have := (hH.2.2 c (by omega)).2.2.2; omega) (by omega)] at c_46
            refine mr_iconst C (nI 1) 61 dX8_isSo_60 rfl rfl ?_
            refine mr_goto C 65 dX8_isSo_61 (by decide) ?_
            refine mr_istore_n C 66 dX8_isSo_65 rfl rfl (by decide) ?_
            refine mr_iinc C (nI (c + 1)) 69 dX8_isSo_66 rfl rfl (by decide) (nI_add c 1) ?_
            refine mr_goto C 5 dX8_isSo_69 (by decide) ?_
            have e : nI 1 = bP (∀ j, j < (c + 1) → (em = 1 → x.2.2 j ≠ r) ∧ (em = 0 → x.2.2 j = r ∨ so0 j = nI 4)) := bP_t (fun j hj => by by_cases e : j = c; exact e ▸ ⟨fun h => absurd (c_21.symm.trans h) (by decide), fun _ => Or.inl c_46⟩; exact c_17 j (by omega))
            have ih2 := ihc (by omega)
            rw [← e] at ih2
            exact mr_at ih2 rfl rfl rfl
          · rw [(hH.2.2 c (by omega)).2.2.1, nI_eq (by have := (hH.2.2 c (by omega)).2.2.2; omega) (by omega)] at c_46
            refine mr_aload_n C 50 dX8_isSo_49 rfl rfl ?_
            refine mr_iload C 52 dX8_isSo_50 rfl rfl ?_
            refine mr_iconst C (nI 0) 53 dX8_isSo_52 rfl rfl ?_
            refine mr_callV C (c_of E a tn st ac td lt lg cu tk sr tl fa fp gn gi gm tr la mn im ho fr wa tp wh go se no al be ik ke tc c 0 (by omega) (by decide) (so0 c) (hH.2.2 c (by omega)).1) [0, 1, 2, 3, 4, 5, 6, 7, 8, 9, 10, 11, 12, 13, 14, 15, 16] 0 8 56 dX8_isSo_53 rfl mk_X8_of mi_X8_of ml_X8_201 rfl rfl rfl rfl rfl (Nat.le_of_ble_eq_true rfl) (by decide) (by decide) (by decide) rfl rfl (fun r w1 hpost => ?_)
            obtain ⟨rfl, rfl⟩ := hpost
            refine mr_w (wput_all _ _ 17 rfl rfl) ?_
            refine mr_iconst C (nI 4) 57 dX8_isSo_56 rfl rfl ?_
            refine mr_icmpne C 64 60 dX8_isSo_57 (by decide) rfl (fun c_57 => ?_) (fun c_57 => ?_)
            · refine mr_iconst C (nI 0) 65 dX8_isSo_64 rfl rfl ?_
              refine mr_istore_n C 66 dX8_isSo_65 rfl rfl (by decide) ?_
              refine mr_iinc C (nI (c + 1)) 69 dX8_isSo_66 rfl rfl (by decide) (nI_add c 1) ?_
              refine mr_goto C 5 dX8_isSo_69 (by decide) ?_
              have e : nI 0 = bP (∀ j, j < (c + 1) → (em = 1 → x.2.2 j ≠ r) ∧ (em = 0 → x.2.2 j = r ∨ so0 j = nI 4)) := bP_f (fun h => ((h c (by omega)).2 c_21).elim c_46 c_57)
              have ih2 := ihc (by omega)
              rw [← e] at ih2
              exact mr_at ih2 rfl rfl rfl
            · refine mr_iconst C (nI 1) 61 dX8_isSo_60 rfl rfl ?_
              refine mr_goto C 65 dX8_isSo_61 (by decide) ?_
              refine mr_istore_n C 66 dX8_isSo_65 rfl rfl (by decide) ?_
              refine mr_iinc C (nI (c + 1)) 69 dX8_isSo_66 rfl rfl (by decide) (nI_add c 1) ?_
              refine mr_goto C 5 dX8_isSo_69 (by decide) ?_
              have e : nI 1 = bP (∀ j, j < (c + 1) → (em = 1 → x.2.2 j ≠ r) ∧ (em = 0 → x.2.2 j = r ∨ so0 j = nI 4)) := bP_t (fun j hj => by by_cases e : j = c; exact e ▸ ⟨fun h => absurd (c_21.symm.trans h) (by decide), fun _ => Or.inr c_57⟩; exact c_17 j (by omega))
              have ih2 := ihc (by omega)
              rw [← e] at ih2
              exact mr_at ih2 rfl rfl rfl
        · have c_21 : em = 1 := by
            have h9 : ¬ em = 0 := fun h => c_21 (by rw [h]; rfl)
            omega
          refine mr_aload_n C 25 dX8_isSo_24 rfl rfl ?_
          refine mr_get C 0 28 dX8_isSo_25 rfl fl_X8_31 rfl rfl ?_
          refine mr_iload C 30 dX8_isSo_28 rfl rfl ?_
          refine mr_iald C 8 c 31 dX8_isSo_30 rfl rfl rfl (by omega) (by decide) ?_
          refine mr_iload_n C 32 dX8_isSo_31 rfl rfl ?_
          refine mr_icmpeq C 64 35 dX8_isSo_32 (by decide) rfl (fun c_32 => ?_) (fun c_32 => ?_)
          · rw [(hH.2.2 c (by omega)).2.2.1, nI_eq (by have := (hH.2.2 c (by omega)).2.2.2; omega) (by omega)] at c_32
            refine mr_iconst C (nI 0) 65 dX8_isSo_64 rfl rfl ?_
            refine mr_istore_n C 66 dX8_isSo_65 rfl rfl (by decide) ?_
            refine mr_iinc C (nI (c + 1)) 69 dX8_isSo_66 rfl rfl (by decide) (nI_add c 1) ?_
            refine mr_goto C 5 dX8_isSo_69 (by decide) ?_
            have e : nI 0 = bP (∀ j, j < (c + 1) → (em = 1 → x.2.2 j ≠ r) ∧ (em = 0 → x.2.2 j = r ∨ so0 j = nI 4)) := bP_f (fun h => (h c (by omega)).1 c_21 c_32)
            have ih2 := ihc (by omega)
            rw [← e] at ih2
            exact mr_at ih2 rfl rfl rfl
          · rw [(hH.2.2 c (by omega)).2.2.1, nI_eq (by have := (hH.2.2 c (by omega)).2.2.2; omega) (by omega)] at c_32
            refine mr_goto C 60 dX8_isSo_35 (by decide) ?_
            refine mr_iconst C (nI 1) 61 dX8_isSo_60 rfl rfl ?_
            refine mr_goto C 65 dX8_isSo_61 (by decide) ?_
            refine mr_istore_n C 66 dX8_isSo_65 rfl rfl (by decide) ?_
            refine mr_iinc C (nI (c + 1)) 69 dX8_isSo_66 rfl rfl (by decide) (nI_add c 1) ?_
            refine mr_goto C 5 dX8_isSo_69 (by decide) ?_
            have e : nI 1 = bP (∀ j, j < (c + 1) → (em = 1 → x.2.2 j ≠ r) ∧ (em = 0 → x.2.2 j = r ∨ so0 j = nI 4)) := bP_t (fun j hj => by by_cases e : j = c; exact e ▸ ⟨fun _ => c_32, fun h => absurd (c_21.symm.trans h) (by decide)⟩; exact c_17 j (by omega))
            have ih2 := ihc (by omega)
            rw [← e] at ih2
            exact mr_at ih2 rfl rfl rfl
  have i0 := L 0 (Nat.zero_le _)
  rw [← bP_t (p := ∀ j, j < 0 → (em = 1 → x.2.2 j ≠ r) ∧ (em = 0 → x.2.2 j = r ∨ so0 j = nI 4)) (fun j h => absurd h (Nat.not_lt_zero j))] at i0
  refine mr_iconst C (nI 1) 1 dX8_isSo_0 rfl rfl ?_
  refine mr_istore_n C 2 dX8_isSo_1 rfl rfl (by decide) ?_
  refine mr_iconst C (nI 0) 3 dX8_isSo_2 rfl rfl ?_
  refine mr_istore C 5 dX8_isSo_3 rfl (by decide) ?_
  exact mr_at i0 rfl rfl rfl

