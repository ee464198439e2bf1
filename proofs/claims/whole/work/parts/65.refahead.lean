/-! the reference: where all are, how many, when all rests -/
theorem cnt_ho {ho : FN} {R K G : Nat} {se sn be so lo he : FN} (h : RH ho R K G se sn be so lo he) (l : Nat → Nat) (r : Nat) : cntS (fun _ => nI 0) l (hoH ho) K r = cntS (fun _ => nI 0) l he K r :=
  cntS_cong K (fun c hc => ⟨rfl, (h.2.2.2.2.2 c hc).2.2⟩) r
theorem minS (x y : Int32) : (if x < y then x else y) = if y < x then y else x := by
  by_cases h1 : x < y
  · rw [if_pos h1, if_neg (fun h2 => Int32.lt_irrefl (Int32.lt_trans h1 h2))]
  · by_cases h2 : y < x
    · rw [if_neg h1, if_pos h2]
    · rw [if_neg h1, if_neg h2]; exact Int32.le_antisymm (Int32.not_lt.mp h1) (Int32.not_lt.mp h2)
theorem HM.wlt {R K : Nat} {sn so he : FN} {x : RST} {ho se be wh : FN} (h : HM R K sn so he x ho se be wh) (hR : R ≤ 6) : ∀ c, c < K → wh c = nI (x.2.2 c) ∧ x.2.2 c < 6 := fun c hc => ⟨(h.2.2 c hc).2.2.1, Nat.lt_of_lt_of_le (h.2.2 c hc).2.2.2 hR⟩
set_option maxRecDepth 20000 in
set_option maxHeartbeats 4000000 in
theorem c_m_crowd (E : EG) (a : Nat → Nat) (tn st ac td lt lg cu tk sr tl fa fp gn gi gm tr : Int32) (la mn im ho fr wa tp wh go se no al be ik ke tc : FN) (R K G : Nat) (se0 sn0 be0 so0 lo0 he0 : FN) (hR : R ≤ 6) (hK : K ≤ 5) (hG : G ≤ 9999) (hl : ∀ c, c < K → lo0 c = nI (lN_ lo0 c) ∧ lN_ lo0 c < R) (hso : ∀ c, c < K → ∃ k, 1 ≤ k ∧ k ≤ 5 ∧ so0 c = nI k) (hrh : RH ho R K G se0 sn0 be0 so0 lo0 he0) (c0 y0 : Int32)  : Ctr E mX8_crowd (5, 0, 0) [.ref (a 0), .int c0, .int y0] (wM E a tn st la mn im ho fr wa ac tp td lt lg cu tk sr tl fa fp wh go se no al be gn gi gm ik ke tc tr) (fun v w => ∃ (wh' go' se' no' al' be' : FN) (gn' gi' gm' : Int32), v = some (.int (crowdV c0 y0 K lo0 he0)) ∧ w = wM E a ((nI 0)) st la mn im ho fr wa ac tp td lt lg cu tk sr tl fa fp (wh') (go') (se') (no') (al') (be') (gn') (gi') (gm') ik ke tc tr) := by
  refine Ctr.of (by decide) (Nat.le_of_ble_eq_true rfl) ?_
  intro Z hO hn C
  have hlen : zn Z ≤ 17 := by rw [hn]; exact Nat.le_of_ble_eq_true rfl
  have h0 := hrh.1
  have h2 := hrh.2.1
  have h3 := hrh.2.2.1
  have hk : ∀ c, c < K → ∃ k, 1 ≤ k ∧ k ≤ 5 ∧ hoS ho c = nI k := fun c hc => by
    obtain ⟨k, e1, e2, e3⟩ := hso c hc
    exact ⟨k, e1, e2, (hrh.2.2.2.2.2 c hc).1.trans e3⟩
  refine mr_aload_n C 1 dX8_crowd_0 rfl rfl ?_
  refine mr_iconst C (nI 0) 2 dX8_crowd_1 rfl rfl ?_
  refine mr_put C 0 5 dX8_crowd_2 rfl fs_X8_59 rfl rfl rfl (Nat.le_of_ble_eq_true rfl) ?_
  refine mr_w (ws' := wM E a ((nI 0)) st la mn im ho fr wa ac tp td lt lg cu tk sr tl fa fp wh go se no al be gn gi gm ik ke tc tr) rfl ?_
  refine mr_aload_n C 6 dX8_crowd_5 rfl rfl ?_
  refine mr_iload_n C 7 dX8_crowd_6 rfl rfl ?_
  refine mr_callV C (c_m_isCrowd E a ((nI 0)) st ac td lt lg cu tk sr tl fa fp gn gi gm tr la mn im ho fr wa tp wh go se no al be ik ke tc K hK h2 c0) [0, 1, 2, 3, 4, 5, 6, 7, 8, 9, 10, 11, 12, 13, 14, 15, 16] 0 8 10 dX8_crowd_7 rfl mk_X8_isCrowd mi_X8_isCrowd ml_X8_242 rfl rfl rfl rfl rfl (Nat.le_of_ble_eq_true rfl) (by decide) (by decide) (by decide) rfl rfl (fun r w1 hpost => ?_)
  obtain ⟨rfl, rfl⟩ := hpost
  refine mr_w (wput_all _ _ 17 rfl rfl) ?_
  refine mr_ifeq C 34 13 dX8_crowd_10 (by decide) rfl (fun c_10 => ?_) (fun c_10 => ?_)
  · rw [bI_eq] at c_10
    refine mr_ldc C 36 dX8_crowd_34 rfl kc_X8_79 ?_
    refine mr_iret C dX8_crowd_36 rfl rfl (by decide) (by decide) hlen ?_
    rw [hO]
    exact ⟨_, _, _, _, _, _, _, _, _, congrArg (fun z => some (Value.int z)) ((ifP_f (by omega)).symm), rfl⟩
  · rw [← Ne, bI_ne] at c_10
    refine mr_iload_n C 14 dX8_crowd_13 rfl rfl ?_
    refine mr_i2l C _ 15 dX8_crowd_14 rfl rfl ?_
    refine mr_lconst C 0 16 dX8_crowd_15 rfl rfl ?_
    refine mr_lconst C 1 17 dX8_crowd_16 rfl rfl ?_
    refine mr_callS C (c_inK E y0 (0) (1) _ _ rfl rfl) [] 20 dX8_crowd_17 rfl mk_X8_in ms_X8_in ml_X8_69 rfl rfl rfl rfl (Nat.le_of_ble_eq_true rfl) (by decide) (by decide) (by decide) (fun r w1 hpost => ?_)
    obtain ⟨rfl, rfl⟩ := hpost
    refine mr_w (ws' := wM E a ((nI 0)) st la mn im ho fr wa ac tp td lt lg cu tk sr tl fa fp wh go se no al be gn gi gm ik ke tc tr) rfl ?_
    refine mr_ifeq C 34 23 dX8_crowd_20 (by decide) rfl (fun c_20 => ?_) (fun c_20 => ?_)
    · rw [bI_eq] at c_20
      refine mr_ldc C 36 dX8_crowd_34 rfl kc_X8_79 ?_
      refine mr_iret C dX8_crowd_36 rfl rfl (by decide) (by decide) hlen ?_
      rw [hO]
      exact ⟨_, _, _, _, _, _, _, _, _, congrArg (fun z => some (Value.int z)) ((ifP_f (by omega)).symm), rfl⟩
    · rw [← Ne, bI_ne] at c_20
      obtain ⟨c, hc, rfl⟩ := tI_of (x := c0) (n := K) (by omega) (by omega)
      have ec : (nI c).toInt = (c : Int) := tI_n (by omega)
      have ic_ : iN (nI c) = c := iN_n (by omega)
      obtain ⟨y, hy, rfl⟩ := tI_of (x := y0) (n := 2) (by omega) (by omega)
      have ey : (nI y).toInt = (y : Int) := tI_n (by omega)
      have iy_ : iN (nI y) = y := iN_n (by omega)
      have hv9 : ho (22 + 3 * c + (1 + y)) = if y = 0 then lo0 c else he0 c := by
        have e9 : y = 0 ∨ y = 1 := by omega
        rcases e9 with rfl | rfl
        · exact (hrh.2.2.2.2.2 c hc).2.1
        · exact (hrh.2.2.2.2.2 c hc).2.2
      refine mr_aload_n C 24 dX8_crowd_23 rfl rfl ?_
      refine mr_iload_n C 25 dX8_crowd_24 rfl rfl ?_
      refine mr_iconst C (nI 1) 26 dX8_crowd_25 rfl rfl ?_
      refine mr_iload_n C 27 dX8_crowd_26 rfl rfl ?_
      refine mr_iadd C (nI (1 + y)) 28 dX8_crowd_27 rfl (nI_add _ _) ?_
      refine mr_callV C (c_of E a ((nI 0)) st ac td lt lg cu tk sr tl fa fp gn gi gm tr la mn im ho fr wa tp wh go se no al be ik ke tc c (1 + y) (by omega) (by omega) (if y = 0 then lo0 c else he0 c) hv9) [0, 1, 2, 3, 4, 5, 6, 7, 8, 9, 10, 11, 12, 13, 14, 15, 16] 0 8 31 dX8_crowd_28 rfl mk_X8_of mi_X8_of ml_X8_201 rfl rfl rfl rfl rfl (Nat.le_of_ble_eq_true rfl) (by decide) (by decide) (by decide) rfl rfl (fun r w1 hpost => ?_)
      obtain ⟨rfl, rfl⟩ := hpost
      refine mr_w (wput_all _ _ 17 rfl rfl) ?_
      refine mr_goto C 36 dX8_crowd_31 (by decide) ?_
      refine mr_iret C dX8_crowd_36 rfl rfl (by decide) (by decide) hlen ?_
      rw [hO]
      have e9 : y = 0 ∨ y = 1 := by omega
      rcases e9 with rfl | rfl
      · exact ⟨_, _, _, _, _, _, _, _, _, congrArg (fun z => some (Value.int z)) (((ifP_t (by omega)).trans ((ifP_t (by omega)).trans (by rw [ic_]; rfl))).symm), rfl⟩
      · exact ⟨_, _, _, _, _, _, _, _, _, congrArg (fun z => some (Value.int z)) (((ifP_t (by omega)).trans ((ifP_f (by omega)).trans (by rw [ic_]; rfl))).symm), rfl⟩

theorem sum_cnt {lo he : FN} {R K r : Nat} (hl : ∀ c, c < K → lo c = nI (lN_ lo c) ∧ lN_ lo c < R) (hR : R ≤ 6) (hr : r < 6) : ∀ n, n ≤ K → sumH lo he (nI r) n = cntS (fun _ => nI 0) (lN_ lo) he n r
  | 0, _ => rfl
  | n + 1, hn => by
    have ih := sum_cnt (he := he) hl hR hr n (by omega)
    obtain ⟨e3, e4⟩ := hl n (by omega)
    unfold sumH
    show _ = if r = lN_ lo n then cntS (fun _ => nI 0) (lN_ lo) he n r + he n else cntS (fun _ => nI 0) (lN_ lo) he n r
    rw [ih]
    by_cases k : r = lN_ lo n
    · rw [if_pos (by rw [e3, ← k]), if_pos k]
    · rw [if_neg (fun e => k ((nI_eq (by omega) (by omega)).mp (e3.symm.trans e)).symm), if_neg k]
set_option maxRecDepth 20000 in
set_option maxHeartbeats 4000000 in
theorem c_m_room (E : EG) (a : Nat → Nat) (tn st ac td lt lg cu tk sr tl fa fp gn gi gm tr : Int32) (la mn im ho fr wa tp wh go se no al be ik ke tc : FN) (R K G : Nat) (se0 sn0 be0 so0 lo0 he0 : FN) (hR : R ≤ 6) (hK : K ≤ 5) (hG : G ≤ 9999) (hl : ∀ c, c < K → lo0 c = nI (lN_ lo0 c) ∧ lN_ lo0 c < R) (hso : ∀ c, c < K → ∃ k, 1 ≤ k ∧ k ≤ 5 ∧ so0 c = nI k) (hrh : RH ho R K G se0 sn0 be0 so0 lo0 he0) (r0 y0 : Int32)  : Ctr E mX8_room (5, 0, 0) [.ref (a 0), .int r0, .int y0] (wM E a tn st la mn im ho fr wa ac tp td lt lg cu tk sr tl fa fp wh go se no al be gn gi gm ik ke tc tr) (fun v w => ∃ (wh' go' se' no' al' be' : FN) (gn' gi' gm' : Int32), v = some (.int (roomV r0 y0 R K se0 sn0 lo0 he0)) ∧ w = wM E a ((nI 0)) st la mn im ho fr wa ac tp td lt lg cu tk sr tl fa fp (wh') (go') (se') (no') (al') (be') (gn') (gi') (gm') ik ke tc tr) := by
  refine Ctr.of (by decide) (Nat.le_of_ble_eq_true rfl) ?_
  intro Z hO hn C
  have hlen : zn Z ≤ 17 := by rw [hn]; exact Nat.le_of_ble_eq_true rfl
  have h0 := hrh.1
  have h2 := hrh.2.1
  have h3 := hrh.2.2.1
  have hk : ∀ c, c < K → ∃ k, 1 ≤ k ∧ k ≤ 5 ∧ hoS ho c = nI k := fun c hc => by
    obtain ⟨k, e1, e2, e3⟩ := hso c hc
    exact ⟨k, e1, e2, (hrh.2.2.2.2.2 c hc).1.trans e3⟩
  refine mr_aload_n C 1 dX8_room_0 rfl rfl ?_
  refine mr_iconst C (nI 0) 2 dX8_room_1 rfl rfl ?_
  refine mr_put C 0 5 dX8_room_2 rfl fs_X8_59 rfl rfl rfl (Nat.le_of_ble_eq_true rfl) ?_
  refine mr_w (ws' := wM E a ((nI 0)) st la mn im ho fr wa ac tp td lt lg cu tk sr tl fa fp wh go se no al be gn gi gm ik ke tc tr) rfl ?_
  refine mr_aload_n C 6 dX8_room_5 rfl rfl ?_
  refine mr_iload_n C 7 dX8_room_6 rfl rfl ?_
  refine mr_callV C (c_m_isRoom E a ((nI 0)) st ac td lt lg cu tk sr tl fa fp gn gi gm tr la mn im ho fr wa tp wh go se no al be ik ke tc R hR h0 r0) [0, 1, 2, 3, 4, 5, 6, 7, 8, 9, 10, 11, 12, 13, 14, 15, 16] 0 8 10 dX8_room_7 rfl mk_X8_isRoom mi_X8_isRoom ml_X8_239 rfl rfl rfl rfl rfl (Nat.le_of_ble_eq_true rfl) (by decide) (by decide) (by decide) rfl rfl (fun r w1 hpost => ?_)
  obtain ⟨rfl, rfl⟩ := hpost
  refine mr_w (wput_all _ _ 17 rfl rfl) ?_
  refine mr_ifeq C 25 13 dX8_room_10 (by decide) rfl (fun c_10 => ?_) (fun c_10 => ?_)
  · rw [bI_eq] at c_10
    refine mr_ldc C 27 dX8_room_25 rfl kc_X8_79 ?_
    refine mr_iret C dX8_room_27 rfl rfl (by decide) (by decide) hlen ?_
    rw [hO]
    exact ⟨_, _, _, _, _, _, _, _, _, congrArg (fun z => some (Value.int z)) ((ifP_f (by omega)).symm), rfl⟩
  · rw [← Ne, bI_ne] at c_10
    refine mr_iload_n C 14 dX8_room_13 rfl rfl ?_
    refine mr_i2l C _ 15 dX8_room_14 rfl rfl ?_
    refine mr_lconst C 0 16 dX8_room_15 rfl rfl ?_
    refine mr_ldc2 C 19 dX8_room_16 rfl kc_X8_77 ?_
    refine mr_callS C (c_inK E y0 (0) (2) _ _ rfl rfl) [] 22 dX8_room_19 rfl mk_X8_in ms_X8_in ml_X8_69 rfl rfl rfl rfl (Nat.le_of_ble_eq_true rfl) (by decide) (by decide) (by decide) (fun r w1 hpost => ?_)
    obtain ⟨rfl, rfl⟩ := hpost
    refine mr_w (ws' := wM E a ((nI 0)) st la mn im ho fr wa ac tp td lt lg cu tk sr tl fa fp wh go se no al be gn gi gm ik ke tc tr) rfl ?_
    refine mr_ifne C 28 25 dX8_room_22 (by decide) rfl (fun c_22 => ?_) (fun c_22 => ?_)
    · rw [bI_ne] at c_22
      obtain ⟨r, hr, rfl⟩ := tI_of (x := r0) (n := R) (by omega) (by omega)
      have er : (nI r).toInt = (r : Int) := tI_n (by omega)
      have ir_ : iN (nI r) = r := iN_n (by omega)
      refine mr_aload_n C 29 dX8_room_28 rfl rfl ?_
      refine mr_callV C (c_layNow E a ((nI 0)) st ac td lt lg cu tk sr tl fa fp gn gi gm tr la mn im ho fr wa tp wh go se no al be ik ke tc R K G hR hK h0 h2 h3) [0, 1, 2, 3, 4, 5, 6, 7, 8, 9, 10, 11, 12, 13, 14, 15, 16] 0 8 32 dX8_room_29 rfl mk_X8_layNow mi_X8_layNow ml_X8_219 rfl rfl rfl rfl rfl (Nat.le_of_ble_eq_true rfl) (by decide) (by decide) (by decide) rfl rfl (fun r w1 hpost => ?_)
      obtain ⟨f1, f2, f3_, rfl, rfl, hf1, hf2⟩ := hpost
      have hH : HM R K sn0 so0 he0 (G, be0, lN_ lo0) ho f1 f2 f3_ := hrh.lay hl hf1 hf2
      refine mr_w (wput_all _ _ 17 rfl rfl) ?_
      refine mr_aload_n C 33 dX8_room_32 rfl rfl ?_
      refine mr_callV C (c_layCounts E a ((nI 0)) st ac td lt lg cu tk sr tl fa fp (nI G) (nI 0) tr la mn im ho fr wa tp f3_ go f1 no al f2 ik ke tc K 0 (lN_ lo0) hK (by decide) h2 (hH.wlt hR)) [0, 1, 2, 3, 4, 5, 6, 7, 8, 9, 10, 11, 12, 13, 14, 15, 16] 0 8 36 dX8_room_33 rfl mk_X8_layCounts mi_X8_layCounts ml_X8_207 rfl rfl rfl rfl rfl (Nat.le_of_ble_eq_true rfl) (by decide) (by decide) (by decide) rfl rfl (fun r w1 hpost => ?_)
      obtain ⟨q1, q2, rfl, rfl, hc1, -⟩ := hpost
      rw [gst0] at hc1
      refine mr_w (wput_all _ _ 17 rfl rfl) ?_
      refine mr_iload_n C 37 dX8_room_36 rfl rfl ?_
      refine mr_ifne C 51 40 dX8_room_37 (by decide) rfl (fun c_37 => ?_) (fun c_37 => ?_)
      · rw [Ne, tI_eq0] at c_37
        refine mr_iload_n C 52 dX8_room_51 rfl rfl ?_
        refine mr_iconst C (nI 1) 53 dX8_room_52 rfl rfl ?_
        refine mr_icmpne C 65 56 dX8_room_53 (by decide) rfl (fun c_53 => ?_) (fun c_53 => ?_)
        · rw [Ne, tI_eq (by omega)] at c_53
          refine mr_aload_n C 66 dX8_room_65 rfl rfl ?_
          refine mr_get C 0 69 dX8_room_66 rfl fl_X8_19 rfl rfl ?_
          refine mr_bipush C (nI 10) 71 dX8_room_69 rfl rfl ?_
          refine mr_iload_n C 72 dX8_room_71 rfl rfl ?_
          refine mr_iadd C (nI (10 + r)) 73 dX8_room_72 rfl (nI_add _ _) ?_
          refine mr_iald C 4 (10 + r) 74 dX8_room_73 rfl rfl rfl (by omega) (by decide) ?_
          refine mr_iret C dX8_room_74 rfl rfl (by decide) (by decide) hlen ?_
          rw [hO]
          exact ⟨_, _, _, _, _, _, _, _, _, congrArg (fun z => some (Value.int z)) (((ifP_t (by omega)).trans ((ifP_f (by omega)).trans ((ifP_f (by omega)).trans (by rw [ir_]; exact (hrh.2.2.2.1 r hr).2.1.symm)))).symm), rfl⟩
        · rw [tI_eq (by omega)] at c_53
          refine mr_aload_n C 57 dX8_room_56 rfl rfl ?_
          refine mr_get C 0 60 dX8_room_57 rfl fl_X8_40 rfl rfl ?_
          refine mr_iload_n C 61 dX8_room_60 rfl rfl ?_
          refine mr_iald C 11 r 62 dX8_room_61 rfl rfl rfl (by omega) (by decide) ?_
          refine mr_goto C 74 dX8_room_62 (by decide) ?_
          refine mr_iret C dX8_room_74 rfl rfl (by decide) (by decide) hlen ?_
          rw [hO]
          have e8 : q1 r = sumH lo0 he0 (nI r) K := (hc1 r (by omega)).trans ((cnt_ho hrh _ r).trans (sum_cnt hl hR (by omega) K (Nat.le_refl K)).symm)
          exact ⟨_, _, _, _, _, _, _, _, _, congrArg (fun z => some (Value.int z)) (((ifP_t (by omega)).trans ((ifP_f (by omega)).trans ((ifP_t (by omega)).trans e8.symm))).symm), rfl⟩
      · rw [tI_eq0] at c_37
        refine mr_aload_n C 41 dX8_room_40 rfl rfl ?_
        refine mr_get C 0 44 dX8_room_41 rfl fl_X8_19 rfl rfl ?_
        refine mr_iconst C (nI 4) 45 dX8_room_44 rfl rfl ?_
        refine mr_iload_n C 46 dX8_room_45 rfl rfl ?_
        refine mr_iadd C (nI (4 + r)) 47 dX8_room_46 rfl (nI_add _ _) ?_
        refine mr_iald C 4 (4 + r) 48 dX8_room_47 rfl rfl rfl (by omega) (by decide) ?_
        refine mr_goto C 74 dX8_room_48 (by decide) ?_
        refine mr_iret C dX8_room_74 rfl rfl (by decide) (by decide) hlen ?_
        rw [hO]
        exact ⟨_, _, _, _, _, _, _, _, _, congrArg (fun z => some (Value.int z)) (((ifP_t (by omega)).trans ((ifP_t (by omega)).trans (by rw [ir_]; exact (hrh.2.2.2.1 r hr).1.symm))).symm), rfl⟩
    · rw [bI_eq] at c_22
      refine mr_ldc C 27 dX8_room_25 rfl kc_X8_79 ?_
      refine mr_iret C dX8_room_27 rfl rfl (by decide) (by decide) hlen ?_
      rw [hO]
      exact ⟨_, _, _, _, _, _, _, _, _, congrArg (fun z => some (Value.int z)) ((ifP_f (by omega)).symm), rfl⟩

set_option maxRecDepth 20000 in
set_option maxHeartbeats 4000000 in
theorem c_m_ahead (E : EG) (a : Nat → Nat) (tn st ac td lt lg cu tk sr tl fa fp gn gi gm tr : Int32) (la mn im ho fr wa tp wh go se no al be ik ke tc : FN) (R K G : Nat) (se0 sn0 be0 so0 lo0 he0 : FN) (hR : R ≤ 6) (hK : K ≤ 5) (hG : G ≤ 9999) (hl : ∀ c, c < K → lo0 c = nI (lN_ lo0 c) ∧ lN_ lo0 c < R) (hso : ∀ c, c < K → ∃ k, 1 ≤ k ∧ k ≤ 5 ∧ so0 c = nI k) (hrh : RH ho R K G se0 sn0 be0 so0 lo0 he0) (c0 n0 : Int32)  : Ctr E mX8_ahead (5, 0, 0) [.ref (a 0), .int c0, .int n0] (wM E a tn st la mn im ho fr wa ac tp td lt lg cu tk sr tl fa fp wh go se no al be gn gi gm ik ke tc tr) (fun v w => ∃ (wh' go' se' no' al' be' : FN) (gn' gi' gm' : Int32), v = some (.int (aheadV c0 n0 R K sn0 so0 he0 (G, be0, lN_ lo0))) ∧ w = wM E a ((nI 0)) st la mn im ho fr wa ac tp td lt lg cu tk sr tl fa fp (wh') (go') (se') (no') (al') (be') (gn') (gi') (gm') ik ke tc tr) := by
  refine Ctr.of (by decide) (Nat.le_of_ble_eq_true rfl) ?_
  intro Z hO hn C
  have hlen : zn Z ≤ 17 := by rw [hn]; exact Nat.le_of_ble_eq_true rfl
  have h0 := hrh.1
  have h2 := hrh.2.1
  have h3 := hrh.2.2.1
  have hk : ∀ c, c < K → ∃ k, 1 ≤ k ∧ k ≤ 5 ∧ hoS ho c = nI k := fun c hc => by
    obtain ⟨k, e1, e2, e3⟩ := hso c hc
    exact ⟨k, e1, e2, (hrh.2.2.2.2.2 c hc).1.trans e3⟩
  refine mr_aload_n C 1 dX8_ahead_0 rfl rfl ?_
  refine mr_iconst C (nI 0) 2 dX8_ahead_1 rfl rfl ?_
  refine mr_put C 0 5 dX8_ahead_2 rfl fs_X8_59 rfl rfl rfl (Nat.le_of_ble_eq_true rfl) ?_
  refine mr_w (ws' := wM E a ((nI 0)) st la mn im ho fr wa ac tp td lt lg cu tk sr tl fa fp wh go se no al be gn gi gm ik ke tc tr) rfl ?_
  refine mr_aload_n C 6 dX8_ahead_5 rfl rfl ?_
  refine mr_iload_n C 7 dX8_ahead_6 rfl rfl ?_
  refine mr_callV C (c_m_isCrowd E a ((nI 0)) st ac td lt lg cu tk sr tl fa fp gn gi gm tr la mn im ho fr wa tp wh go se no al be ik ke tc K hK h2 c0) [0, 1, 2, 3, 4, 5, 6, 7, 8, 9, 10, 11, 12, 13, 14, 15, 16] 0 8 10 dX8_ahead_7 rfl mk_X8_isCrowd mi_X8_isCrowd ml_X8_242 rfl rfl rfl rfl rfl (Nat.le_of_ble_eq_true rfl) (by decide) (by decide) (by decide) rfl rfl (fun r w1 hpost => ?_)
  obtain ⟨rfl, rfl⟩ := hpost
  refine mr_w (wput_all _ _ 17 rfl rfl) ?_
  refine mr_ifeq C 25 13 dX8_ahead_10 (by decide) rfl (fun c_10 => ?_) (fun c_10 => ?_)
  · rw [bI_eq] at c_10
    refine mr_ldc C 27 dX8_ahead_25 rfl kc_X8_79 ?_
    refine mr_iret C dX8_ahead_27 rfl rfl (by decide) (by decide) hlen ?_
    rw [hO]
    exact ⟨_, _, _, _, _, _, _, _, _, congrArg (fun z => some (Value.int z)) ((ifP_f (by omega)).symm), rfl⟩
  · rw [← Ne, bI_ne] at c_10
    refine mr_iload_n C 14 dX8_ahead_13 rfl rfl ?_
    refine mr_i2l C _ 15 dX8_ahead_14 rfl rfl ?_
    refine mr_lconst C 0 16 dX8_ahead_15 rfl rfl ?_
    refine mr_ldc2 C 19 dX8_ahead_16 rfl kc_X8_247 ?_
    refine mr_callS C (c_inK E n0 (0) (60) _ _ rfl rfl) [] 22 dX8_ahead_19 rfl mk_X8_in ms_X8_in ml_X8_69 rfl rfl rfl rfl (Nat.le_of_ble_eq_true rfl) (by decide) (by decide) (by decide) (fun r w1 hpost => ?_)
    obtain ⟨rfl, rfl⟩ := hpost
    refine mr_w (ws' := wM E a ((nI 0)) st la mn im ho fr wa ac tp td lt lg cu tk sr tl fa fp wh go se no al be gn gi gm ik ke tc tr) rfl ?_
    refine mr_ifne C 28 25 dX8_ahead_22 (by decide) rfl (fun c_22 => ?_) (fun c_22 => ?_)
    · rw [bI_ne] at c_22
      obtain ⟨c, hc, rfl⟩ := tI_of (x := c0) (n := K) (by omega) (by omega)
      have ec : (nI c).toInt = (c : Int) := tI_n (by omega)
      have ic_ : iN (nI c) = c := iN_n (by omega)
      obtain ⟨n, hn, rfl⟩ := tI_of (x := n0) (n := 61) (by omega) (by omega)
      have en : (nI n).toInt = (n : Int) := tI_n (by omega)
      have in_ : iN (nI n) = n := iN_n (by omega)
      refine mr_aload_n C 29 dX8_ahead_28 rfl rfl ?_
      refine mr_callV C (c_layNow E a ((nI 0)) st ac td lt lg cu tk sr tl fa fp gn gi gm tr la mn im ho fr wa tp wh go se no al be ik ke tc R K G hR hK h0 h2 h3) [0, 1, 2, 3, 4, 5, 6, 7, 8, 9, 10, 11, 12, 13, 14, 15, 16] 0 8 32 dX8_ahead_29 rfl mk_X8_layNow mi_X8_layNow ml_X8_219 rfl rfl rfl rfl rfl (Nat.le_of_ble_eq_true rfl) (by decide) (by decide) (by decide) rfl rfl (fun r w1 hpost => ?_)
      obtain ⟨f1, f2, f3_, rfl, rfl, hf1, hf2⟩ := hpost
      have hH : HM R K sn0 so0 he0 (G, be0, lN_ lo0) ho f1 f2 f3_ := hrh.lay hl hf1 hf2
      refine mr_w (wput_all _ _ 17 rfl rfl) ?_
      refine mr_aload_n C 33 dX8_ahead_32 rfl rfl ?_
      refine mr_iload_n C 34 dX8_ahead_33 rfl rfl ?_
      refine mr_callV C (c_goBells E a ((nI 0)) st ac td lt lg cu tk sr tl fa fp (nI 0) tr la mn im ho fr wa tp f3_ go f1 no al f2 ik ke tc R K 0 hR hK (by decide) h0 h2 hk sn0 so0 he0 (G, be0, lN_ lo0) n (by omega) (by show G < 2 ^ 29; omega) hH) [0, 1, 2, 3, 4, 5, 6, 7, 8, 9, 10, 11, 12, 13, 14, 15, 16] 0 8 37 dX8_ahead_34 rfl mk_X8_goBells mi_X8_goBells ml_X8_249 rfl rfl rfl rfl rfl (Nat.le_of_ble_eq_true rfl) (by decide) (by decide) (by decide) rfl rfl (fun r w1 hpost => ?_)
      obtain ⟨wh1, be1, q1, q2, q3, rfl, rfl, hH1⟩ := hpost
      refine mr_w (wput_all _ _ 17 rfl rfl) ?_
      refine mr_aload_n C 38 dX8_ahead_37 rfl rfl ?_
      refine mr_get C 0 41 dX8_ahead_38 rfl fl_X8_31 rfl rfl ?_
      refine mr_iload_n C 42 dX8_ahead_41 rfl rfl ?_
      refine mr_iald C 8 c 43 dX8_ahead_42 rfl rfl rfl (by omega) (by decide) ?_
      refine mr_iret C dX8_ahead_43 rfl rfl (by decide) (by decide) hlen ?_
      rw [hO]
      exact ⟨_, _, _, _, _, _, _, _, _, congrArg (fun z => some (Value.int z)) (((ifP_t (by omega)).trans (by rw [ic_, in_]; exact (hH1.2.2 c hc).2.2.1.symm)).symm), rfl⟩
    · rw [bI_eq] at c_22
      refine mr_ldc C 27 dX8_ahead_25 rfl kc_X8_79 ?_
      refine mr_iret C dX8_ahead_27 rfl rfl (by decide) (by decide) hlen ?_
      rw [hO]
      exact ⟨_, _, _, _, _, _, _, _, _, congrArg (fun z => some (Value.int z)) ((ifP_f (by omega)).symm), rfl⟩

set_option maxRecDepth 20000 in
set_option maxHeartbeats 4000000 in
theorem c_m_roomAhead (E : EG) (a : Nat → Nat) (tn st ac td lt lg cu tk sr tl fa fp gn gi gm tr : Int32) (la mn im ho fr wa tp wh go se no al be ik ke tc : FN) (R K G : Nat) (se0 sn0 be0 so0 lo0 he0 : FN) (hR : R ≤ 6) (hK : K ≤ 5) (hG : G ≤ 9999) (hl : ∀ c, c < K → lo0 c = nI (lN_ lo0 c) ∧ lN_ lo0 c < R) (hso : ∀ c, c < K → ∃ k, 1 ≤ k ∧ k ≤ 5 ∧ so0 c = nI k) (hrh : RH ho R K G se0 sn0 be0 so0 lo0 he0) (r0 n0 y0 : Int32)  : Ctr E mX8_roomAhead (5, 0, 0) [.ref (a 0), .int r0, .int n0, .int y0] (wM E a tn st la mn im ho fr wa ac tp td lt lg cu tk sr tl fa fp wh go se no al be gn gi gm ik ke tc tr) (fun v w => ∃ (wh' go' se' no' al' be' : FN) (gn' gi' gm' : Int32), v = some (.int (rmAheadV r0 n0 y0 R K se0 sn0 so0 he0 (G, be0, lN_ lo0))) ∧ w = wM E a ((nI 0)) st la mn im ho fr wa ac tp td lt lg cu tk sr tl fa fp (wh') (go') (se') (no') (al') (be') (gn') (gi') (gm') ik ke tc tr) := by
  refine Ctr.of (by decide) (Nat.le_of_ble_eq_true rfl) ?_
  intro Z hO hn C
  have hlen : zn Z ≤ 17 := by rw [hn]; exact Nat.le_of_ble_eq_true rfl
  have h0 := hrh.1
  have h2 := hrh.2.1
  have h3 := hrh.2.2.1
  have hk : ∀ c, c < K → ∃ k, 1 ≤ k ∧ k ≤ 5 ∧ hoS ho c = nI k := fun c hc => by
    obtain ⟨k, e1, e2, e3⟩ := hso c hc
    exact ⟨k, e1, e2, (hrh.2.2.2.2.2 c hc).1.trans e3⟩
  refine mr_aload_n C 1 dX8_roomAhead_0 rfl rfl ?_
  refine mr_iconst C (nI 0) 2 dX8_roomAhead_1 rfl rfl ?_
  refine mr_put C 0 5 dX8_roomAhead_2 rfl fs_X8_59 rfl rfl rfl (Nat.le_of_ble_eq_true rfl) ?_
  refine mr_w (ws' := wM E a ((nI 0)) st la mn im ho fr wa ac tp td lt lg cu tk sr tl fa fp wh go se no al be gn gi gm ik ke tc tr) rfl ?_
  refine mr_aload_n C 6 dX8_roomAhead_5 rfl rfl ?_
  refine mr_iload_n C 7 dX8_roomAhead_6 rfl rfl ?_
  refine mr_callV C (c_m_isRoom E a ((nI 0)) st ac td lt lg cu tk sr tl fa fp gn gi gm tr la mn im ho fr wa tp wh go se no al be ik ke tc R hR h0 r0) [0, 1, 2, 3, 4, 5, 6, 7, 8, 9, 10, 11, 12, 13, 14, 15, 16] 0 8 10 dX8_roomAhead_7 rfl mk_X8_isRoom mi_X8_isRoom ml_X8_239 rfl rfl rfl rfl rfl (Nat.le_of_ble_eq_true rfl) (by decide) (by decide) (by decide) rfl rfl (fun r w1 hpost => ?_)
  obtain ⟨rfl, rfl⟩ := hpost
  refine mr_w (wput_all _ _ 17 rfl rfl) ?_
  refine mr_ifeq C 35 13 dX8_roomAhead_10 (by decide) rfl (fun c_10 => ?_) (fun c_10 => ?_)
  · rw [bI_eq] at c_10
    refine mr_ldc C 37 dX8_roomAhead_35 rfl kc_X8_79 ?_
    refine mr_iret C dX8_roomAhead_37 rfl rfl (by decide) (by decide) hlen ?_
    rw [hO]
    exact ⟨_, _, _, _, _, _, _, _, _, congrArg (fun z => some (Value.int z)) ((ifP_f (by omega)).symm), rfl⟩
  · rw [← Ne, bI_ne] at c_10
    refine mr_iload_n C 14 dX8_roomAhead_13 rfl rfl ?_
    refine mr_i2l C _ 15 dX8_roomAhead_14 rfl rfl ?_
    refine mr_lconst C 0 16 dX8_roomAhead_15 rfl rfl ?_
    refine mr_ldc2 C 19 dX8_roomAhead_16 rfl kc_X8_247 ?_
    refine mr_callS C (c_inK E n0 (0) (60) _ _ rfl rfl) [] 22 dX8_roomAhead_19 rfl mk_X8_in ms_X8_in ml_X8_69 rfl rfl rfl rfl (Nat.le_of_ble_eq_true rfl) (by decide) (by decide) (by decide) (fun r w1 hpost => ?_)
    obtain ⟨rfl, rfl⟩ := hpost
    refine mr_w (ws' := wM E a ((nI 0)) st la mn im ho fr wa ac tp td lt lg cu tk sr tl fa fp wh go se no al be gn gi gm ik ke tc tr) rfl ?_
    refine mr_ifeq C 35 25 dX8_roomAhead_22 (by decide) rfl (fun c_22 => ?_) (fun c_22 => ?_)
    · rw [bI_eq] at c_22
      refine mr_ldc C 37 dX8_roomAhead_35 rfl kc_X8_79 ?_
      refine mr_iret C dX8_roomAhead_37 rfl rfl (by decide) (by decide) hlen ?_
      rw [hO]
      exact ⟨_, _, _, _, _, _, _, _, _, congrArg (fun z => some (Value.int z)) ((ifP_f (by omega)).symm), rfl⟩
    · rw [← Ne, bI_ne] at c_22
      refine mr_iload_n C 26 dX8_roomAhead_25 rfl rfl ?_
      refine mr_i2l C _ 27 dX8_roomAhead_26 rfl rfl ?_
      refine mr_lconst C 0 28 dX8_roomAhead_27 rfl rfl ?_
      refine mr_lconst C 1 29 dX8_roomAhead_28 rfl rfl ?_
      refine mr_callS C (c_inK E y0 (0) (1) _ _ rfl rfl) [] 32 dX8_roomAhead_29 rfl mk_X8_in ms_X8_in ml_X8_69 rfl rfl rfl rfl (Nat.le_of_ble_eq_true rfl) (by decide) (by decide) (by decide) (fun r w1 hpost => ?_)
      obtain ⟨rfl, rfl⟩ := hpost
      refine mr_w (ws' := wM E a ((nI 0)) st la mn im ho fr wa ac tp td lt lg cu tk sr tl fa fp wh go se no al be gn gi gm ik ke tc tr) rfl ?_
      refine mr_ifne C 38 35 dX8_roomAhead_32 (by decide) rfl (fun c_32 => ?_) (fun c_32 => ?_)
      · rw [bI_ne] at c_32
        obtain ⟨r, hr, rfl⟩ := tI_of (x := r0) (n := R) (by omega) (by omega)
        have er : (nI r).toInt = (r : Int) := tI_n (by omega)
        have ir_ : iN (nI r) = r := iN_n (by omega)
        obtain ⟨n, hn, rfl⟩ := tI_of (x := n0) (n := 61) (by omega) (by omega)
        have en : (nI n).toInt = (n : Int) := tI_n (by omega)
        have in_ : iN (nI n) = n := iN_n (by omega)
        refine mr_aload_n C 39 dX8_roomAhead_38 rfl rfl ?_
        refine mr_callV C (c_layNow E a ((nI 0)) st ac td lt lg cu tk sr tl fa fp gn gi gm tr la mn im ho fr wa tp wh go se no al be ik ke tc R K G hR hK h0 h2 h3) [0, 1, 2, 3, 4, 5, 6, 7, 8, 9, 10, 11, 12, 13, 14, 15, 16] 0 8 42 dX8_roomAhead_39 rfl mk_X8_layNow mi_X8_layNow ml_X8_219 rfl rfl rfl rfl rfl (Nat.le_of_ble_eq_true rfl) (by decide) (by decide) (by decide) rfl rfl (fun r w1 hpost => ?_)
        obtain ⟨f1, f2, f3_, rfl, rfl, hf1, hf2⟩ := hpost
        have hH : HM R K sn0 so0 he0 (G, be0, lN_ lo0) ho f1 f2 f3_ := hrh.lay hl hf1 hf2
        refine mr_w (wput_all _ _ 17 rfl rfl) ?_
        refine mr_iconst C (nI 0) 43 dX8_roomAhead_42 rfl rfl ?_
        refine mr_istore C 45 dX8_roomAhead_43 rfl (by decide) ?_
        refine mr_iconst C (nI 0) 46 dX8_roomAhead_45 rfl rfl ?_
        refine mr_istore C 48 dX8_roomAhead_46 rfl (by decide) ?_
        have L : ∀ i, i ≤ n → ∀ wh1 be1 q1 q2 q3 : FN, HM R K sn0 so0 he0 (rgN (nI 0) 0 R K sn0 so0 he0 (G, be0, lN_ lo0) i) ho f1 be1 wh1 → V E mX8_roomAhead (5, 0, 0) Z 0 0 (wM E a ((nI 0)) st la mn im ho fr wa ac tp td lt lg cu tk sr tl fa fp wh1 q3 f1 q1 q2 be1 ((nI (rgN (nI 0) 0 R K sn0 so0 he0 (G, be0, lN_ lo0) i).1)) ((nI 0)) ((nI 0)) ik ke tc tr) [(0, .ref (a 0)), (1, .int (nI r)), (2, .int (nI n)), (3, .int y0), (4, .int (wthS R K sn0 so0 he0 (G, be0, lN_ lo0) (se0 r) r i)), (5, .int (nI i))] [] 48 := by
          refine lp_up n ?_
          intro i hi ih wh1 be1 q1 q2 q3 hH1
          refine mr_iload C 50 dX8_roomAhead_48 rfl rfl ?_
          refine mr_iload_n C 51 dX8_roomAhead_50 rfl rfl ?_
          refine mr_icmpge C 109 54 dX8_roomAhead_51 (by decide) rfl (fun c_51 => ?_) (fun c_51 => ?_)
          · rw [nI_leI (by omega) (by omega)] at c_51
            refine mr_aload_n C 110 dX8_roomAhead_109 rfl rfl ?_
            refine mr_callV C (c_layCounts E a ((nI 0)) st ac td lt lg cu tk sr tl fa fp ((nI (rgN (nI 0) 0 R K sn0 so0 he0 (G, be0, lN_ lo0) i).1)) (nI 0) tr la mn im ho fr wa tp wh1 q3 f1 q1 q2 be1 ik ke tc K 0 (rgN (nI 0) 0 R K sn0 so0 he0 (G, be0, lN_ lo0) i).2.2 hK (by decide) h2 (HM.wlt hH1 hR)) [0, 1, 2, 3, 4, 5, 6, 7, 8, 9, 10, 11, 12, 13, 14, 15, 16] 0 8 113 dX8_roomAhead_110 rfl mk_X8_layCounts mi_X8_layCounts ml_X8_207 rfl rfl rfl rfl rfl (Nat.le_of_ble_eq_true rfl) (by decide) (by decide) (by decide) rfl rfl (fun r w1 hpost => ?_)
            obtain ⟨p1, p2, rfl, rfl, hc2, -⟩ := hpost
            rw [gst0] at hc2
            refine mr_w (wput_all _ _ 17 rfl rfl) ?_
            refine mr_iload_n C 114 dX8_roomAhead_113 rfl rfl ?_
            refine mr_ifne C 126 117 dX8_roomAhead_114 (by decide) rfl (fun c_114 => ?_) (fun c_114 => ?_)
            · rw [Ne, tI_eq0] at c_114
              refine mr_iload C 128 dX8_roomAhead_126 rfl rfl ?_
              refine mr_iret C dX8_roomAhead_128 rfl rfl (by decide) (by decide) hlen ?_
              rw [hO]
              have hin9 : i = n := by omega
              skip
              exact ⟨_, _, _, _, _, _, _, _, _, congrArg (fun z => some (Value.int z)) (((ifP_t (by omega)).trans ((ifP_f (by omega)).trans (by rw [ir_, in_, ← hin9]))).symm), rfl⟩
            · rw [tI_eq0] at c_114
              refine mr_aload_n C 118 dX8_roomAhead_117 rfl rfl ?_
              refine mr_get C 0 121 dX8_roomAhead_118 rfl fl_X8_40 rfl rfl ?_
              refine mr_iload_n C 122 dX8_roomAhead_121 rfl rfl ?_
              refine mr_iald C 11 r 123 dX8_roomAhead_122 rfl rfl rfl (by omega) (by decide) ?_
              refine mr_goto C 128 dX8_roomAhead_123 (by decide) ?_
              refine mr_iret C dX8_roomAhead_128 rfl rfl (by decide) (by decide) hlen ?_
              rw [hO]
              have hin9 : i = n := by omega
              rw [hin9] at hc2
              exact ⟨_, _, _, _, _, _, _, _, _, congrArg (fun z => some (Value.int z)) (((ifP_t (by omega)).trans ((ifP_t (by omega)).trans (by rw [ir_, in_]; exact ((hc2 r (by omega)).trans (cnt_ho hrh _ r)).symm))).symm), rfl⟩
          · rw [nI_leI (by omega) (by omega)] at c_51
            refine mr_aload_n C 55 dX8_roomAhead_54 rfl rfl ?_
            refine mr_callV C (c_goBellH E a ((nI 0)) st ac td lt lg cu tk sr tl fa fp (nI 0) tr la mn im ho fr wa tp wh1 q3 f1 q1 q2 be1 ik ke tc R K 0 hR hK (by decide) h0 h2 hk sn0 so0 he0 (rgN (nI 0) 0 R K sn0 so0 he0 (G, be0, lN_ lo0) i) (by rw [rgN_G]; show G + i < _; omega) hH1) [0, 1, 2, 3, 4, 5, 6, 7, 8, 9, 10, 11, 12, 13, 14, 15, 16] 0 8 58 dX8_roomAhead_55 rfl mk_X8_goBell mi_X8_goBell ml_X8_213 rfl rfl rfl rfl rfl (Nat.le_of_ble_eq_true rfl) (by decide) (by decide) (by decide) rfl rfl (fun r w1 hpost => ?_)
            obtain ⟨wh2, be2, k1, k2, k3, rfl, rfl, hH2⟩ := hpost
            refine mr_w (wput_all _ _ 17 rfl rfl) ?_
            refine mr_istore C 60 dX8_roomAhead_58 rfl (by decide) ?_
            refine mr_aload_n C 61 dX8_roomAhead_60 rfl rfl ?_
            refine mr_callV C (c_layCounts E a ((nI 0)) st ac td lt lg cu tk sr tl fa fp ((nI (rg1 (nI 0) 0 R K sn0 so0 he0 (rgN (nI 0) 0 R K sn0 so0 he0 (G, be0, lN_ lo0) i)).1)) (nI 0) tr la mn im ho fr wa tp wh2 k3 f1 k1 k2 be2 ik ke tc K 0 (rgN (nI 0) 0 R K sn0 so0 he0 (G, be0, lN_ lo0) (i + 1)).2.2 hK (by decide) h2 (HM.wlt hH2 hR)) [0, 1, 2, 3, 4, 5, 6, 7, 8, 9, 10, 11, 12, 13, 14, 15, 16] 0 8 64 dX8_roomAhead_61 rfl mk_X8_layCounts mi_X8_layCounts ml_X8_207 rfl rfl rfl rfl rfl (Nat.le_of_ble_eq_true rfl) (by decide) (by decide) (by decide) rfl rfl (fun r w1 hpost => ?_)
            obtain ⟨p1, p2, rfl, rfl, hc2, -⟩ := hpost
            rw [gst0] at hc2
            refine mr_w (wput_all _ _ 17 rfl rfl) ?_
            refine mr_iload C 66 dX8_roomAhead_64 rfl rfl ?_
            refine mr_aload_n C 67 dX8_roomAhead_66 rfl rfl ?_
            refine mr_get C 0 70 dX8_roomAhead_67 rfl fl_X8_40 rfl rfl ?_
            refine mr_iload_n C 71 dX8_roomAhead_70 rfl rfl ?_
            refine mr_iald C 11 r 72 dX8_roomAhead_71 rfl rfl rfl (by omega) (by decide) ?_
            refine mr_aload_n C 73 dX8_roomAhead_72 rfl rfl ?_
            refine mr_get C 0 76 dX8_roomAhead_73 rfl fl_X8_19 rfl rfl ?_
            refine mr_iconst C (nI 4) 77 dX8_roomAhead_76 rfl rfl ?_
            refine mr_iload_n C 78 dX8_roomAhead_77 rfl rfl ?_
            refine mr_iadd C (nI (4 + r)) 79 dX8_roomAhead_78 rfl (nI_add _ _) ?_
            refine mr_iale C 4 (4 + r) (se0 r) 80 dX8_roomAhead_79 rfl rfl rfl (by omega) (by decide) (hrh.2.2.2.1 r hr).1 ?_
            refine mr_icmpge C 92 83 dX8_roomAhead_80 (by decide) rfl (fun c_80 => ?_) (fun c_80 => ?_)
            · have c_80 : ¬ p1 r < se0 r := Int32.not_lt.mpr c_80
              refine mr_aload_n C 93 dX8_roomAhead_92 rfl rfl ?_
              refine mr_get C 0 96 dX8_roomAhead_93 rfl fl_X8_19 rfl rfl ?_
              refine mr_iconst C (nI 4) 97 dX8_roomAhead_96 rfl rfl ?_
              refine mr_iload_n C 98 dX8_roomAhead_97 rfl rfl ?_
              refine mr_iadd C (nI (4 + r)) 99 dX8_roomAhead_98 rfl (nI_add _ _) ?_
              refine mr_iale C 4 (4 + r) (se0 r) 100 dX8_roomAhead_99 rfl rfl rfl (by omega) (by decide) (hrh.2.2.2.1 r hr).1 ?_
              refine mr_iadd C _ 101 dX8_roomAhead_100 rfl rfl ?_
              refine mr_istore C 103 dX8_roomAhead_101 rfl (by decide) ?_
              refine mr_iinc C (nI (i + 1)) 106 dX8_roomAhead_103 rfl rfl (by decide) (nI_add i 1) ?_
              refine mr_goto C 48 dX8_roomAhead_106 (by decide) ?_
              have e7 : p1 r = cntS (fun _ => nI 0) (rgN (nI 0) 0 R K sn0 so0 he0 (G, be0, lN_ lo0) (i + 1)).2.2 he0 K r := (hc2 r (by omega)).trans (cnt_ho hrh _ r)
              have e6 : wthS R K sn0 so0 he0 (G, be0, lN_ lo0) (se0 r) r (i + 1) = wthS R K sn0 so0 he0 (G, be0, lN_ lo0) (se0 r) r i + se0 r := by
                show wthS R K sn0 so0 he0 (G, be0, lN_ lo0) (se0 r) r i + (if se0 r < cntS (fun _ => nI 0) (rgN (nI 0) 0 R K sn0 so0 he0 (G, be0, lN_ lo0) (i + 1)).2.2 he0 K r then se0 r else cntS (fun _ => nI 0) (rgN (nI 0) 0 R K sn0 so0 he0 (G, be0, lN_ lo0) (i + 1)).2.2 he0 K r) = _
                rw [← minS, ← e7, if_neg c_80]
              have ih2 := ih (by omega)
              rw [e6] at ih2
              exact mr_at (ih2 _ _ _ _ _ hH2) rfl rfl rfl
            · have c_80 : p1 r < se0 r := Int32.not_le.mp c_80
              refine mr_aload_n C 84 dX8_roomAhead_83 rfl rfl ?_
              refine mr_get C 0 87 dX8_roomAhead_84 rfl fl_X8_40 rfl rfl ?_
              refine mr_iload_n C 88 dX8_roomAhead_87 rfl rfl ?_
              refine mr_iald C 11 r 89 dX8_roomAhead_88 rfl rfl rfl (by omega) (by decide) ?_
              refine mr_goto C 100 dX8_roomAhead_89 (by decide) ?_
              refine mr_iadd C _ 101 dX8_roomAhead_100 rfl rfl ?_
              refine mr_istore C 103 dX8_roomAhead_101 rfl (by decide) ?_
              refine mr_iinc C (nI (i + 1)) 106 dX8_roomAhead_103 rfl rfl (by decide) (nI_add i 1) ?_
              refine mr_goto C 48 dX8_roomAhead_106 (by decide) ?_
              have e7 : p1 r = cntS (fun _ => nI 0) (rgN (nI 0) 0 R K sn0 so0 he0 (G, be0, lN_ lo0) (i + 1)).2.2 he0 K r := (hc2 r (by omega)).trans (cnt_ho hrh _ r)
              have e6 : wthS R K sn0 so0 he0 (G, be0, lN_ lo0) (se0 r) r (i + 1) = wthS R K sn0 so0 he0 (G, be0, lN_ lo0) (se0 r) r i + p1 r := by
                show wthS R K sn0 so0 he0 (G, be0, lN_ lo0) (se0 r) r i + (if se0 r < cntS (fun _ => nI 0) (rgN (nI 0) 0 R K sn0 so0 he0 (G, be0, lN_ lo0) (i + 1)).2.2 he0 K r then se0 r else cntS (fun _ => nI 0) (rgN (nI 0) 0 R K sn0 so0 he0 (G, be0, lN_ lo0) (i + 1)).2.2 he0 K r) = _
                rw [← minS, ← e7, if_pos c_80]
              have ih2 := ih (by omega)
              rw [e6] at ih2
              exact mr_at (ih2 _ _ _ _ _ hH2) rfl rfl rfl
        exact mr_at (L 0 (Nat.zero_le _) f3_ f2 no al go hH) rfl rfl rfl
      · rw [bI_eq] at c_32
        refine mr_ldc C 37 dX8_roomAhead_35 rfl kc_X8_79 ?_
        refine mr_iret C dX8_roomAhead_37 rfl rfl (by decide) (by decide) hlen ?_
        rw [hO]
        exact ⟨_, _, _, _, _, _, _, _, _, congrArg (fun z => some (Value.int z)) ((ifP_f (by omega)).symm), rfl⟩

