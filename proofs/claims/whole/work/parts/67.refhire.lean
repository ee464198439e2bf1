/-! the reference: hirings, doors shut -/
noncomputable def hirV (y : Int32) (D : Nat) : Int32 := ifP (D < 366) (ifP (y.toInt = 0) (nI (D / 6)) (nI (D % 6))) (-1000000)
theorem or00 (m : Int32) {y : Nat} (hy : y < 32) : m ||| (nI 0 <<< (nI y &&& 31)) = m := by
  apply b_ext
  intro i hi
  rw [b_or, bt_zero hi hy, Bool.or_false]
theorem nd36 {d : Nat} (hd : d < 2 ^ 30) : ¬ nI d = -1000000 := by
  intro h
  have h1 := tI_n (n := d) (by omega)
  rw [h] at h1
  have h2 : (-1000000 : Int32).toInt = -1000000 := rfl
  omega
set_option maxRecDepth 20000 in
set_option maxHeartbeats 4000000 in
theorem c_hire_m (E : EG) (a : Nat → Nat) (tn st ac td lt lg cu tk sr tl fa fp gn gi gm tr : Int32) (la mn im ho fr wa tp wh go se no al be ik ke tc : FN) (R K G : Nat) (se0 sn0 be0 so0 lo0 he0 : FN) (hR : R ≤ 6) (hK : K ≤ 5) (hG : G ≤ 9999) (hl : ∀ c, c < K → lo0 c = nI (lN_ lo0 c) ∧ lN_ lo0 c < R) (hso : ∀ c, c < K → ∃ k, 1 ≤ k ∧ k ≤ 5 ∧ so0 c = nI k) (hrh : RH ho R K G se0 sn0 be0 so0 lo0 he0) (r n : Nat) (y0 : Int32) (em : Nat) (hr : r < R) (hn20 : n ≤ 60) (hem : em ≤ 1) : Ctr E mX8_hire (6, 0, 0) [.ref (a 0), .int (nI r), .int (nI n), .int y0, .int (nI em)] (wM E a tn st la mn im ho fr wa ac tp td lt lg cu tk sr tl fa fp wh go se no al be gn gi gm ik ke tc tr) (fun v w => ∃ (wh' go' se' no' al' be' : FN) (gn' gi' gm' : Int32), v = some (.int (hirV y0 (fstN (fun d => hirP R K n sn0 so0 he0 G be0 (lN_ lo0) r em (d)) 366 0))) ∧ w = wM E a tn st la mn im ho fr wa ac tp td lt lg cu tk sr tl fa fp (wh') (go') (se') (no') (al') (be') (gn') (gi') (gm') ik ke tc tr) := by
  refine Ctr.of (by decide) (Nat.le_of_ble_eq_true rfl) ?_
  intro Z hO hn C
  have hlen : zn Z ≤ 17 := by rw [hn]; exact Nat.le_of_ble_eq_true rfl
  have h0 := hrh.1
  have h2 := hrh.2.1
  have h3 := hrh.2.2.1
  have hk : ∀ c, c < K → ∃ k, 1 ≤ k ∧ k ≤ 5 ∧ hoS ho c = nI k := fun c hc => by
    obtain ⟨k, e1, e2, e3⟩ := hso c hc
    exact ⟨k, e1, e2, (hrh.2.2.2.2.2 c hc).1.trans e3⟩
  have IN : ∀ i : Nat, i ≤ 60 → (∀ (w1 w2 w3 w4 w5 w6 : FN) (g1 g2 g3 : Int32), (∀ d, d < 6 * (i + 1) → ¬ hirP R K n sn0 so0 he0 G be0 (lN_ lo0) r em (d)) → V E mX8_hire (6, 0, 0) Z 0 0 (wM E a tn st la mn im ho fr wa ac tp td lt lg cu tk sr tl fa fp w1 w2 w3 w4 w5 w6 g1 g2 g3 ik ke tc tr) [(0, .ref (a 0)), (1, .int (nI r)), (2, .int (nI n)), (3, .int y0), (4, .int (nI em)), (5, .int (nI i))] [] 91) → ∀ k, k ≤ R → ∀ (w1 w2 w3 w4 w5 w6 : FN) (g1 g2 g3 : Int32), (∀ d, d < 6 * i + k → ¬ hirP R K n sn0 so0 he0 G be0 (lN_ lo0) r em (d)) → V E mX8_hire (6, 0, 0) Z 0 0 (wM E a tn st la mn im ho fr wa ac tp td lt lg cu tk sr tl fa fp w1 w2 w3 w4 w5 w6 g1 g2 g3 ik ke tc tr) [(0, .ref (a 0)), (1, .int (nI r)), (2, .int (nI n)), (3, .int y0), (4, .int (nI em)), (5, .int (nI i)), (6, .int (nI k))] [] 13 := by
    intro i hi6 bhd_
    refine lp_up R ?_
    intro k hk9 ihk w1 w2 w3 w4 w5 w6 g1 g2 g3 hfk
    refine mr_iload C 15 dX8_hire_13 rfl rfl ?_
    refine mr_aload_n C 16 dX8_hire_15 rfl rfl ?_
    refine mr_get C 0 19 dX8_hire_16 rfl fl_X8_19 rfl rfl ?_
    refine mr_iconst C (nI 0) 20 dX8_hire_19 rfl rfl ?_
    refine mr_iale C 4 0 (nI R) 21 dX8_hire_20 rfl rfl rfl (by omega) (by decide) h0 ?_
    refine mr_icmpge C 91 24 dX8_hire_21 (by decide) rfl (fun c_21 => ?_) (fun c_21 => ?_)
    · rw [nI_leI (by omega) (by omega)] at c_21
      have hb9 := bhd_ w1 w2 w3 w4 w5 w6 g1 g2 g3 (by
        intro d hd h
        by_cases e : d < 6 * i + k
        · exact hfk d e h
        · have h1 := h.1; have h3 := h.2.1
          omega)
      exact mr_at hb9 rfl rfl rfl
    · rw [nI_leI (by omega) (by omega)] at c_21
      refine mr_iload C 26 dX8_hire_24 rfl rfl ?_
      refine mr_ifgt C 34 29 dX8_hire_26 (by decide) rfl (fun c_26 => ?_) (fun c_26 => ?_)
      · have c_26 : 0 < i := by
          have h9 : ¬ i = 0 := fun h => by rw [h] at c_26; exact absurd c_26 (by decide)
          omega
        refine mr_iload C 36 dX8_hire_34 rfl rfl ?_
        refine mr_ifeq C 50 39 dX8_hire_36 (by decide) rfl (fun c_36 => ?_) (fun c_36 => ?_)
        · have c_36 : i = 0 := (nI_eq (b := 0) (by omega) (by omega)).mp c_36
          refine mr_aload_n C 51 dX8_hire_50 rfl rfl ?_
          refine mr_iload C 53 dX8_hire_51 rfl rfl ?_
          refine mr_iload C 55 dX8_hire_53 rfl rfl ?_
          refine mr_callV C (c_layHired E a tn st ac td lt lg cu tk sr tl fa fp g1 g2 g3 tr la mn im ho fr wa tp w1 w2 w3 w4 w5 w6 ik ke tc R K G se0 sn0 be0 so0 lo0 he0 hR hK hG hl hso hrh k i (by omega)) [0, 1, 2, 3, 4, 5, 6, 7, 8, 9, 10, 11, 12, 13, 14, 15, 16] 0 8 58 dX8_hire_55 rfl mk_X8_layHired mi_X8_layHired ml_X8_258 rfl rfl rfl rfl rfl (Nat.le_of_ble_eq_true rfl) (by decide) (by decide) (by decide) rfl rfl (fun r w1 hpost => ?_)
          obtain ⟨f1, f2, f3_, rfl, rfl, hH⟩ := hpost
          refine mr_w (wput_all _ _ 17 rfl rfl) ?_
          refine mr_aload_n C 59 dX8_hire_58 rfl rfl ?_
          refine mr_iload_n C 60 dX8_hire_59 rfl rfl ?_
          refine mr_callV C (c_goBells E a tn st ac td lt lg cu tk sr tl fa fp (nI i) tr la mn im ho fr wa tp f3_ w2 f1 w4 w5 f2 ik ke tc R K k hR hK (by omega) h0 h2 hk sn0 so0 he0 (G, upd be0 k (be0 k + nI i), lN_ lo0) n (by omega) (by show G < 2 ^ 29; omega) hH) [0, 1, 2, 3, 4, 5, 6, 7, 8, 9, 10, 11, 12, 13, 14, 15, 16] 0 8 63 dX8_hire_60 rfl mk_X8_goBells mi_X8_goBells ml_X8_249 rfl rfl rfl rfl rfl (Nat.le_of_ble_eq_true rfl) (by decide) (by decide) (by decide) rfl rfl (fun r w1 hpost => ?_)
          obtain ⟨wh1, be1, q1, q2, q3, rfl, rfl, hH1⟩ := hpost
          refine mr_w (wput_all _ _ 17 rfl rfl) ?_
          refine mr_aload_n C 64 dX8_hire_63 rfl rfl ?_
          refine mr_iload_n C 65 dX8_hire_64 rfl rfl ?_
          refine mr_iload C 67 dX8_hire_65 rfl rfl ?_
          refine mr_callV C (c_isSo E a tn st ac td lt lg cu tk sr tl fa fp ((nI (rgN (nI i) k R K sn0 so0 he0 (G, upd be0 k (be0 k + nI i), lN_ lo0) n).1)) (nI k) (nI i) tr la mn im ho fr wa tp wh1 q3 f1 q1 q2 be1 ik ke tc R K sn0 so0 he0 hR hK h2 (rgN (nI i) k R K sn0 so0 he0 (G, upd be0 k (be0 k + nI i), lN_ lo0) n) hH1 r em (by omega) hem) [0, 1, 2, 3, 4, 5, 6, 7, 8, 9, 10, 11, 12, 13, 14, 15, 16] 0 8 70 dX8_hire_67 rfl mk_X8_isSo mi_X8_isSo ml_X8_261 rfl rfl rfl rfl rfl (Nat.le_of_ble_eq_true rfl) (by decide) (by decide) (by decide) rfl rfl (fun r w1 hpost => ?_)
          obtain ⟨rfl, rfl⟩ := hpost
          refine mr_w (wput_all _ _ 17 rfl rfl) ?_
          refine mr_ifeq C 85 73 dX8_hire_70 (by decide) rfl (fun c_70 => ?_) (fun c_70 => ?_)
          · rw [bP_eq] at c_70
            have c_70 : ¬ okS R K n sn0 so0 he0 G be0 (lN_ lo0) r em k i := c_70
            refine mr_iinc C (nI (k + 1)) 88 dX8_hire_85 rfl rfl (by decide) (nI_add k 1) ?_
            refine mr_goto C 13 dX8_hire_88 (by decide) ?_
            refine mr_at (ihk (by omega) _ _ _ _ _ _ _ _ _ ?_) rfl rfl rfl
            intro d hd h
            by_cases e : d = 6 * i + k
            · rw [e] at h
              unfold hirP at h; rw [show (6 * i + k) % 6 = k by omega, show (6 * i + k) / 6 = i by omega] at h
              exact c_70 h.2.2.2
            · exact hfk d (by omega) h
          · rw [← Ne, bP_ne] at c_70
            have c_70 : okS R K n sn0 so0 he0 G be0 (lN_ lo0) r em k i := c_70
            refine mr_iload_n C 74 dX8_hire_73 rfl rfl ?_
            refine mr_ifne C 82 77 dX8_hire_74 (by decide) rfl (fun c_74 => ?_) (fun c_74 => ?_)
            · rw [Ne, tI_eq0] at c_74
              refine mr_iload C 84 dX8_hire_82 rfl rfl ?_
              refine mr_iret C dX8_hire_84 rfl rfl (by decide) (by decide) hlen ?_
              rw [hO]
              have e9 : fstN (fun d => hirP R K n sn0 so0 he0 G be0 (lN_ lo0) r em (d)) 366 0 = 6 * i + k := fstN_hit 366 0 (6 * i + k) (by omega) (by omega) (fun j _ h => hfk j h) (by
                show hirP R K n sn0 so0 he0 G be0 (lN_ lo0) r em (6 * i + k)
                unfold hirP; rw [show (6 * i + k) % 6 = k by omega, show (6 * i + k) / 6 = i by omega]; exact ⟨by omega, by omega, fun h => absurd h.2.1 (by omega), c_70⟩)
              refine ⟨_, _, _, _, _, _, _, _, _, ?_, rfl⟩
              rw [e9]
              exact congrArg (fun z => some (Value.int z)) (((ifP_t (by omega)).trans ((ifP_f c_74).trans (congrArg nI (by omega)))).symm)
            · rw [tI_eq0] at c_74
              refine mr_iload C 79 dX8_hire_77 rfl rfl ?_
              refine mr_goto C 84 dX8_hire_79 (by decide) ?_
              refine mr_iret C dX8_hire_84 rfl rfl (by decide) (by decide) hlen ?_
              rw [hO]
              have e9 : fstN (fun d => hirP R K n sn0 so0 he0 G be0 (lN_ lo0) r em (d)) 366 0 = 6 * i + k := fstN_hit 366 0 (6 * i + k) (by omega) (by omega) (fun j _ h => hfk j h) (by
                show hirP R K n sn0 so0 he0 G be0 (lN_ lo0) r em (6 * i + k)
                unfold hirP; rw [show (6 * i + k) % 6 = k by omega, show (6 * i + k) / 6 = i by omega]; exact ⟨by omega, by omega, fun h => absurd h.2.1 (by omega), c_70⟩)
              refine ⟨_, _, _, _, _, _, _, _, _, ?_, rfl⟩
              rw [e9]
              exact congrArg (fun z => some (Value.int z)) (((ifP_t (by omega)).trans ((ifP_t c_74).trans (congrArg nI (by omega)))).symm)
        · have c_36 : ¬ i = 0 := fun h => c_36 (by rw [h]; rfl)
          refine mr_iload C 41 dX8_hire_39 rfl rfl ?_
          refine mr_ifeq C 50 44 dX8_hire_41 (by decide) rfl (fun c_41 => ?_) (fun c_41 => ?_)
          · have c_41 : em = 0 := (nI_eq (b := 0) (by omega) (by omega)).mp c_41
            refine mr_aload_n C 51 dX8_hire_50 rfl rfl ?_
            refine mr_iload C 53 dX8_hire_51 rfl rfl ?_
            refine mr_iload C 55 dX8_hire_53 rfl rfl ?_
            refine mr_callV C (c_layHired E a tn st ac td lt lg cu tk sr tl fa fp g1 g2 g3 tr la mn im ho fr wa tp w1 w2 w3 w4 w5 w6 ik ke tc R K G se0 sn0 be0 so0 lo0 he0 hR hK hG hl hso hrh k i (by omega)) [0, 1, 2, 3, 4, 5, 6, 7, 8, 9, 10, 11, 12, 13, 14, 15, 16] 0 8 58 dX8_hire_55 rfl mk_X8_layHired mi_X8_layHired ml_X8_258 rfl rfl rfl rfl rfl (Nat.le_of_ble_eq_true rfl) (by decide) (by decide) (by decide) rfl rfl (fun r w1 hpost => ?_)
            obtain ⟨f1, f2, f3_, rfl, rfl, hH⟩ := hpost
            refine mr_w (wput_all _ _ 17 rfl rfl) ?_
            refine mr_aload_n C 59 dX8_hire_58 rfl rfl ?_
            refine mr_iload_n C 60 dX8_hire_59 rfl rfl ?_
            refine mr_callV C (c_goBells E a tn st ac td lt lg cu tk sr tl fa fp (nI i) tr la mn im ho fr wa tp f3_ w2 f1 w4 w5 f2 ik ke tc R K k hR hK (by omega) h0 h2 hk sn0 so0 he0 (G, upd be0 k (be0 k + nI i), lN_ lo0) n (by omega) (by show G < 2 ^ 29; omega) hH) [0, 1, 2, 3, 4, 5, 6, 7, 8, 9, 10, 11, 12, 13, 14, 15, 16] 0 8 63 dX8_hire_60 rfl mk_X8_goBells mi_X8_goBells ml_X8_249 rfl rfl rfl rfl rfl (Nat.le_of_ble_eq_true rfl) (by decide) (by decide) (by decide) rfl rfl (fun r w1 hpost => ?_)
            obtain ⟨wh1, be1, q1, q2, q3, rfl, rfl, hH1⟩ := hpost
            refine mr_w (wput_all _ _ 17 rfl rfl) ?_
            refine mr_aload_n C 64 dX8_hire_63 rfl rfl ?_
            refine mr_iload_n C 65 dX8_hire_64 rfl rfl ?_
            refine mr_iload C 67 dX8_hire_65 rfl rfl ?_
            refine mr_callV C (c_isSo E a tn st ac td lt lg cu tk sr tl fa fp ((nI (rgN (nI i) k R K sn0 so0 he0 (G, upd be0 k (be0 k + nI i), lN_ lo0) n).1)) (nI k) (nI i) tr la mn im ho fr wa tp wh1 q3 f1 q1 q2 be1 ik ke tc R K sn0 so0 he0 hR hK h2 (rgN (nI i) k R K sn0 so0 he0 (G, upd be0 k (be0 k + nI i), lN_ lo0) n) hH1 r em (by omega) hem) [0, 1, 2, 3, 4, 5, 6, 7, 8, 9, 10, 11, 12, 13, 14, 15, 16] 0 8 70 dX8_hire_67 rfl mk_X8_isSo mi_X8_isSo ml_X8_261 rfl rfl rfl rfl rfl (Nat.le_of_ble_eq_true rfl) (by decide) (by decide) (by decide) rfl rfl (fun r w1 hpost => ?_)
            obtain ⟨rfl, rfl⟩ := hpost
            refine mr_w (wput_all _ _ 17 rfl rfl) ?_
            refine mr_ifeq C 85 73 dX8_hire_70 (by decide) rfl (fun c_70 => ?_) (fun c_70 => ?_)
            · rw [bP_eq] at c_70
              have c_70 : ¬ okS R K n sn0 so0 he0 G be0 (lN_ lo0) r em k i := c_70
              refine mr_iinc C (nI (k + 1)) 88 dX8_hire_85 rfl rfl (by decide) (nI_add k 1) ?_
              refine mr_goto C 13 dX8_hire_88 (by decide) ?_
              refine mr_at (ihk (by omega) _ _ _ _ _ _ _ _ _ ?_) rfl rfl rfl
              intro d hd h
              by_cases e : d = 6 * i + k
              · rw [e] at h
                unfold hirP at h; rw [show (6 * i + k) % 6 = k by omega, show (6 * i + k) / 6 = i by omega] at h
                exact c_70 h.2.2.2
              · exact hfk d (by omega) h
            · rw [← Ne, bP_ne] at c_70
              have c_70 : okS R K n sn0 so0 he0 G be0 (lN_ lo0) r em k i := c_70
              refine mr_iload_n C 74 dX8_hire_73 rfl rfl ?_
              refine mr_ifne C 82 77 dX8_hire_74 (by decide) rfl (fun c_74 => ?_) (fun c_74 => ?_)
              · rw [Ne, tI_eq0] at c_74
                refine mr_iload C 84 dX8_hire_82 rfl rfl ?_
                refine mr_iret C dX8_hire_84 rfl rfl (by decide) (by decide) hlen ?_
                rw [hO]
                have e9 : fstN (fun d => hirP R K n sn0 so0 he0 G be0 (lN_ lo0) r em (d)) 366 0 = 6 * i + k := fstN_hit 366 0 (6 * i + k) (by omega) (by omega) (fun j _ h => hfk j h) (by
                  show hirP R K n sn0 so0 he0 G be0 (lN_ lo0) r em (6 * i + k)
                  unfold hirP; rw [show (6 * i + k) % 6 = k by omega, show (6 * i + k) / 6 = i by omega]; exact ⟨by omega, by omega, fun h => absurd (c_41.symm.trans h.1) (by decide), c_70⟩)
                refine ⟨_, _, _, _, _, _, _, _, _, ?_, rfl⟩
                rw [e9]
                exact congrArg (fun z => some (Value.int z)) (((ifP_t (by omega)).trans ((ifP_f c_74).trans (congrArg nI (by omega)))).symm)
              · rw [tI_eq0] at c_74
                refine mr_iload C 79 dX8_hire_77 rfl rfl ?_
                refine mr_goto C 84 dX8_hire_79 (by decide) ?_
                refine mr_iret C dX8_hire_84 rfl rfl (by decide) (by decide) hlen ?_
                rw [hO]
                have e9 : fstN (fun d => hirP R K n sn0 so0 he0 G be0 (lN_ lo0) r em (d)) 366 0 = 6 * i + k := fstN_hit 366 0 (6 * i + k) (by omega) (by omega) (fun j _ h => hfk j h) (by
                  show hirP R K n sn0 so0 he0 G be0 (lN_ lo0) r em (6 * i + k)
                  unfold hirP; rw [show (6 * i + k) % 6 = k by omega, show (6 * i + k) / 6 = i by omega]; exact ⟨by omega, by omega, fun h => absurd (c_41.symm.trans h.1) (by decide), c_70⟩)
                refine ⟨_, _, _, _, _, _, _, _, _, ?_, rfl⟩
                rw [e9]
                exact congrArg (fun z => some (Value.int z)) (((ifP_t (by omega)).trans ((ifP_t c_74).trans (congrArg nI (by omega)))).symm)
          · have c_41 : em = 1 := by
              have h9 : ¬ em = 0 := fun h => c_41 (by rw [h]; rfl)
              omega
            refine mr_iload C 46 dX8_hire_44 rfl rfl ?_
            refine mr_iload_n C 47 dX8_hire_46 rfl rfl ?_
            refine mr_icmpeq C 85 50 dX8_hire_47 (by decide) rfl (fun c_47 => ?_) (fun c_47 => ?_)
            · rw [nI_eq (by omega) (by omega)] at c_47
              refine mr_iinc C (nI (k + 1)) 88 dX8_hire_85 rfl rfl (by decide) (nI_add k 1) ?_
              refine mr_goto C 13 dX8_hire_88 (by decide) ?_
              refine mr_at (ihk (by omega) _ _ _ _ _ _ _ _ _ ?_) rfl rfl rfl
              intro d hd h
              by_cases e : d = 6 * i + k
              · rw [e] at h
                unfold hirP at h; rw [show (6 * i + k) % 6 = k by omega, show (6 * i + k) / 6 = i by omega] at h
                exact h.2.2.1 ⟨c_41, by omega, c_47⟩
              · exact hfk d (by omega) h
            · rw [nI_eq (by omega) (by omega)] at c_47
              refine mr_aload_n C 51 dX8_hire_50 rfl rfl ?_
              refine mr_iload C 53 dX8_hire_51 rfl rfl ?_
              refine mr_iload C 55 dX8_hire_53 rfl rfl ?_
              refine mr_callV C (c_layHired E a tn st ac td lt lg cu tk sr tl fa fp g1 g2 g3 tr la mn im ho fr wa tp w1 w2 w3 w4 w5 w6 ik ke tc R K G se0 sn0 be0 so0 lo0 he0 hR hK hG hl hso hrh k i (by omega)) [0, 1, 2, 3, 4, 5, 6, 7, 8, 9, 10, 11, 12, 13, 14, 15, 16] 0 8 58 dX8_hire_55 rfl mk_X8_layHired mi_X8_layHired ml_X8_258 rfl rfl rfl rfl rfl (Nat.le_of_ble_eq_true rfl) (by decide) (by decide) (by decide) rfl rfl (fun r w1 hpost => ?_)
              obtain ⟨f1, f2, f3_, rfl, rfl, hH⟩ := hpost
              refine mr_w (wput_all _ _ 17 rfl rfl) ?_
              refine mr_aload_n C 59 dX8_hire_58 rfl rfl ?_
              refine mr_iload_n C 60 dX8_hire_59 rfl rfl ?_
              refine mr_callV C (c_goBells E a tn st ac td lt lg cu tk sr tl fa fp (nI i) tr la mn im ho fr wa tp f3_ w2 f1 w4 w5 f2 ik ke tc R K k hR hK (by omega) h0 h2 hk sn0 so0 he0 (G, upd be0 k (be0 k + nI i), lN_ lo0) n (by omega) (by show G < 2 ^ 29; omega) hH) [0, 1, 2, 3, 4, 5, 6, 7, 8, 9, 10, 11, 12, 13, 14, 15, 16] 0 8 63 dX8_hire_60 rfl mk_X8_goBells mi_X8_goBells ml_X8_249 rfl rfl rfl rfl rfl (Nat.le_of_ble_eq_true rfl) (by decide) (by decide) (by decide) rfl rfl (fun r w1 hpost => ?_)
              obtain ⟨wh1, be1, q1, q2, q3, rfl, rfl, hH1⟩ := hpost
              refine mr_w (wput_all _ _ 17 rfl rfl) ?_
              refine mr_aload_n C 64 dX8_hire_63 rfl rfl ?_
              refine mr_iload_n C 65 dX8_hire_64 rfl rfl ?_
              refine mr_iload C 67 dX8_hire_65 rfl rfl ?_
              refine mr_callV C (c_isSo E a tn st ac td lt lg cu tk sr tl fa fp ((nI (rgN (nI i) k R K sn0 so0 he0 (G, upd be0 k (be0 k + nI i), lN_ lo0) n).1)) (nI k) (nI i) tr la mn im ho fr wa tp wh1 q3 f1 q1 q2 be1 ik ke tc R K sn0 so0 he0 hR hK h2 (rgN (nI i) k R K sn0 so0 he0 (G, upd be0 k (be0 k + nI i), lN_ lo0) n) hH1 r em (by omega) hem) [0, 1, 2, 3, 4, 5, 6, 7, 8, 9, 10, 11, 12, 13, 14, 15, 16] 0 8 70 dX8_hire_67 rfl mk_X8_isSo mi_X8_isSo ml_X8_261 rfl rfl rfl rfl rfl (Nat.le_of_ble_eq_true rfl) (by decide) (by decide) (by decide) rfl rfl (fun r w1 hpost => ?_)
              obtain ⟨rfl, rfl⟩ := hpost
              refine mr_w (wput_all _ _ 17 rfl rfl) ?_
              refine mr_ifeq C 85 73 dX8_hire_70 (by decide) rfl (fun c_70 => ?_) (fun c_70 => ?_)
              · rw [bP_eq] at c_70
                have c_70 : ¬ okS R K n sn0 so0 he0 G be0 (lN_ lo0) r em k i := c_70
                refine mr_iinc C (nI (k + 1)) 88 dX8_hire_85 rfl rfl (by decide) (nI_add k 1) ?_
                refine mr_goto C 13 dX8_hire_88 (by decide) ?_
                refine mr_at (ihk (by omega) _ _ _ _ _ _ _ _ _ ?_) rfl rfl rfl
                intro d hd h
                by_cases e : d = 6 * i + k
                · rw [e] at h
                  unfold hirP at h; rw [show (6 * i + k) % 6 = k by omega, show (6 * i + k) / 6 = i by omega] at h
                  exact c_70 h.2.2.2
                · exact hfk d (by omega) h
              · rw [← Ne, bP_ne] at c_70
                have c_70 : okS R K n sn0 so0 he0 G be0 (lN_ lo0) r em k i := c_70
                refine mr_iload_n C 74 dX8_hire_73 rfl rfl ?_
                refine mr_ifne C 82 77 dX8_hire_74 (by decide) rfl (fun c_74 => ?_) (fun c_74 => ?_)
                · rw [Ne, tI_eq0] at c_74
                  refine mr_iload C 84 dX8_hire_82 rfl rfl ?_
                  refine mr_iret C dX8_hire_84 rfl rfl (by decide) (by decide) hlen ?_
                  rw [hO]
                  have e9 : fstN (fun d => hirP R K n sn0 so0 he0 G be0 (lN_ lo0) r em (d)) 366 0 = 6 * i + k := fstN_hit 366 0 (6 * i + k) (by omega) (by omega) (fun j _ h => hfk j h) (by
                    show hirP R K n sn0 so0 he0 G be0 (lN_ lo0) r em (6 * i + k)
                    unfold hirP; rw [show (6 * i + k) % 6 = k by omega, show (6 * i + k) / 6 = i by omega]; exact ⟨by omega, by omega, fun h => c_47 h.2.2, c_70⟩)
                  refine ⟨_, _, _, _, _, _, _, _, _, ?_, rfl⟩
                  rw [e9]
                  exact congrArg (fun z => some (Value.int z)) (((ifP_t (by omega)).trans ((ifP_f c_74).trans (congrArg nI (by omega)))).symm)
                · rw [tI_eq0] at c_74
                  refine mr_iload C 79 dX8_hire_77 rfl rfl ?_
                  refine mr_goto C 84 dX8_hire_79 (by decide) ?_
                  refine mr_iret C dX8_hire_84 rfl rfl (by decide) (by decide) hlen ?_
                  rw [hO]
                  have e9 : fstN (fun d => hirP R K n sn0 so0 he0 G be0 (lN_ lo0) r em (d)) 366 0 = 6 * i + k := fstN_hit 366 0 (6 * i + k) (by omega) (by omega) (fun j _ h => hfk j h) (by
                    show hirP R K n sn0 so0 he0 G be0 (lN_ lo0) r em (6 * i + k)
                    unfold hirP; rw [show (6 * i + k) % 6 = k by omega, show (6 * i + k) / 6 = i by omega]; exact ⟨by omega, by omega, fun h => c_47 h.2.2, c_70⟩)
                  refine ⟨_, _, _, _, _, _, _, _, _, ?_, rfl⟩
                  rw [e9]
                  exact congrArg (fun z => some (Value.int z)) (((ifP_t (by omega)).trans ((ifP_t c_74).trans (congrArg nI (by omega)))).symm)
      · have c_26 : i = 0 := by
          by_cases h9 : i = 0
          · exact h9
          · exact absurd ((nI_ltI (a := 0) (by omega) (by omega)).mpr (by omega)) c_26
        refine mr_iload C 31 dX8_hire_29 rfl rfl ?_
        refine mr_ifne C 91 34 dX8_hire_31 (by decide) rfl (fun c_31 => ?_) (fun c_31 => ?_)
        · have c_31 : ¬ k = 0 := fun h => c_31 (by rw [h]; rfl)
          have hb9 := bhd_ w1 w2 w3 w4 w5 w6 g1 g2 g3 (by
            intro d hd h
            by_cases e : d < 6 * i + k
            · exact hfk d e h
            · have h1 := h.1; have h3 := h.2.1
              omega)
          exact mr_at hb9 rfl rfl rfl
        · have c_31 : k = 0 := (nI_eq (b := 0) (by omega) (by omega)).mp c_31
          refine mr_iload C 36 dX8_hire_34 rfl rfl ?_
          refine mr_ifeq C 50 39 dX8_hire_36 (by decide) rfl (fun c_36 => ?_) (fun c_36 => ?_)
          · have c_36 : i = 0 := (nI_eq (b := 0) (by omega) (by omega)).mp c_36
            refine mr_aload_n C 51 dX8_hire_50 rfl rfl ?_
            refine mr_iload C 53 dX8_hire_51 rfl rfl ?_
            refine mr_iload C 55 dX8_hire_53 rfl rfl ?_
            refine mr_callV C (c_layHired E a tn st ac td lt lg cu tk sr tl fa fp g1 g2 g3 tr la mn im ho fr wa tp w1 w2 w3 w4 w5 w6 ik ke tc R K G se0 sn0 be0 so0 lo0 he0 hR hK hG hl hso hrh k i (by omega)) [0, 1, 2, 3, 4, 5, 6, 7, 8, 9, 10, 11, 12, 13, 14, 15, 16] 0 8 58 dX8_hire_55 rfl mk_X8_layHired mi_X8_layHired ml_X8_258 rfl rfl rfl rfl rfl (Nat.le_of_ble_eq_true rfl) (by decide) (by decide) (by decide) rfl rfl (fun r w1 hpost => ?_)
            obtain ⟨f1, f2, f3_, rfl, rfl, hH⟩ := hpost
            refine mr_w (wput_all _ _ 17 rfl rfl) ?_
            refine mr_aload_n C 59 dX8_hire_58 rfl rfl ?_
            refine mr_iload_n C 60 dX8_hire_59 rfl rfl ?_
            refine mr_callV C (c_goBells E a tn st ac td lt lg cu tk sr tl fa fp (nI i) tr la mn im ho fr wa tp f3_ w2 f1 w4 w5 f2 ik ke tc R K k hR hK (by omega) h0 h2 hk sn0 so0 he0 (G, upd be0 k (be0 k + nI i), lN_ lo0) n (by omega) (by show G < 2 ^ 29; omega) hH) [0, 1, 2, 3, 4, 5, 6, 7, 8, 9, 10, 11, 12, 13, 14, 15, 16] 0 8 63 dX8_hire_60 rfl mk_X8_goBells mi_X8_goBells ml_X8_249 rfl rfl rfl rfl rfl (Nat.le_of_ble_eq_true rfl) (by decide) (by decide) (by decide) rfl rfl (fun r w1 hpost => ?_)
            obtain ⟨wh1, be1, q1, q2, q3, rfl, rfl, hH1⟩ := hpost
            refine mr_w (wput_all _ _ 17 rfl rfl) ?_
            refine mr_aload_n C 64 dX8_hire_63 rfl rfl ?_
            refine mr_iload_n C 65 dX8_hire_64 rfl rfl ?_
            refine mr_iload C 67 dX8_hire_65 rfl rfl ?_
            refine mr_callV C (c_isSo E a tn st ac td lt lg cu tk sr tl fa fp ((nI (rgN (nI i) k R K sn0 so0 he0 (G, upd be0 k (be0 k + nI i), lN_ lo0) n).1)) (nI k) (nI i) tr la mn im ho fr wa tp wh1 q3 f1 q1 q2 be1 ik ke tc R K sn0 so0 he0 hR hK h2 (rgN (nI i) k R K sn0 so0 he0 (G, upd be0 k (be0 k + nI i), lN_ lo0) n) hH1 r em (by omega) hem) [0, 1, 2, 3, 4, 5, 6, 7, 8, 9, 10, 11, 12, 13, 14, 15, 16] 0 8 70 dX8_hire_67 rfl mk_X8_isSo mi_X8_isSo ml_X8_261 rfl rfl rfl rfl rfl (Nat.le_of_ble_eq_true rfl) (by decide) (by decide) (by decide) rfl rfl (fun r w1 hpost => ?_)
            obtain ⟨rfl, rfl⟩ := hpost
            refine mr_w (wput_all _ _ 17 rfl rfl) ?_
            refine mr_ifeq C 85 73 dX8_hire_70 (by decide) rfl (fun c_70 => ?_) (fun c_70 => ?_)
            · rw [bP_eq] at c_70
              have c_70 : ¬ okS R K n sn0 so0 he0 G be0 (lN_ lo0) r em k i := c_70
              refine mr_iinc C (nI (k + 1)) 88 dX8_hire_85 rfl rfl (by decide) (nI_add k 1) ?_
              refine mr_goto C 13 dX8_hire_88 (by decide) ?_
              refine mr_at (ihk (by omega) _ _ _ _ _ _ _ _ _ ?_) rfl rfl rfl
              intro d hd h
              by_cases e : d = 6 * i + k
              · rw [e] at h
                unfold hirP at h; rw [show (6 * i + k) % 6 = k by omega, show (6 * i + k) / 6 = i by omega] at h
                exact c_70 h.2.2.2
              · exact hfk d (by omega) h
            · rw [← Ne, bP_ne] at c_70
              have c_70 : okS R K n sn0 so0 he0 G be0 (lN_ lo0) r em k i := c_70
              refine mr_iload_n C 74 dX8_hire_73 rfl rfl ?_
              refine mr_ifne C 82 77 dX8_hire_74 (by decide) rfl (fun c_74 => ?_) (fun c_74 => ?_)
              · rw [Ne, tI_eq0] at c_74
                refine mr_iload C 84 dX8_hire_82 rfl rfl ?_
                refine mr_iret C dX8_hire_84 rfl rfl (by decide) (by decide) hlen ?_
                rw [hO]
                have e9 : fstN (fun d => hirP R K n sn0 so0 he0 G be0 (lN_ lo0) r em (d)) 366 0 = 6 * i + k := fstN_hit 366 0 (6 * i + k) (by omega) (by omega) (fun j _ h => hfk j h) (by
                  show hirP R K n sn0 so0 he0 G be0 (lN_ lo0) r em (6 * i + k)
                  unfold hirP; rw [show (6 * i + k) % 6 = k by omega, show (6 * i + k) / 6 = i by omega]; exact ⟨by omega, by omega, fun h => absurd h.2.1 (by omega), c_70⟩)
                refine ⟨_, _, _, _, _, _, _, _, _, ?_, rfl⟩
                rw [e9]
                exact congrArg (fun z => some (Value.int z)) (((ifP_t (by omega)).trans ((ifP_f c_74).trans (congrArg nI (by omega)))).symm)
              · rw [tI_eq0] at c_74
                refine mr_iload C 79 dX8_hire_77 rfl rfl ?_
                refine mr_goto C 84 dX8_hire_79 (by decide) ?_
                refine mr_iret C dX8_hire_84 rfl rfl (by decide) (by decide) hlen ?_
                rw [hO]
                have e9 : fstN (fun d => hirP R K n sn0 so0 he0 G be0 (lN_ lo0) r em (d)) 366 0 = 6 * i + k := fstN_hit 366 0 (6 * i + k) (by omega) (by omega) (fun j _ h => hfk j h) (by
                  show hirP R K n sn0 so0 he0 G be0 (lN_ lo0) r em (6 * i + k)
                  unfold hirP; rw [show (6 * i + k) % 6 = k by omega, show (6 * i + k) / 6 = i by omega]; exact ⟨by omega, by omega, fun h => absurd h.2.1 (by omega), c_70⟩)
                refine ⟨_, _, _, _, _, _, _, _, _, ?_, rfl⟩
                rw [e9]
                exact congrArg (fun z => some (Value.int z)) (((ifP_t (by omega)).trans ((ifP_t c_74).trans (congrArg nI (by omega)))).symm)
          · have c_36 : ¬ i = 0 := fun h => c_36 (by rw [h]; rfl)
            refine mr_iload C 41 dX8_hire_39 rfl rfl ?_
            refine mr_ifeq C 50 44 dX8_hire_41 (by decide) rfl (fun c_41 => ?_) (fun c_41 => ?_)
            · have c_41 : em = 0 := (nI_eq (b := 0) (by omega) (by omega)).mp c_41
              refine mr_aload_n C 51 dX8_hire_50 rfl rfl ?_
              refine mr_iload C 53 dX8_hire_51 rfl rfl ?_
              refine mr_iload C 55 dX8_hire_53 rfl rfl ?_
              refine mr_callV C (c_layHired E a tn st ac td lt lg cu tk sr tl fa fp g1 g2 g3 tr la mn im ho fr wa tp w1 w2 w3 w4 w5 w6 ik ke tc R K G se0 sn0 be0 so0 lo0 he0 hR hK hG hl hso hrh k i (by omega)) [0, 1, 2, 3, 4, 5, 6, 7, 8, 9, 10, 11, 12, 13, 14, 15, 16] 0 8 58 dX8_hire_55 rfl mk_X8_layHired mi_X8_layHired ml_X8_258 rfl rfl rfl rfl rfl (Nat.le_of_ble_eq_true rfl) (by decide) (by decide) (by decide) rfl rfl (fun r w1 hpost => ?_)
              obtain ⟨f1, f2, f3_, rfl, rfl, hH⟩ := hpost
              refine mr_w (wput_all _ _ 17 rfl rfl) ?_
              refine mr_aload_n C 59 dX8_hire_58 rfl rfl ?_
              refine mr_iload_n C 60 dX8_hire_59 rfl rfl ?_
              refine mr_callV C (c_goBells E a tn st ac td lt lg cu tk sr tl fa fp (nI i) tr la mn im ho fr wa tp f3_ w2 f1 w4 w5 f2 ik ke tc R K k hR hK (by omega) h0 h2 hk sn0 so0 he0 (G, upd be0 k (be0 k + nI i), lN_ lo0) n (by omega) (by show G < 2 ^ 29; omega) hH) [0, 1, 2, 3, 4, 5, 6, 7, 8, 9, 10, 11, 12, 13, 14, 15, 16] 0 8 63 dX8_hire_60 rfl mk_X8_goBells mi_X8_goBells ml_X8_249 rfl rfl rfl rfl rfl (Nat.le_of_ble_eq_true rfl) (by decide) (by decide) (by decide) rfl rfl (fun r w1 hpost => ?_)
              obtain ⟨wh1, be1, q1, q2, q3, rfl, rfl, hH1⟩ := hpost
              refine mr_w (wput_all _ _ 17 rfl rfl) ?_
              refine mr_aload_n C 64 dX8_hire_63 rfl rfl ?_
              refine mr_iload_n C 65 dX8_hire_64 rfl rfl ?_
              refine mr_iload C 67 dX8_hire_65 rfl rfl ?_
              refine mr_callV C (c_isSo E a tn st ac td lt lg cu tk sr tl fa fp ((nI (rgN (nI i) k R K sn0 so0 he0 (G, upd be0 k (be0 k + nI i), lN_ lo0) n).1)) (nI k) (nI i) tr la mn im ho fr wa tp wh1 q3 f1 q1 q2 be1 ik ke tc R K sn0 so0 he0 hR hK h2 (rgN (nI i) k R K sn0 so0 he0 (G, upd be0 k (be0 k + nI i), lN_ lo0) n) hH1 r em (by omega) hem) [0, 1, 2, 3, 4, 5, 6, 7, 8, 9, 10, 11, 12, 13, 14, 15, 16] 0 8 70 dX8_hire_67 rfl mk_X8_isSo mi_X8_isSo ml_X8_261 rfl rfl rfl rfl rfl (Nat.le_of_ble_eq_true rfl) (by decide) (by decide) (by decide) rfl rfl (fun r w1 hpost => ?_)
              obtain ⟨rfl, rfl⟩ := hpost
              refine mr_w (wput_all _ _ 17 rfl rfl) ?_
              refine mr_ifeq C 85 73 dX8_hire_70 (by decide) rfl (fun c_70 => ?_) (fun c_70 => ?_)
              · rw [bP_eq] at c_70
                have c_70 : ¬ okS R K n sn0 so0 he0 G be0 (lN_ lo0) r em k i := c_70
                refine mr_iinc C (nI (k + 1)) 88 dX8_hire_85 rfl rfl (by decide) (nI_add k 1) ?_
                refine mr_goto C 13 dX8_hire_88 (by decide) ?_
                refine mr_at (ihk (by omega) _ _ _ _ _ _ _ _ _ ?_) rfl rfl rfl
                intro d hd h
                by_cases e : d = 6 * i + k
                · rw [e] at h
                  unfold hirP at h; rw [show (6 * i + k) % 6 = k by omega, show (6 * i + k) / 6 = i by omega] at h
                  exact c_70 h.2.2.2
                · exact hfk d (by omega) h
              · rw [← Ne, bP_ne] at c_70
                have c_70 : okS R K n sn0 so0 he0 G be0 (lN_ lo0) r em k i := c_70
                refine mr_iload_n C 74 dX8_hire_73 rfl rfl ?_
                refine mr_ifne C 82 77 dX8_hire_74 (by decide) rfl (fun c_74 => ?_) (fun c_74 => ?_)
                · rw [Ne, tI_eq0] at c_74
                  refine mr_iload C 84 dX8_hire_82 rfl rfl ?_
                  refine mr_iret C dX8_hire_84 rfl rfl (by decide) (by decide) hlen ?_
                  rw [hO]
                  have e9 : fstN (fun d => hirP R K n sn0 so0 he0 G be0 (lN_ lo0) r em (d)) 366 0 = 6 * i + k := fstN_hit 366 0 (6 * i + k) (by omega) (by omega) (fun j _ h => hfk j h) (by
                    show hirP R K n sn0 so0 he0 G be0 (lN_ lo0) r em (6 * i + k)
                    unfold hirP; rw [show (6 * i + k) % 6 = k by omega, show (6 * i + k) / 6 = i by omega]; exact ⟨by omega, by omega, fun h => absurd (c_41.symm.trans h.1) (by decide), c_70⟩)
                  refine ⟨_, _, _, _, _, _, _, _, _, ?_, rfl⟩
                  rw [e9]
                  exact congrArg (fun z => some (Value.int z)) (((ifP_t (by omega)).trans ((ifP_f c_74).trans (congrArg nI (by omega)))).symm)
                · rw [tI_eq0] at c_74
                  refine mr_iload C 79 dX8_hire_77 rfl rfl ?_
                  refine mr_goto C 84 dX8_hire_79 (by decide) ?_
                  refine mr_iret C dX8_hire_84 rfl rfl (by decide) (by decide) hlen ?_
                  rw [hO]
                  have e9 : fstN (fun d => hirP R K n sn0 so0 he0 G be0 (lN_ lo0) r em (d)) 366 0 = 6 * i + k := fstN_hit 366 0 (6 * i + k) (by omega) (by omega) (fun j _ h => hfk j h) (by
                    show hirP R K n sn0 so0 he0 G be0 (lN_ lo0) r em (6 * i + k)
                    unfold hirP; rw [show (6 * i + k) % 6 = k by omega, show (6 * i + k) / 6 = i by omega]; exact ⟨by omega, by omega, fun h => absurd (c_41.symm.trans h.1) (by decide), c_70⟩)
                  refine ⟨_, _, _, _, _, _, _, _, _, ?_, rfl⟩
                  rw [e9]
                  exact congrArg (fun z => some (Value.int z)) (((ifP_t (by omega)).trans ((ifP_t c_74).trans (congrArg nI (by omega)))).symm)
            · have c_41 : em = 1 := by
                have h9 : ¬ em = 0 := fun h => c_41 (by rw [h]; rfl)
                omega
              refine mr_iload C 46 dX8_hire_44 rfl rfl ?_
              refine mr_iload_n C 47 dX8_hire_46 rfl rfl ?_
              refine mr_icmpeq C 85 50 dX8_hire_47 (by decide) rfl (fun c_47 => ?_) (fun c_47 => ?_)
              · rw [nI_eq (by omega) (by omega)] at c_47
                refine mr_iinc C (nI (k + 1)) 88 dX8_hire_85 rfl rfl (by decide) (nI_add k 1) ?_
                refine mr_goto C 13 dX8_hire_88 (by decide) ?_
                refine mr_at (ihk (by omega) _ _ _ _ _ _ _ _ _ ?_) rfl rfl rfl
                intro d hd h
                by_cases e : d = 6 * i + k
                · rw [e] at h
                  unfold hirP at h; rw [show (6 * i + k) % 6 = k by omega, show (6 * i + k) / 6 = i by omega] at h
                  exact h.2.2.1 ⟨c_41, by omega, c_47⟩
                · exact hfk d (by omega) h
              · rw [nI_eq (by omega) (by omega)] at c_47
                refine mr_aload_n C 51 dX8_hire_50 rfl rfl ?_
                refine mr_iload C 53 dX8_hire_51 rfl rfl ?_
                refine mr_iload C 55 dX8_hire_53 rfl rfl ?_
                refine mr_callV C (c_layHired E a tn st ac td lt lg cu tk sr tl fa fp g1 g2 g3 tr la mn im ho fr wa tp w1 w2 w3 w4 w5 w6 ik ke tc R K G se0 sn0 be0 so0 lo0 he0 hR hK hG hl hso hrh k i (by omega)) [0, 1, 2, 3, 4, 5, 6, 7, 8, 9, 10, 11, 12, 13, 14, 15, 16] 0 8 58 dX8_hire_55 rfl mk_X8_layHired mi_X8_layHired ml_X8_258 rfl rfl rfl rfl rfl (Nat.le_of_ble_eq_true rfl) (by decide) (by decide) (by decide) rfl rfl (fun r w1 hpost => ?_)
                obtain ⟨f1, f2, f3_, rfl, rfl, hH⟩ := hpost
                refine mr_w (wput_all _ _ 17 rfl rfl) ?_
                refine mr_aload_n C 59 dX8_hire_58 rfl rfl ?_
                refine mr_iload_n C 60 dX8_hire_59 rfl rfl ?_
                refine mr_callV C (c_goBells E a tn st ac td lt lg cu tk sr tl fa fp (nI i) tr la mn im ho fr wa tp f3_ w2 f1 w4 w5 f2 ik ke tc R K k hR hK (by omega) h0 h2 hk sn0 so0 he0 (G, upd be0 k (be0 k + nI i), lN_ lo0) n (by omega) (by show G < 2 ^ 29; omega) hH) [0, 1, 2, 3, 4, 5, 6, 7, 8, 9, 10, 11, 12, 13, 14, 15, 16] 0 8 63 dX8_hire_60 rfl mk_X8_goBells mi_X8_goBells ml_X8_249 rfl rfl rfl rfl rfl (Nat.le_of_ble_eq_true rfl) (by decide) (by decide) (by decide) rfl rfl (fun r w1 hpost => ?_)
                obtain ⟨wh1, be1, q1, q2, q3, rfl, rfl, hH1⟩ := hpost
                refine mr_w (wput_all _ _ 17 rfl rfl) ?_
                refine mr_aload_n C 64 dX8_hire_63 rfl rfl ?_
                refine mr_iload_n C 65 dX8_hire_64 rfl rfl ?_
                refine mr_iload C 67 dX8_hire_65 rfl rfl ?_
                refine mr_callV C (c_isSo E a tn st ac td lt lg cu tk sr tl fa fp ((nI (rgN (nI i) k R K sn0 so0 he0 (G, upd be0 k (be0 k + nI i), lN_ lo0) n).1)) (nI k) (nI i) tr la mn im ho fr wa tp wh1 q3 f1 q1 q2 be1 ik ke tc R K sn0 so0 he0 hR hK h2 (rgN (nI i) k R K sn0 so0 he0 (G, upd be0 k (be0 k + nI i), lN_ lo0) n) hH1 r em (by omega) hem) [0, 1, 2, 3, 4, 5, 6, 7, 8, 9, 10, 11, 12, 13, 14, 15, 16] 0 8 70 dX8_hire_67 rfl mk_X8_isSo mi_X8_isSo ml_X8_261 rfl rfl rfl rfl rfl (Nat.le_of_ble_eq_true rfl) (by decide) (by decide) (by decide) rfl rfl (fun r w1 hpost => ?_)
                obtain ⟨rfl, rfl⟩ := hpost
                refine mr_w (wput_all _ _ 17 rfl rfl) ?_
                refine mr_ifeq C 85 73 dX8_hire_70 (by decide) rfl (fun c_70 => ?_) (fun c_70 => ?_)
                · rw [bP_eq] at c_70
                  have c_70 : ¬ okS R K n sn0 so0 he0 G be0 (lN_ lo0) r em k i := c_70
                  refine mr_iinc C (nI (k + 1)) 88 dX8_hire_85 rfl rfl (by decide) (nI_add k 1) ?_
                  refine mr_goto C 13 dX8_hire_88 (by decide) ?_
                  refine mr_at (ihk (by omega) _ _ _ _ _ _ _ _ _ ?_) rfl rfl rfl
                  intro d hd h
                  by_cases e : d = 6 * i + k
                  · rw [e] at h
                    unfold hirP at h; rw [show (6 * i + k) % 6 = k by omega, show (6 * i + k) / 6 = i by omega] at h
                    exact c_70 h.2.2.2
                  · exact hfk d (by omega) h
                · rw [← Ne, bP_ne] at c_70
                  have c_70 : okS R K n sn0 so0 he0 G be0 (lN_ lo0) r em k i := c_70
                  refine mr_iload_n C 74 dX8_hire_73 rfl rfl ?_
                  refine mr_ifne C 82 77 dX8_hire_74 (by decide) rfl (fun c_74 => ?_) (fun c_74 => ?_)
                  · rw [Ne, tI_eq0] at c_74
                    refine mr_iload C 84 dX8_hire_82 rfl rfl ?_
                    refine mr_iret C dX8_hire_84 rfl rfl (by decide) (by decide) hlen ?_
                    rw [hO]
                    have e9 : fstN (fun d => hirP R K n sn0 so0 he0 G be0 (lN_ lo0) r em (d)) 366 0 = 6 * i + k := fstN_hit 366 0 (6 * i + k) (by omega) (by omega) (fun j _ h => hfk j h) (by
                      show hirP R K n sn0 so0 he0 G be0 (lN_ lo0) r em (6 * i + k)
                      unfold hirP; rw [show (6 * i + k) % 6 = k by omega, show (6 * i + k) / 6 = i by omega]; exact ⟨by omega, by omega, fun h => c_47 h.2.2, c_70⟩)
                    refine ⟨_, _, _, _, _, _, _, _, _, ?_, rfl⟩
                    rw [e9]
                    exact congrArg (fun z => some (Value.int z)) (((ifP_t (by omega)).trans ((ifP_f c_74).trans (congrArg nI (by omega)))).symm)
                  · rw [tI_eq0] at c_74
                    refine mr_iload C 79 dX8_hire_77 rfl rfl ?_
                    refine mr_goto C 84 dX8_hire_79 (by decide) ?_
                    refine mr_iret C dX8_hire_84 rfl rfl (by decide) (by decide) hlen ?_
                    rw [hO]
                    have e9 : fstN (fun d => hirP R K n sn0 so0 he0 G be0 (lN_ lo0) r em (d)) 366 0 = 6 * i + k := fstN_hit 366 0 (6 * i + k) (by omega) (by omega) (fun j _ h => hfk j h) (by
                      show hirP R K n sn0 so0 he0 G be0 (lN_ lo0) r em (6 * i + k)
                      unfold hirP; rw [show (6 * i + k) % 6 = k by omega, show (6 * i + k) / 6 = i by omega]; exact ⟨by omega, by omega, fun h => c_47 h.2.2, c_70⟩)
                    refine ⟨_, _, _, _, _, _, _, _, _, ?_, rfl⟩
                    rw [e9]
                    exact congrArg (fun z => some (Value.int z)) (((ifP_t (by omega)).trans ((ifP_t c_74).trans (congrArg nI (by omega)))).symm)
  have L : ∀ i, i ≤ 61 → ∀ (w1 w2 w3 w4 w5 w6 : FN) (g1 g2 g3 : Int32), (∀ d, d < 6 * i → ¬ hirP R K n sn0 so0 he0 G be0 (lN_ lo0) r em (d)) → V E mX8_hire (6, 0, 0) Z 0 0 (wM E a tn st la mn im ho fr wa ac tp td lt lg cu tk sr tl fa fp w1 w2 w3 w4 w5 w6 g1 g2 g3 ik ke tc tr) [(0, .ref (a 0)), (1, .int (nI r)), (2, .int (nI n)), (3, .int y0), (4, .int (nI em)), (5, .int (nI i))] [] 3 := by
    refine lp_up 61 ?_
    intro i hi ih w1 w2 w3 w4 w5 w6 g1 g2 g3 hf
    refine mr_iload C 5 dX8_hire_3 rfl rfl ?_
    refine mr_bipush C (nI 60) 7 dX8_hire_5 rfl rfl ?_
    refine mr_icmpgt C 97 10 dX8_hire_7 (by decide) rfl (fun c_7 => ?_) (fun c_7 => ?_)
    · rw [nI_ltI (by omega) (by omega)] at c_7
      refine mr_ldc C 99 dX8_hire_97 rfl kc_X8_95 ?_
      refine mr_iret C dX8_hire_99 rfl rfl (by decide) (by decide) hlen ?_
      rw [hO]
      have hi61 : i = 61 := by omega
      have e9 : fstN (fun d => hirP R K n sn0 so0 he0 G be0 (lN_ lo0) r em (d)) 366 0 = 366 := fstN_miss 366 0 (fun j _ h => hf j (by omega))
      refine ⟨_, _, _, _, _, _, _, _, _, ?_, rfl⟩
      rw [e9]
      exact congrArg (fun z => some (Value.int z)) ((ifP_f (by omega)).symm)
    · rw [nI_ltI (by omega) (by omega)] at c_7
      refine mr_iconst C (nI 0) 11 dX8_hire_10 rfl rfl ?_
      refine mr_istore C 13 dX8_hire_11 rfl (by decide) ?_
      refine mr_at (IN i (by omega) (fun w1 w2 w3 w4 w5 w6 g1 g2 g3 hf2 => ?_) 0 (Nat.zero_le _) _ _ _ _ _ _ _ _ _ (fun d hd => hf d (by omega))) rfl rfl rfl
      refine mr_iinc C (nI (i + 1)) 94 dX8_hire_91 rfl rfl (by decide) (nI_add i 1) ?_
      refine mr_goto C 3 dX8_hire_94 (by decide) ?_
      exact mr_at (ih (by omega) _ _ _ _ _ _ _ _ _ hf2) rfl rfl rfl
  refine mr_iconst C (nI 0) 1 dX8_hire_0 rfl rfl ?_
  refine mr_istore C 3 dX8_hire_1 rfl (by decide) ?_
  exact mr_at (L 0 (Nat.zero_le _) _ _ _ _ _ _ _ _ _ (fun d h => absurd h (by omega))) rfl rfl rfl

set_option maxRecDepth 20000 in
set_option maxHeartbeats 4000000 in
theorem c_m_hired (E : EG) (a : Nat → Nat) (tn st ac td lt lg cu tk sr tl fa fp gn gi gm tr : Int32) (la mn im ho fr wa tp wh go se no al be ik ke tc : FN) (R K G : Nat) (se0 sn0 be0 so0 lo0 he0 : FN) (hR : R ≤ 6) (hK : K ≤ 5) (hG : G ≤ 9999) (hl : ∀ c, c < K → lo0 c = nI (lN_ lo0 c) ∧ lN_ lo0 c < R) (hso : ∀ c, c < K → ∃ k, 1 ≤ k ∧ k ≤ 5 ∧ so0 c = nI k) (hrh : RH ho R K G se0 sn0 be0 so0 lo0 he0) (r0 n0 y0 : Int32)  : Ctr E mX8_hired (7, 0, 0) [.ref (a 0), .int r0, .int n0, .int y0] (wM E a tn st la mn im ho fr wa ac tp td lt lg cu tk sr tl fa fp wh go se no al be gn gi gm ik ke tc tr) (fun v w => ∃ (wh' go' se' no' al' be' : FN) (gn' gi' gm' : Int32), v = some (.int (hireV r0 n0 y0 0 R K sn0 so0 he0 (G, be0, lN_ lo0))) ∧ w = wM E a ((nI 0)) st la mn im ho fr wa ac tp td lt lg cu tk sr tl fa fp (wh') (go') (se') (no') (al') (be') (gn') (gi') (gm') ik ke tc tr) := by
  refine Ctr.of (by decide) (Nat.le_of_ble_eq_true rfl) ?_
  intro Z hO hn C
  have hlen : zn Z ≤ 17 := by rw [hn]; exact Nat.le_of_ble_eq_true rfl
  have h0 := hrh.1
  have h2 := hrh.2.1
  have h3 := hrh.2.2.1
  have hk : ∀ c, c < K → ∃ k, 1 ≤ k ∧ k ≤ 5 ∧ hoS ho c = nI k := fun c hc => by
    obtain ⟨k, e1, e2, e3⟩ := hso c hc
    exact ⟨k, e1, e2, (hrh.2.2.2.2.2 c hc).1.trans e3⟩
  refine mr_aload_n C 1 dX8_hired_0 rfl rfl ?_
  refine mr_iconst C (nI 0) 2 dX8_hired_1 rfl rfl ?_
  refine mr_put C 0 5 dX8_hired_2 rfl fs_X8_59 rfl rfl rfl (Nat.le_of_ble_eq_true rfl) ?_
  refine mr_w (ws' := wM E a ((nI 0)) st la mn im ho fr wa ac tp td lt lg cu tk sr tl fa fp wh go se no al be gn gi gm ik ke tc tr) rfl ?_
  refine mr_aload_n C 6 dX8_hired_5 rfl rfl ?_
  refine mr_iload_n C 7 dX8_hired_6 rfl rfl ?_
  refine mr_callV C (c_m_isRoom E a ((nI 0)) st ac td lt lg cu tk sr tl fa fp gn gi gm tr la mn im ho fr wa tp wh go se no al be ik ke tc R hR h0 r0) [0, 1, 2, 3, 4, 5, 6, 7, 8, 9, 10, 11, 12, 13, 14, 15, 16] 0 8 10 dX8_hired_7 rfl mk_X8_isRoom mi_X8_isRoom ml_X8_239 rfl rfl rfl rfl rfl (Nat.le_of_ble_eq_true rfl) (by decide) (by decide) (by decide) rfl rfl (fun r w1 hpost => ?_)
  obtain ⟨rfl, rfl⟩ := hpost
  refine mr_w (wput_all _ _ 17 rfl rfl) ?_
  refine mr_ifeq C 46 13 dX8_hired_10 (by decide) rfl (fun c_10 => ?_) (fun c_10 => ?_)
  · rw [bI_eq] at c_10
    refine mr_ldc C 48 dX8_hired_46 rfl kc_X8_79 ?_
    refine mr_iret C dX8_hired_48 rfl rfl (by decide) (by decide) hlen ?_
    rw [hO]
    exact ⟨_, _, _, _, _, _, _, _, _, congrArg (fun z => some (Value.int z)) ((ifP_f (by omega)).symm), rfl⟩
  · rw [← Ne, bI_ne] at c_10
    refine mr_iload_n C 14 dX8_hired_13 rfl rfl ?_
    refine mr_i2l C _ 15 dX8_hired_14 rfl rfl ?_
    refine mr_lconst C 1 16 dX8_hired_15 rfl rfl ?_
    refine mr_ldc2 C 19 dX8_hired_16 rfl kc_X8_265 ?_
    refine mr_callS C (c_inK E n0 (1) (20) _ _ rfl rfl) [] 22 dX8_hired_19 rfl mk_X8_in ms_X8_in ml_X8_69 rfl rfl rfl rfl (Nat.le_of_ble_eq_true rfl) (by decide) (by decide) (by decide) (fun r w1 hpost => ?_)
    obtain ⟨rfl, rfl⟩ := hpost
    refine mr_w (ws' := wM E a ((nI 0)) st la mn im ho fr wa ac tp td lt lg cu tk sr tl fa fp wh go se no al be gn gi gm ik ke tc tr) rfl ?_
    refine mr_ifeq C 46 25 dX8_hired_22 (by decide) rfl (fun c_22 => ?_) (fun c_22 => ?_)
    · rw [bI_eq] at c_22
      refine mr_ldc C 48 dX8_hired_46 rfl kc_X8_79 ?_
      refine mr_iret C dX8_hired_48 rfl rfl (by decide) (by decide) hlen ?_
      rw [hO]
      exact ⟨_, _, _, _, _, _, _, _, _, congrArg (fun z => some (Value.int z)) ((ifP_f (by omega)).symm), rfl⟩
    · rw [← Ne, bI_ne] at c_22
      refine mr_iload_n C 26 dX8_hired_25 rfl rfl ?_
      refine mr_i2l C _ 27 dX8_hired_26 rfl rfl ?_
      refine mr_lconst C 0 28 dX8_hired_27 rfl rfl ?_
      refine mr_lconst C 1 29 dX8_hired_28 rfl rfl ?_
      refine mr_callS C (c_inK E y0 (0) (1) _ _ rfl rfl) [] 32 dX8_hired_29 rfl mk_X8_in ms_X8_in ml_X8_69 rfl rfl rfl rfl (Nat.le_of_ble_eq_true rfl) (by decide) (by decide) (by decide) (fun r w1 hpost => ?_)
      obtain ⟨rfl, rfl⟩ := hpost
      refine mr_w (ws' := wM E a ((nI 0)) st la mn im ho fr wa ac tp td lt lg cu tk sr tl fa fp wh go se no al be gn gi gm ik ke tc tr) rfl ?_
      refine mr_ifeq C 46 35 dX8_hired_32 (by decide) rfl (fun c_32 => ?_) (fun c_32 => ?_)
      · rw [bI_eq] at c_32
        refine mr_ldc C 48 dX8_hired_46 rfl kc_X8_79 ?_
        refine mr_iret C dX8_hired_48 rfl rfl (by decide) (by decide) hlen ?_
        rw [hO]
        exact ⟨_, _, _, _, _, _, _, _, _, congrArg (fun z => some (Value.int z)) ((ifP_f (by omega)).symm), rfl⟩
      · rw [← Ne, bI_ne] at c_32
        obtain ⟨r, hr, rfl⟩ := tI_of (x := r0) (n := R) (by omega) (by omega)
        have er : (nI r).toInt = (r : Int) := tI_n (by omega)
        have ir_ : iN (nI r) = r := iN_n (by omega)
        obtain ⟨n, hn, rfl⟩ := tI_of (x := n0) (n := 21) (by omega) (by omega)
        have en : (nI n).toInt = (n : Int) := tI_n (by omega)
        have in_ : iN (nI n) = n := iN_n (by omega)
        refine mr_aload_n C 36 dX8_hired_35 rfl rfl ?_
        refine mr_iload_n C 37 dX8_hired_36 rfl rfl ?_
        refine mr_iload_n C 38 dX8_hired_37 rfl rfl ?_
        refine mr_iload_n C 39 dX8_hired_38 rfl rfl ?_
        refine mr_iconst C (nI 0) 40 dX8_hired_39 rfl rfl ?_
        refine mr_callV C (c_hire_m E a ((nI 0)) st ac td lt lg cu tk sr tl fa fp gn gi gm tr la mn im ho fr wa tp wh go se no al be ik ke tc R K G se0 sn0 be0 so0 lo0 he0 hR hK hG hl hso hrh r n y0 0 hr (by omega) (by decide)) [0, 1, 2, 3, 4, 5, 6, 7, 8, 9, 10, 11, 12, 13, 14, 15, 16] 0 8 43 dX8_hired_40 rfl mk_X8_hire mi_X8_hire ml_X8_267 rfl rfl rfl rfl rfl (Nat.le_of_ble_eq_true rfl) (by decide) (by decide) (by decide) rfl rfl (fun r w1 hpost => ?_)
        obtain ⟨w1, w2, w3, w4, w5, w6, g1, g2, g3, rfl, rfl⟩ := hpost
        refine mr_w (wput_all _ _ 17 rfl rfl) ?_
        refine mr_goto C 48 dX8_hired_43 (by decide) ?_
        refine mr_iret C dX8_hired_48 rfl rfl (by decide) (by decide) hlen ?_
        rw [hO]
        exact ⟨_, _, _, _, _, _, _, _, _, congrArg (fun z => some (Value.int z)) (((ifP_t (by omega)).trans (by rw [ir_, in_]; rfl)).symm), rfl⟩

set_option maxRecDepth 20000 in
set_option maxHeartbeats 4000000 in
theorem c_m_empty (E : EG) (a : Nat → Nat) (tn st ac td lt lg cu tk sr tl fa fp gn gi gm tr : Int32) (la mn im ho fr wa tp wh go se no al be ik ke tc : FN) (R K G : Nat) (se0 sn0 be0 so0 lo0 he0 : FN) (hR : R ≤ 6) (hK : K ≤ 5) (hG : G ≤ 9999) (hl : ∀ c, c < K → lo0 c = nI (lN_ lo0 c) ∧ lN_ lo0 c < R) (hso : ∀ c, c < K → ∃ k, 1 ≤ k ∧ k ≤ 5 ∧ so0 c = nI k) (hrh : RH ho R K G se0 sn0 be0 so0 lo0 he0) (r0 n0 y0 : Int32)  : Ctr E mX8_empty (7, 0, 0) [.ref (a 0), .int r0, .int n0, .int y0] (wM E a tn st la mn im ho fr wa ac tp td lt lg cu tk sr tl fa fp wh go se no al be gn gi gm ik ke tc tr) (fun v w => ∃ (wh' go' se' no' al' be' : FN) (gn' gi' gm' : Int32), v = some (.int (hireV r0 n0 y0 1 R K sn0 so0 he0 (G, be0, lN_ lo0))) ∧ w = wM E a ((nI 0)) st la mn im ho fr wa ac tp td lt lg cu tk sr tl fa fp (wh') (go') (se') (no') (al') (be') (gn') (gi') (gm') ik ke tc tr) := by
  refine Ctr.of (by decide) (Nat.le_of_ble_eq_true rfl) ?_
  intro Z hO hn C
  have hlen : zn Z ≤ 17 := by rw [hn]; exact Nat.le_of_ble_eq_true rfl
  have h0 := hrh.1
  have h2 := hrh.2.1
  have h3 := hrh.2.2.1
  have hk : ∀ c, c < K → ∃ k, 1 ≤ k ∧ k ≤ 5 ∧ hoS ho c = nI k := fun c hc => by
    obtain ⟨k, e1, e2, e3⟩ := hso c hc
    exact ⟨k, e1, e2, (hrh.2.2.2.2.2 c hc).1.trans e3⟩
  refine mr_aload_n C 1 dX8_empty_0 rfl rfl ?_
  refine mr_iconst C (nI 0) 2 dX8_empty_1 rfl rfl ?_
  refine mr_put C 0 5 dX8_empty_2 rfl fs_X8_59 rfl rfl rfl (Nat.le_of_ble_eq_true rfl) ?_
  refine mr_w (ws' := wM E a ((nI 0)) st la mn im ho fr wa ac tp td lt lg cu tk sr tl fa fp wh go se no al be gn gi gm ik ke tc tr) rfl ?_
  refine mr_aload_n C 6 dX8_empty_5 rfl rfl ?_
  refine mr_iload_n C 7 dX8_empty_6 rfl rfl ?_
  refine mr_callV C (c_m_isRoom E a ((nI 0)) st ac td lt lg cu tk sr tl fa fp gn gi gm tr la mn im ho fr wa tp wh go se no al be ik ke tc R hR h0 r0) [0, 1, 2, 3, 4, 5, 6, 7, 8, 9, 10, 11, 12, 13, 14, 15, 16] 0 8 10 dX8_empty_7 rfl mk_X8_isRoom mi_X8_isRoom ml_X8_239 rfl rfl rfl rfl rfl (Nat.le_of_ble_eq_true rfl) (by decide) (by decide) (by decide) rfl rfl (fun r w1 hpost => ?_)
  obtain ⟨rfl, rfl⟩ := hpost
  refine mr_w (wput_all _ _ 17 rfl rfl) ?_
  refine mr_ifeq C 46 13 dX8_empty_10 (by decide) rfl (fun c_10 => ?_) (fun c_10 => ?_)
  · rw [bI_eq] at c_10
    refine mr_ldc C 48 dX8_empty_46 rfl kc_X8_79 ?_
    refine mr_iret C dX8_empty_48 rfl rfl (by decide) (by decide) hlen ?_
    rw [hO]
    exact ⟨_, _, _, _, _, _, _, _, _, congrArg (fun z => some (Value.int z)) ((ifP_f (by omega)).symm), rfl⟩
  · rw [← Ne, bI_ne] at c_10
    refine mr_iload_n C 14 dX8_empty_13 rfl rfl ?_
    refine mr_i2l C _ 15 dX8_empty_14 rfl rfl ?_
    refine mr_lconst C 1 16 dX8_empty_15 rfl rfl ?_
    refine mr_ldc2 C 19 dX8_empty_16 rfl kc_X8_265 ?_
    refine mr_callS C (c_inK E n0 (1) (20) _ _ rfl rfl) [] 22 dX8_empty_19 rfl mk_X8_in ms_X8_in ml_X8_69 rfl rfl rfl rfl (Nat.le_of_ble_eq_true rfl) (by decide) (by decide) (by decide) (fun r w1 hpost => ?_)
    obtain ⟨rfl, rfl⟩ := hpost
    refine mr_w (ws' := wM E a ((nI 0)) st la mn im ho fr wa ac tp td lt lg cu tk sr tl fa fp wh go se no al be gn gi gm ik ke tc tr) rfl ?_
    refine mr_ifeq C 46 25 dX8_empty_22 (by decide) rfl (fun c_22 => ?_) (fun c_22 => ?_)
    · rw [bI_eq] at c_22
      refine mr_ldc C 48 dX8_empty_46 rfl kc_X8_79 ?_
      refine mr_iret C dX8_empty_48 rfl rfl (by decide) (by decide) hlen ?_
      rw [hO]
      exact ⟨_, _, _, _, _, _, _, _, _, congrArg (fun z => some (Value.int z)) ((ifP_f (by omega)).symm), rfl⟩
    · rw [← Ne, bI_ne] at c_22
      refine mr_iload_n C 26 dX8_empty_25 rfl rfl ?_
      refine mr_i2l C _ 27 dX8_empty_26 rfl rfl ?_
      refine mr_lconst C 0 28 dX8_empty_27 rfl rfl ?_
      refine mr_lconst C 1 29 dX8_empty_28 rfl rfl ?_
      refine mr_callS C (c_inK E y0 (0) (1) _ _ rfl rfl) [] 32 dX8_empty_29 rfl mk_X8_in ms_X8_in ml_X8_69 rfl rfl rfl rfl (Nat.le_of_ble_eq_true rfl) (by decide) (by decide) (by decide) (fun r w1 hpost => ?_)
      obtain ⟨rfl, rfl⟩ := hpost
      refine mr_w (ws' := wM E a ((nI 0)) st la mn im ho fr wa ac tp td lt lg cu tk sr tl fa fp wh go se no al be gn gi gm ik ke tc tr) rfl ?_
      refine mr_ifeq C 46 35 dX8_empty_32 (by decide) rfl (fun c_32 => ?_) (fun c_32 => ?_)
      · rw [bI_eq] at c_32
        refine mr_ldc C 48 dX8_empty_46 rfl kc_X8_79 ?_
        refine mr_iret C dX8_empty_48 rfl rfl (by decide) (by decide) hlen ?_
        rw [hO]
        exact ⟨_, _, _, _, _, _, _, _, _, congrArg (fun z => some (Value.int z)) ((ifP_f (by omega)).symm), rfl⟩
      · rw [← Ne, bI_ne] at c_32
        obtain ⟨r, hr, rfl⟩ := tI_of (x := r0) (n := R) (by omega) (by omega)
        have er : (nI r).toInt = (r : Int) := tI_n (by omega)
        have ir_ : iN (nI r) = r := iN_n (by omega)
        obtain ⟨n, hn, rfl⟩ := tI_of (x := n0) (n := 21) (by omega) (by omega)
        have en : (nI n).toInt = (n : Int) := tI_n (by omega)
        have in_ : iN (nI n) = n := iN_n (by omega)
        refine mr_aload_n C 36 dX8_empty_35 rfl rfl ?_
        refine mr_iload_n C 37 dX8_empty_36 rfl rfl ?_
        refine mr_iload_n C 38 dX8_empty_37 rfl rfl ?_
        refine mr_iload_n C 39 dX8_empty_38 rfl rfl ?_
        refine mr_iconst C (nI 1) 40 dX8_empty_39 rfl rfl ?_
        refine mr_callV C (c_hire_m E a ((nI 0)) st ac td lt lg cu tk sr tl fa fp gn gi gm tr la mn im ho fr wa tp wh go se no al be ik ke tc R K G se0 sn0 be0 so0 lo0 he0 hR hK hG hl hso hrh r n y0 1 hr (by omega) (by decide)) [0, 1, 2, 3, 4, 5, 6, 7, 8, 9, 10, 11, 12, 13, 14, 15, 16] 0 8 43 dX8_empty_40 rfl mk_X8_hire mi_X8_hire ml_X8_267 rfl rfl rfl rfl rfl (Nat.le_of_ble_eq_true rfl) (by decide) (by decide) (by decide) rfl rfl (fun r w1 hpost => ?_)
        obtain ⟨w1, w2, w3, w4, w5, w6, g1, g2, g3, rfl, rfl⟩ := hpost
        refine mr_w (wput_all _ _ 17 rfl rfl) ?_
        refine mr_goto C 48 dX8_empty_43 (by decide) ?_
        refine mr_iret C dX8_empty_48 rfl rfl (by decide) (by decide) hlen ?_
        rw [hO]
        exact ⟨_, _, _, _, _, _, _, _, _, congrArg (fun z => some (Value.int z)) (((ifP_t (by omega)).trans (by rw [ir_, in_]; rfl)).symm), rfl⟩

set_option maxRecDepth 20000 in
set_option maxHeartbeats 4000000 in
theorem c_areApart (E : EG) (a : Nat → Nat) (tn st ac td lt lg cu tk sr tl fa fp gn gi gm tr : Int32) (la mn im ho fr wa tp wh go se no al be ik ke tc : FN) (R K G : Nat) (se0 sn0 be0 so0 lo0 he0 : FN) (hR : R ≤ 6) (hK : K ≤ 5) (hG : G ≤ 9999) (hl : ∀ c, c < K → lo0 c = nI (lN_ lo0 c) ∧ lN_ lo0 c < R) (hso : ∀ c, c < K → ∃ k, 1 ≤ k ∧ k ≤ 5 ∧ so0 c = nI k) (hrh : RH ho R K G se0 sn0 be0 so0 lo0 he0) (ca cb n : Nat) (hca : ca < K) (hcb : cb < K) (hn60 : n ≤ 60) : Ctr E mX8_areApart (5, 0, 0) [.ref (a 0), .int (nI ca), .int (nI cb), .int (nI n), .int (-1000000)] (wM E a tn st la mn im ho fr wa ac tp td lt lg cu tk sr tl fa fp wh go se no al be gn gi gm ik ke tc tr) (fun v w => ∃ (wh' go' se' no' al' be' : FN) (gn' gi' gm' : Int32), v = some (.int (bP (¬ mtS R K n sn0 so0 he0 G be0 (lN_ lo0) ca cb))) ∧ w = wM E a tn st la mn im ho fr wa ac tp td lt lg cu tk sr tl fa fp (wh') (go') (se') (no') (al') (be') (gn') (gi') (gm') ik ke tc tr) := by
  refine Ctr.of (by decide) (Nat.le_of_ble_eq_true rfl) ?_
  intro Z hO hn C
  have hlen : zn Z ≤ 17 := by rw [hn]; exact Nat.le_of_ble_eq_true rfl
  have h0 := hrh.1
  have h2 := hrh.2.1
  have h3 := hrh.2.2.1
  have hk : ∀ c, c < K → ∃ k, 1 ≤ k ∧ k ≤ 5 ∧ hoS ho c = nI k := fun c hc => by
    obtain ⟨k, e1, e2, e3⟩ := hso c hc
    exact ⟨k, e1, e2, (hrh.2.2.2.2.2 c hc).1.trans e3⟩
  refine mr_aload_n C 1 dX8_areApart_0 rfl rfl ?_
  refine mr_callV C (c_layNow E a tn st ac td lt lg cu tk sr tl fa fp gn gi gm tr la mn im ho fr wa tp wh go se no al be ik ke tc R K G hR hK h0 h2 h3) [0, 1, 2, 3, 4, 5, 6, 7, 8, 9, 10, 11, 12, 13, 14, 15, 16] 0 8 4 dX8_areApart_1 rfl mk_X8_layNow mi_X8_layNow ml_X8_219 rfl rfl rfl rfl rfl (Nat.le_of_ble_eq_true rfl) (by decide) (by decide) (by decide) rfl rfl (fun r w1 hpost => ?_)
  obtain ⟨f1, f2, f3_, rfl, rfl, hf1, hf2⟩ := hpost
  have hH : HM R K sn0 so0 he0 (G, be0, lN_ lo0) ho f1 f2 f3_ := hrh.lay hl hf1 hf2
  refine mr_w (wput_all _ _ 17 rfl rfl) ?_
  refine mr_iload C 6 dX8_areApart_4 rfl rfl ?_
  refine mr_ldc C 8 dX8_areApart_6 rfl kc_X8_95 ?_
  refine mr_icmpeq C 55 11 dX8_areApart_8 (by decide) rfl (fun c_8 => ?_) (fun c_8 => ?_)
  · refine mr_iconst C (nI 1) 56 dX8_areApart_55 rfl rfl ?_
    refine mr_istore C 58 dX8_areApart_56 rfl (by decide) ?_
    refine mr_iconst C (nI 0) 59 dX8_areApart_58 rfl rfl ?_
    refine mr_istore C 61 dX8_areApart_59 rfl (by decide) ?_
    have L : ∀ i, i ≤ n → ∀ wh1 be1 q1 q2 q3 : FN, HM R K sn0 so0 he0 (rgN (nI 0) 0 R K sn0 so0 he0 (G, be0, lN_ lo0) i) ho f1 be1 wh1 → V E mX8_areApart (5, 0, 0) Z 0 0 (wM E a tn st la mn im ho fr wa ac tp td lt lg cu tk sr tl fa fp wh1 q3 f1 q1 q2 be1 ((nI (rgN (nI 0) 0 R K sn0 so0 he0 (G, be0, lN_ lo0) i).1)) ((nI 0)) ((nI 0)) ik ke tc tr) [(0, .ref (a 0)), (1, .int (nI ca)), (2, .int (nI cb)), (3, .int (nI n)), (4, .int (-1000000)), (5, .int (bP (∀ j, j < i → ¬ (rgN (nI 0) 0 R K sn0 so0 he0 (G, be0, lN_ lo0) (j + 1)).2.2 ca = (rgN (nI 0) 0 R K sn0 so0 he0 (G, be0, lN_ lo0) (j + 1)).2.2 cb))), (6, .int (nI i))] [] 61 := by
      refine lp_up n ?_
      intro i hi ih wh1 be1 q1 q2 q3 hH1
      refine mr_iload C 63 dX8_areApart_61 rfl rfl ?_
      refine mr_iload_n C 64 dX8_areApart_63 rfl rfl ?_
      refine mr_icmpge C 106 67 dX8_areApart_64 (by decide) rfl (fun c_64 => ?_) (fun c_64 => ?_)
      · rw [nI_leI (by omega) (by omega)] at c_64
        refine mr_iload C 108 dX8_areApart_106 rfl rfl ?_
        refine mr_iret C dX8_areApart_108 rfl bP_nar (by decide) (by decide) hlen ?_
        rw [hO]
        have hin9 : i = n := by omega
        have e : bP (∀ j, j < i → ¬ (rgN (nI 0) 0 R K sn0 so0 he0 (G, be0, lN_ lo0) (j + 1)).2.2 ca = (rgN (nI 0) 0 R K sn0 so0 he0 (G, be0, lN_ lo0) (j + 1)).2.2 cb) = bP (¬ mtS R K n sn0 so0 he0 G be0 (lN_ lo0) ca cb) := by
          rw [hin9]; exact congrArg bP (propext ⟨fun h1 h2 => by obtain ⟨j, h3, h4⟩ := h2; exact h1 j h3 h4, fun h1 j h3 h4 => h1 ⟨j, h3, h4⟩⟩)
        rw [e]
        exact ⟨_, _, _, _, _, _, _, _, _, rfl, rfl⟩
      · rw [nI_leI (by omega) (by omega)] at c_64
        refine mr_iload C 69 dX8_areApart_67 rfl rfl ?_
        refine mr_ifeq C 106 72 dX8_areApart_69 (by decide) rfl (fun c_69 => ?_) (fun c_69 => ?_)
        · rw [bP_eq] at c_69
          refine mr_iload C 108 dX8_areApart_106 rfl rfl ?_
          refine mr_iret C dX8_areApart_108 rfl bP_nar (by decide) (by decide) hlen ?_
          rw [hO]
          have e : bP (∀ j, j < i → ¬ (rgN (nI 0) 0 R K sn0 so0 he0 (G, be0, lN_ lo0) (j + 1)).2.2 ca = (rgN (nI 0) 0 R K sn0 so0 he0 (G, be0, lN_ lo0) (j + 1)).2.2 cb) = bP (¬ mtS R K n sn0 so0 he0 G be0 (lN_ lo0) ca cb) := by
            rw [← bP_f c_69, ← bP_f (p := ¬ mtS R K n sn0 so0 he0 G be0 (lN_ lo0) ca cb) (fun h1 => c_69 (fun j h3 h4 => h1 ⟨j, by omega, h4⟩))]
          rw [e]
          exact ⟨_, _, _, _, _, _, _, _, _, rfl, rfl⟩
        · rw [← Ne, bP_ne] at c_69
          refine mr_aload_n C 73 dX8_areApart_72 rfl rfl ?_
          refine mr_callV C (c_goBellH E a tn st ac td lt lg cu tk sr tl fa fp (nI 0) tr la mn im ho fr wa tp wh1 q3 f1 q1 q2 be1 ik ke tc R K 0 hR hK (by decide) h0 h2 hk sn0 so0 he0 (rgN (nI 0) 0 R K sn0 so0 he0 (G, be0, lN_ lo0) i) (by rw [rgN_G]; show G + i < _; omega) hH1) [0, 1, 2, 3, 4, 5, 6, 7, 8, 9, 10, 11, 12, 13, 14, 15, 16] 0 8 76 dX8_areApart_73 rfl mk_X8_goBell mi_X8_goBell ml_X8_213 rfl rfl rfl rfl rfl (Nat.le_of_ble_eq_true rfl) (by decide) (by decide) (by decide) rfl rfl (fun r w1 hpost => ?_)
          obtain ⟨wh2, be2, k1, k2, k3, rfl, rfl, hH2⟩ := hpost
          refine mr_w (wput_all _ _ 17 rfl rfl) ?_
          have hH2 : HM R K sn0 so0 he0 (rgN (nI 0) 0 R K sn0 so0 he0 (G, be0, lN_ lo0) (i + 1)) ho f1 be2 wh2 := hH2
          refine mr_istore C 78 dX8_areApart_76 rfl (by decide) ?_
          refine mr_aload_n C 79 dX8_areApart_78 rfl rfl ?_
          refine mr_get C 0 82 dX8_areApart_79 rfl fl_X8_31 rfl rfl ?_
          refine mr_iload_n C 83 dX8_areApart_82 rfl rfl ?_
          refine mr_iald C 8 ca 84 dX8_areApart_83 rfl rfl rfl (by omega) (by decide) ?_
          refine mr_aload_n C 85 dX8_areApart_84 rfl rfl ?_
          refine mr_get C 0 88 dX8_areApart_85 rfl fl_X8_31 rfl rfl ?_
          refine mr_iload_n C 89 dX8_areApart_88 rfl rfl ?_
          refine mr_iald C 8 cb 90 dX8_areApart_89 rfl rfl rfl (by omega) (by decide) ?_
          refine mr_icmpeq C 97 93 dX8_areApart_90 (by decide) rfl (fun c_90 => ?_) (fun c_90 => ?_)
          · rw [(hH2.2.2 ca hca).2.2.1, (hH2.2.2 cb hcb).2.2.1, nI_eq (by have := (hH2.2.2 ca hca).2.2.2; omega) (by have := (hH2.2.2 cb hcb).2.2.2; omega)] at c_90
            refine mr_iconst C (nI 0) 98 dX8_areApart_97 rfl rfl ?_
            refine mr_istore C 100 dX8_areApart_98 rfl (by decide) ?_
            refine mr_iinc C (nI (i + 1)) 103 dX8_areApart_100 rfl rfl (by decide) (nI_add i 1) ?_
            refine mr_goto C 61 dX8_areApart_103 (by decide) ?_
            have e : nI 0 = bP (∀ j, j < (i + 1) → ¬ (rgN (nI 0) 0 R K sn0 so0 he0 (G, be0, lN_ lo0) (j + 1)).2.2 ca = (rgN (nI 0) 0 R K sn0 so0 he0 (G, be0, lN_ lo0) (j + 1)).2.2 cb) := bP_f (fun h => h i (by omega) c_90)
            have ih2 := ih (by omega) wh2 be2 k1 k2 k3 hH2
            rw [← e] at ih2
            exact mr_at ih2 rfl rfl rfl
          · rw [(hH2.2.2 ca hca).2.2.1, (hH2.2.2 cb hcb).2.2.1, nI_eq (by have := (hH2.2.2 ca hca).2.2.2; omega) (by have := (hH2.2.2 cb hcb).2.2.2; omega)] at c_90
            refine mr_iconst C (nI 1) 94 dX8_areApart_93 rfl rfl ?_
            refine mr_goto C 98 dX8_areApart_94 (by decide) ?_
            refine mr_istore C 100 dX8_areApart_98 rfl (by decide) ?_
            refine mr_iinc C (nI (i + 1)) 103 dX8_areApart_100 rfl rfl (by decide) (nI_add i 1) ?_
            refine mr_goto C 61 dX8_areApart_103 (by decide) ?_
            have e : nI 1 = bP (∀ j, j < (i + 1) → ¬ (rgN (nI 0) 0 R K sn0 so0 he0 (G, be0, lN_ lo0) (j + 1)).2.2 ca = (rgN (nI 0) 0 R K sn0 so0 he0 (G, be0, lN_ lo0) (j + 1)).2.2 cb) := bP_t (fun j hj => by by_cases e : j = i; exact e ▸ c_90; exact c_69 j (by omega))
            have ih2 := ih (by omega) wh2 be2 k1 k2 k3 hH2
            rw [← e] at ih2
            exact mr_at ih2 rfl rfl rfl
    have i0 := L 0 (Nat.zero_le _) f3_ f2 no al go hH
    rw [← bP_t (p := ∀ j, j < 0 → ¬ (rgN (nI 0) 0 R K sn0 so0 he0 (G, be0, lN_ lo0) (j + 1)).2.2 ca = (rgN (nI 0) 0 R K sn0 so0 he0 (G, be0, lN_ lo0) (j + 1)).2.2 cb) (fun j h => absurd h (Nat.not_lt_zero j))] at i0
    exact mr_at i0 rfl rfl rfl
  · exact absurd rfl c_8

set_option maxRecDepth 20000 in
set_option maxHeartbeats 4000000 in
theorem c_areApartD (E : EG) (a : Nat → Nat) (tn st ac td lt lg cu tk sr tl fa fp gn gi gm tr : Int32) (la mn im ho fr wa tp wh go se no al be ik ke tc : FN) (R K G : Nat) (se0 sn0 be0 so0 lo0 he0 : FN) (hR : R ≤ 6) (hK : K ≤ 5) (hG : G ≤ 9999) (hl : ∀ c, c < K → lo0 c = nI (lN_ lo0 c) ∧ lN_ lo0 c < R) (hso : ∀ c, c < K → ∃ k, 1 ≤ k ∧ k ≤ 5 ∧ so0 c = nI k) (hrh : RH ho R K G se0 sn0 be0 so0 lo0 he0) (ca cb n : Nat) (hca : ca < K) (hcb : cb < K) (hn60 : n ≤ 60) (d : Nat) (hd6 : d / 6 < R) (hd7 : d % 6 < R) (hd8 : d < 36) : Ctr E mX8_areApart (5, 0, 0) [.ref (a 0), .int (nI ca), .int (nI cb), .int (nI n), .int (nI d)] (wM E a tn st la mn im ho fr wa ac tp td lt lg cu tk sr tl fa fp wh go se no al be gn gi gm ik ke tc tr) (fun v w => ∃ (wh' go' se' no' al' be' : FN) (gn' gi' gm' : Int32), v = some (.int (bP (¬ mtS R K n (drS sn0 (d / 6) (d % 6) (nI 0)) so0 he0 G be0 (lN_ lo0) ca cb))) ∧ w = wM E a tn st la mn im ho fr wa ac tp td lt lg cu tk sr tl fa fp (wh') (go') (se') (no') (al') (be') (gn') (gi') (gm') ik ke tc tr) := by
  refine Ctr.of (by decide) (Nat.le_of_ble_eq_true rfl) ?_
  intro Z hO hn C
  have hlen : zn Z ≤ 17 := by rw [hn]; exact Nat.le_of_ble_eq_true rfl
  have h0 := hrh.1
  have h2 := hrh.2.1
  have h3 := hrh.2.2.1
  have hk : ∀ c, c < K → ∃ k, 1 ≤ k ∧ k ≤ 5 ∧ hoS ho c = nI k := fun c hc => by
    obtain ⟨k, e1, e2, e3⟩ := hso c hc
    exact ⟨k, e1, e2, (hrh.2.2.2.2.2 c hc).1.trans e3⟩
  refine mr_aload_n C 1 dX8_areApart_0 rfl rfl ?_
  refine mr_callV C (c_layNow E a tn st ac td lt lg cu tk sr tl fa fp gn gi gm tr la mn im ho fr wa tp wh go se no al be ik ke tc R K G hR hK h0 h2 h3) [0, 1, 2, 3, 4, 5, 6, 7, 8, 9, 10, 11, 12, 13, 14, 15, 16] 0 8 4 dX8_areApart_1 rfl mk_X8_layNow mi_X8_layNow ml_X8_219 rfl rfl rfl rfl rfl (Nat.le_of_ble_eq_true rfl) (by decide) (by decide) (by decide) rfl rfl (fun r w1 hpost => ?_)
  obtain ⟨f1, f2, f3_, rfl, rfl, hf1, hf2⟩ := hpost
  have hH : HM R K sn0 so0 he0 (G, be0, lN_ lo0) ho f1 f2 f3_ := hrh.lay hl hf1 hf2
  refine mr_w (wput_all _ _ 17 rfl rfl) ?_
  refine mr_iload C 6 dX8_areApart_4 rfl rfl ?_
  refine mr_ldc C 8 dX8_areApart_6 rfl kc_X8_95 ?_
  refine mr_icmpeq C 55 11 dX8_areApart_8 (by decide) rfl (fun c_8 => ?_) (fun c_8 => ?_)
  · exact absurd c_8 (nd36 (by omega))
  · refine mr_aload_n C 12 dX8_areApart_11 rfl rfl ?_
    refine mr_get C 0 15 dX8_areApart_12 rfl fl_X8_37 rfl rfl ?_
    refine mr_iload C 17 dX8_areApart_15 rfl rfl ?_
    refine mr_bipush C (nI 6) 19 dX8_areApart_17 rfl rfl ?_
    refine mr_idiv C (nI (d / 6)) 20 dX8_areApart_19 rfl (by decide) (pk_div (by omega) (by decide) (by decide)) ?_
    refine mr_dup2 C 21 dX8_areApart_20 rfl rfl rfl ?_
    refine mr_iald C 10 (d / 6) 22 dX8_areApart_21 rfl rfl rfl (by omega) (by decide) ?_
    refine mr_iconst C (nI 1) 23 dX8_areApart_22 rfl rfl ?_
    refine mr_iload C 25 dX8_areApart_23 rfl rfl ?_
    refine mr_bipush C (nI 6) 27 dX8_areApart_25 rfl rfl ?_
    refine mr_irem C (nI (d % 6)) 28 dX8_areApart_27 rfl (by decide) (pk_rem (by omega) (by decide) (by decide)) ?_
    refine mr_ishl C _ 29 dX8_areApart_28 rfl rfl ?_
    refine mr_iconst C (-1) 30 dX8_areApart_29 rfl rfl ?_
    refine mr_ixor C _ 31 dX8_areApart_30 rfl rfl ?_
    refine mr_iand C _ 32 dX8_areApart_31 rfl rfl ?_
    refine mr_iast C 10 (d / 6) 33 dX8_areApart_32 rfl rfl rfl (by omega) (by decide) ?_
    refine mr_aload_n C 34 dX8_areApart_33 rfl rfl ?_
    refine mr_get C 0 37 dX8_areApart_34 rfl fl_X8_37 rfl rfl ?_
    refine mr_iload C 39 dX8_areApart_37 rfl rfl ?_
    refine mr_bipush C (nI 6) 41 dX8_areApart_39 rfl rfl ?_
    refine mr_irem C (nI (d % 6)) 42 dX8_areApart_41 rfl (by decide) (pk_rem (by omega) (by decide) (by decide)) ?_
    refine mr_dup2 C 43 dX8_areApart_42 rfl rfl rfl ?_
    refine mr_iald C 10 (d % 6) 44 dX8_areApart_43 rfl rfl rfl (by omega) (by decide) ?_
    refine mr_iconst C (nI 1) 45 dX8_areApart_44 rfl rfl ?_
    refine mr_iload C 47 dX8_areApart_45 rfl rfl ?_
    refine mr_bipush C (nI 6) 49 dX8_areApart_47 rfl rfl ?_
    refine mr_idiv C (nI (d / 6)) 50 dX8_areApart_49 rfl (by decide) (pk_div (by omega) (by decide) (by decide)) ?_
    refine mr_ishl C _ 51 dX8_areApart_50 rfl rfl ?_
    refine mr_iconst C (-1) 52 dX8_areApart_51 rfl rfl ?_
    refine mr_ixor C _ 53 dX8_areApart_52 rfl rfl ?_
    refine mr_iand C _ 54 dX8_areApart_53 rfl rfl ?_
    refine mr_iast C 10 (d % 6) 55 dX8_areApart_54 rfl rfl rfl (by omega) (by decide) ?_
    refine mr_iconst C (nI 1) 56 dX8_areApart_55 rfl rfl ?_
    refine mr_istore C 58 dX8_areApart_56 rfl (by decide) ?_
    refine mr_iconst C (nI 0) 59 dX8_areApart_58 rfl rfl ?_
    refine mr_istore C 61 dX8_areApart_59 rfl (by decide) ?_
    generalize hf9 : (upd (upd f1 (d / 6) (f1 (d / 6) &&& ((nI 1 <<< (nI (d % 6) &&& 31)) ^^^ (-1)))) (d % 6) ((upd f1 (d / 6) (f1 (d / 6) &&& ((nI 1 <<< (nI (d % 6) &&& 31)) ^^^ (-1)))) (d % 6) &&& ((nI 1 <<< (nI (d / 6) &&& 31)) ^^^ (-1)))) = f9
    have hH : HM R K (drS sn0 (d / 6) (d % 6) (nI 0)) so0 he0 (G, be0, lN_ lo0) ho f9 f2 f3_ := by
      refine ⟨fun r hr => ?_, hH.2.1, hH.2.2⟩
      rw [← hf9]; unfold drS dr1
      rw [or00 _ (by omega), or00 _ (by omega)]
      simp only [up_at]
      rw [hH.1 r hr, hH.1 _ hd6, hH.1 _ (by omega)]
    have L : ∀ i, i ≤ n → ∀ wh1 be1 q1 q2 q3 : FN, HM R K (drS sn0 (d / 6) (d % 6) (nI 0)) so0 he0 (rgN (nI 0) 0 R K (drS sn0 (d / 6) (d % 6) (nI 0)) so0 he0 (G, be0, lN_ lo0) i) ho f9 be1 wh1 → V E mX8_areApart (5, 0, 0) Z 0 0 (wM E a tn st la mn im ho fr wa ac tp td lt lg cu tk sr tl fa fp wh1 q3 f9 q1 q2 be1 ((nI (rgN (nI 0) 0 R K (drS sn0 (d / 6) (d % 6) (nI 0)) so0 he0 (G, be0, lN_ lo0) i).1)) ((nI 0)) ((nI 0)) ik ke tc tr) [(0, .ref (a 0)), (1, .int (nI ca)), (2, .int (nI cb)), (3, .int (nI n)), (4, .int (nI d)), (5, .int (bP (∀ j, j < i → ¬ (rgN (nI 0) 0 R K (drS sn0 (d / 6) (d % 6) (nI 0)) so0 he0 (G, be0, lN_ lo0) (j + 1)).2.2 ca = (rgN (nI 0) 0 R K (drS sn0 (d / 6) (d % 6) (nI 0)) so0 he0 (G, be0, lN_ lo0) (j + 1)).2.2 cb))), (6, .int (nI i))] [] 61 := by
      refine lp_up n ?_
      intro i hi ih wh1 be1 q1 q2 q3 hH1
      refine mr_iload C 63 dX8_areApart_61 rfl rfl ?_
      refine mr_iload_n C 64 dX8_areApart_63 rfl rfl ?_
      refine mr_icmpge C 106 67 dX8_areApart_64 (by decide) rfl (fun c_64 => ?_) (fun c_64 => ?_)
      · rw [nI_leI (by omega) (by omega)] at c_64
        refine mr_iload C 108 dX8_areApart_106 rfl rfl ?_
        refine mr_iret C dX8_areApart_108 rfl bP_nar (by decide) (by decide) hlen ?_
        rw [hO]
        have hin9 : i = n := by omega
        have e : bP (∀ j, j < i → ¬ (rgN (nI 0) 0 R K (drS sn0 (d / 6) (d % 6) (nI 0)) so0 he0 (G, be0, lN_ lo0) (j + 1)).2.2 ca = (rgN (nI 0) 0 R K (drS sn0 (d / 6) (d % 6) (nI 0)) so0 he0 (G, be0, lN_ lo0) (j + 1)).2.2 cb) = bP (¬ mtS R K n (drS sn0 (d / 6) (d % 6) (nI 0)) so0 he0 G be0 (lN_ lo0) ca cb) := by
          rw [hin9]; exact congrArg bP (propext ⟨fun h1 h2 => by obtain ⟨j, h3, h4⟩ := h2; exact h1 j h3 h4, fun h1 j h3 h4 => h1 ⟨j, h3, h4⟩⟩)
        rw [e]
        exact ⟨_, _, _, _, _, _, _, _, _, rfl, rfl⟩
      · rw [nI_leI (by omega) (by omega)] at c_64
        refine mr_iload C 69 dX8_areApart_67 rfl rfl ?_
        refine mr_ifeq C 106 72 dX8_areApart_69 (by decide) rfl (fun c_69 => ?_) (fun c_69 => ?_)
        · rw [bP_eq] at c_69
          refine mr_iload C 108 dX8_areApart_106 rfl rfl ?_
          refine mr_iret C dX8_areApart_108 rfl bP_nar (by decide) (by decide) hlen ?_
          rw [hO]
          have e : bP (∀ j, j < i → ¬ (rgN (nI 0) 0 R K (drS sn0 (d / 6) (d % 6) (nI 0)) so0 he0 (G, be0, lN_ lo0) (j + 1)).2.2 ca = (rgN (nI 0) 0 R K (drS sn0 (d / 6) (d % 6) (nI 0)) so0 he0 (G, be0, lN_ lo0) (j + 1)).2.2 cb) = bP (¬ mtS R K n (drS sn0 (d / 6) (d % 6) (nI 0)) so0 he0 G be0 (lN_ lo0) ca cb) := by
            rw [← bP_f c_69, ← bP_f (p := ¬ mtS R K n (drS sn0 (d / 6) (d % 6) (nI 0)) so0 he0 G be0 (lN_ lo0) ca cb) (fun h1 => c_69 (fun j h3 h4 => h1 ⟨j, by omega, h4⟩))]
          rw [e]
          exact ⟨_, _, _, _, _, _, _, _, _, rfl, rfl⟩
        · rw [← Ne, bP_ne] at c_69
          refine mr_aload_n C 73 dX8_areApart_72 rfl rfl ?_
          refine mr_callV C (c_goBellH E a tn st ac td lt lg cu tk sr tl fa fp (nI 0) tr la mn im ho fr wa tp wh1 q3 f9 q1 q2 be1 ik ke tc R K 0 hR hK (by decide) h0 h2 hk (drS sn0 (d / 6) (d % 6) (nI 0)) so0 he0 (rgN (nI 0) 0 R K (drS sn0 (d / 6) (d % 6) (nI 0)) so0 he0 (G, be0, lN_ lo0) i) (by rw [rgN_G]; show G + i < _; omega) hH1) [0, 1, 2, 3, 4, 5, 6, 7, 8, 9, 10, 11, 12, 13, 14, 15, 16] 0 8 76 dX8_areApart_73 rfl mk_X8_goBell mi_X8_goBell ml_X8_213 rfl rfl rfl rfl rfl (Nat.le_of_ble_eq_true rfl) (by decide) (by decide) (by decide) rfl rfl (fun r w1 hpost => ?_)
          obtain ⟨wh2, be2, k1, k2, k3, rfl, rfl, hH2⟩ := hpost
          refine mr_w (wput_all _ _ 17 rfl rfl) ?_
          have hH2 : HM R K (drS sn0 (d / 6) (d % 6) (nI 0)) so0 he0 (rgN (nI 0) 0 R K (drS sn0 (d / 6) (d % 6) (nI 0)) so0 he0 (G, be0, lN_ lo0) (i + 1)) ho f9 be2 wh2 := hH2
          refine mr_istore C 78 dX8_areApart_76 rfl (by decide) ?_
          refine mr_aload_n C 79 dX8_areApart_78 rfl rfl ?_
          refine mr_get C 0 82 dX8_areApart_79 rfl fl_X8_31 rfl rfl ?_
          refine mr_iload_n C 83 dX8_areApart_82 rfl rfl ?_
          refine mr_iald C 8 ca 84 dX8_areApart_83 rfl rfl rfl (by omega) (by decide) ?_
          refine mr_aload_n C 85 dX8_areApart_84 rfl rfl ?_
          refine mr_get C 0 88 dX8_areApart_85 rfl fl_X8_31 rfl rfl ?_
          refine mr_iload_n C 89 dX8_areApart_88 rfl rfl ?_
          refine mr_iald C 8 cb 90 dX8_areApart_89 rfl rfl rfl (by omega) (by decide) ?_
          refine mr_icmpeq C 97 93 dX8_areApart_90 (by decide) rfl (fun c_90 => ?_) (fun c_90 => ?_)
          · rw [(hH2.2.2 ca hca).2.2.1, (hH2.2.2 cb hcb).2.2.1, nI_eq (by have := (hH2.2.2 ca hca).2.2.2; omega) (by have := (hH2.2.2 cb hcb).2.2.2; omega)] at c_90
            refine mr_iconst C (nI 0) 98 dX8_areApart_97 rfl rfl ?_
            refine mr_istore C 100 dX8_areApart_98 rfl (by decide) ?_
            refine mr_iinc C (nI (i + 1)) 103 dX8_areApart_100 rfl rfl (by decide) (nI_add i 1) ?_
            refine mr_goto C 61 dX8_areApart_103 (by decide) ?_
            have e : nI 0 = bP (∀ j, j < (i + 1) → ¬ (rgN (nI 0) 0 R K (drS sn0 (d / 6) (d % 6) (nI 0)) so0 he0 (G, be0, lN_ lo0) (j + 1)).2.2 ca = (rgN (nI 0) 0 R K (drS sn0 (d / 6) (d % 6) (nI 0)) so0 he0 (G, be0, lN_ lo0) (j + 1)).2.2 cb) := bP_f (fun h => h i (by omega) c_90)
            have ih2 := ih (by omega) wh2 be2 k1 k2 k3 hH2
            rw [← e] at ih2
            exact mr_at ih2 rfl rfl rfl
          · rw [(hH2.2.2 ca hca).2.2.1, (hH2.2.2 cb hcb).2.2.1, nI_eq (by have := (hH2.2.2 ca hca).2.2.2; omega) (by have := (hH2.2.2 cb hcb).2.2.2; omega)] at c_90
            refine mr_iconst C (nI 1) 94 dX8_areApart_93 rfl rfl ?_
            refine mr_goto C 98 dX8_areApart_94 (by decide) ?_
            refine mr_istore C 100 dX8_areApart_98 rfl (by decide) ?_
            refine mr_iinc C (nI (i + 1)) 103 dX8_areApart_100 rfl rfl (by decide) (nI_add i 1) ?_
            refine mr_goto C 61 dX8_areApart_103 (by decide) ?_
            have e : nI 1 = bP (∀ j, j < (i + 1) → ¬ (rgN (nI 0) 0 R K (drS sn0 (d / 6) (d % 6) (nI 0)) so0 he0 (G, be0, lN_ lo0) (j + 1)).2.2 ca = (rgN (nI 0) 0 R K (drS sn0 (d / 6) (d % 6) (nI 0)) so0 he0 (G, be0, lN_ lo0) (j + 1)).2.2 cb) := bP_t (fun j hj => by by_cases e : j = i; exact e ▸ c_90; exact c_69 j (by omega))
            have ih2 := ih (by omega) wh2 be2 k1 k2 k3 hH2
            rw [← e] at ih2
            exact mr_at ih2 rfl rfl rfl
    have i0 := L 0 (Nat.zero_le _) f3_ f2 no al go hH
    rw [← bP_t (p := ∀ j, j < 0 → ¬ (rgN (nI 0) 0 R K (drS sn0 (d / 6) (d % 6) (nI 0)) so0 he0 (G, be0, lN_ lo0) (j + 1)).2.2 ca = (rgN (nI 0) 0 R K (drS sn0 (d / 6) (d % 6) (nI 0)) so0 he0 (G, be0, lN_ lo0) (j + 1)).2.2 cb) (fun j h => absurd h (Nat.not_lt_zero j))] at i0
    exact mr_at i0 rfl rfl rfl

set_option maxRecDepth 20000 in
set_option maxHeartbeats 4000000 in
theorem c_m_apart (E : EG) (a : Nat → Nat) (tn st ac td lt lg cu tk sr tl fa fp gn gi gm tr : Int32) (la mn im ho fr wa tp wh go se no al be ik ke tc : FN) (R K G : Nat) (se0 sn0 be0 so0 lo0 he0 : FN) (hR : R ≤ 6) (hK : K ≤ 5) (hG : G ≤ 9999) (hl : ∀ c, c < K → lo0 c = nI (lN_ lo0 c) ∧ lN_ lo0 c < R) (hso : ∀ c, c < K → ∃ k, 1 ≤ k ∧ k ≤ 5 ∧ so0 c = nI k) (hrh : RH ho R K G se0 sn0 be0 so0 lo0 he0) (c0 u0 n0 : Int32) (hsy : SY R sn0) : Ctr E mX8_apart (6, 0, 0) [.ref (a 0), .int c0, .int u0, .int n0] (wM E a tn st la mn im ho fr wa ac tp td lt lg cu tk sr tl fa fp wh go se no al be gn gi gm ik ke tc tr) (fun v w => ∃ (wh' go' se' no' al' be' : FN) (gn' gi' gm' : Int32), v = some (.int (apartV c0 u0 n0 R K sn0 so0 he0 (G, be0, lN_ lo0))) ∧ w = wM E a ((nI 0)) st la mn im ho fr wa ac tp td lt lg cu tk sr tl fa fp (wh') (go') (se') (no') (al') (be') (gn') (gi') (gm') ik ke tc tr) := by
  refine Ctr.of (by decide) (Nat.le_of_ble_eq_true rfl) ?_
  intro Z hO hn C
  have hlen : zn Z ≤ 17 := by rw [hn]; exact Nat.le_of_ble_eq_true rfl
  have h0 := hrh.1
  have h2 := hrh.2.1
  have h3 := hrh.2.2.1
  have hk : ∀ c, c < K → ∃ k, 1 ≤ k ∧ k ≤ 5 ∧ hoS ho c = nI k := fun c hc => by
    obtain ⟨k, e1, e2, e3⟩ := hso c hc
    exact ⟨k, e1, e2, (hrh.2.2.2.2.2 c hc).1.trans e3⟩
  refine mr_aload_n C 1 dX8_apart_0 rfl rfl ?_
  refine mr_iconst C (nI 0) 2 dX8_apart_1 rfl rfl ?_
  refine mr_put C 0 5 dX8_apart_2 rfl fs_X8_59 rfl rfl rfl (Nat.le_of_ble_eq_true rfl) ?_
  refine mr_w (ws' := wM E a ((nI 0)) st la mn im ho fr wa ac tp td lt lg cu tk sr tl fa fp wh go se no al be gn gi gm ik ke tc tr) rfl ?_
  refine mr_aload_n C 6 dX8_apart_5 rfl rfl ?_
  refine mr_iload_n C 7 dX8_apart_6 rfl rfl ?_
  refine mr_callV C (c_m_isCrowd E a ((nI 0)) st ac td lt lg cu tk sr tl fa fp gn gi gm tr la mn im ho fr wa tp wh go se no al be ik ke tc K hK h2 c0) [0, 1, 2, 3, 4, 5, 6, 7, 8, 9, 10, 11, 12, 13, 14, 15, 16] 0 8 10 dX8_apart_7 rfl mk_X8_isCrowd mi_X8_isCrowd ml_X8_242 rfl rfl rfl rfl rfl (Nat.le_of_ble_eq_true rfl) (by decide) (by decide) (by decide) rfl rfl (fun r w1 hpost => ?_)
  obtain ⟨rfl, rfl⟩ := hpost
  refine mr_w (wput_all _ _ 17 rfl rfl) ?_
  refine mr_ifeq C 38 13 dX8_apart_10 (by decide) rfl (fun c_10 => ?_) (fun c_10 => ?_)
  · rw [bI_eq] at c_10
    refine mr_ldc C 40 dX8_apart_38 rfl kc_X8_79 ?_
    refine mr_iret C dX8_apart_40 rfl rfl (by decide) (by decide) hlen ?_
    rw [hO]
    exact ⟨_, _, _, _, _, _, _, _, _, congrArg (fun z => some (Value.int z)) ((ifP_f (by omega)).symm), rfl⟩
  · rw [← Ne, bI_ne] at c_10
    refine mr_aload_n C 14 dX8_apart_13 rfl rfl ?_
    refine mr_iload_n C 15 dX8_apart_14 rfl rfl ?_
    refine mr_callV C (c_m_isCrowd E a ((nI 0)) st ac td lt lg cu tk sr tl fa fp gn gi gm tr la mn im ho fr wa tp wh go se no al be ik ke tc K hK h2 u0) [0, 1, 2, 3, 4, 5, 6, 7, 8, 9, 10, 11, 12, 13, 14, 15, 16] 0 8 18 dX8_apart_15 rfl mk_X8_isCrowd mi_X8_isCrowd ml_X8_242 rfl rfl rfl rfl rfl (Nat.le_of_ble_eq_true rfl) (by decide) (by decide) (by decide) rfl rfl (fun r w1 hpost => ?_)
    obtain ⟨rfl, rfl⟩ := hpost
    refine mr_w (wput_all _ _ 17 rfl rfl) ?_
    refine mr_ifeq C 38 21 dX8_apart_18 (by decide) rfl (fun c_18 => ?_) (fun c_18 => ?_)
    · rw [bI_eq] at c_18
      refine mr_ldc C 40 dX8_apart_38 rfl kc_X8_79 ?_
      refine mr_iret C dX8_apart_40 rfl rfl (by decide) (by decide) hlen ?_
      rw [hO]
      exact ⟨_, _, _, _, _, _, _, _, _, congrArg (fun z => some (Value.int z)) ((ifP_f (by omega)).symm), rfl⟩
    · rw [← Ne, bI_ne] at c_18
      refine mr_iload_n C 22 dX8_apart_21 rfl rfl ?_
      refine mr_iload_n C 23 dX8_apart_22 rfl rfl ?_
      refine mr_icmpeq C 38 26 dX8_apart_23 (by decide) rfl (fun c_23 => ?_) (fun c_23 => ?_)
      · rw [tI_xx] at c_23
        refine mr_ldc C 40 dX8_apart_38 rfl kc_X8_79 ?_
        refine mr_iret C dX8_apart_40 rfl rfl (by decide) (by decide) hlen ?_
        rw [hO]
        exact ⟨_, _, _, _, _, _, _, _, _, congrArg (fun z => some (Value.int z)) ((ifP_f (by omega)).symm), rfl⟩
      · rw [tI_xx] at c_23
        refine mr_iload_n C 27 dX8_apart_26 rfl rfl ?_
        refine mr_i2l C _ 28 dX8_apart_27 rfl rfl ?_
        refine mr_lconst C 1 29 dX8_apart_28 rfl rfl ?_
        refine mr_ldc2 C 32 dX8_apart_29 rfl kc_X8_247 ?_
        refine mr_callS C (c_inK E n0 (1) (60) _ _ rfl rfl) [] 35 dX8_apart_32 rfl mk_X8_in ms_X8_in ml_X8_69 rfl rfl rfl rfl (Nat.le_of_ble_eq_true rfl) (by decide) (by decide) (by decide) (fun r w1 hpost => ?_)
        obtain ⟨rfl, rfl⟩ := hpost
        refine mr_w (ws' := wM E a ((nI 0)) st la mn im ho fr wa ac tp td lt lg cu tk sr tl fa fp wh go se no al be gn gi gm ik ke tc tr) rfl ?_
        refine mr_ifne C 41 38 dX8_apart_35 (by decide) rfl (fun c_35 => ?_) (fun c_35 => ?_)
        · rw [bI_ne] at c_35
          obtain ⟨c, hc, rfl⟩ := tI_of (x := c0) (n := K) (by omega) (by omega)
          have ec : (nI c).toInt = (c : Int) := tI_n (by omega)
          have ic_ : iN (nI c) = c := iN_n (by omega)
          obtain ⟨u, hu, rfl⟩ := tI_of (x := u0) (n := K) (by omega) (by omega)
          have eu : (nI u).toInt = (u : Int) := tI_n (by omega)
          have iu_ : iN (nI u) = u := iN_n (by omega)
          obtain ⟨n, hn, rfl⟩ := tI_of (x := n0) (n := 61) (by omega) (by omega)
          have en : (nI n).toInt = (n : Int) := tI_n (by omega)
          have in_ : iN (nI n) = n := iN_n (by omega)
          refine mr_aload_n C 42 dX8_apart_41 rfl rfl ?_
          refine mr_iload_n C 43 dX8_apart_42 rfl rfl ?_
          refine mr_iload_n C 44 dX8_apart_43 rfl rfl ?_
          refine mr_iload_n C 45 dX8_apart_44 rfl rfl ?_
          refine mr_ldc C 47 dX8_apart_45 rfl kc_X8_95 ?_
          refine mr_callV C (c_areApart E a ((nI 0)) st ac td lt lg cu tk sr tl fa fp gn gi gm tr la mn im ho fr wa tp wh go se no al be ik ke tc R K G se0 sn0 be0 so0 lo0 he0 hR hK hG hl hso hrh c u n hc hu (by omega) ) [0, 1, 2, 3, 4, 5, 6, 7, 8, 9, 10, 11, 12, 13, 14, 15, 16] 0 8 50 dX8_apart_47 rfl mk_X8_areApart mi_X8_areApart ml_X8_271 rfl rfl rfl rfl rfl (Nat.le_of_ble_eq_true rfl) (by decide) (by decide) (by decide) rfl rfl (fun r w1 hpost => ?_)
          obtain ⟨w1, w2, w3, w4, w5, w6, g1, g2, g3, rfl, rfl⟩ := hpost
          refine mr_w (wput_all _ _ 17 rfl rfl) ?_
          refine mr_ifeq C 55 53 dX8_apart_50 (by decide) rfl (fun c_50 => ?_) (fun c_50 => ?_)
          · rw [bP_eq] at c_50
            refine mr_iconst C (nI 0) 56 dX8_apart_55 rfl rfl ?_
            refine mr_istore C 58 dX8_apart_56 rfl (by decide) ?_
            have hmt : mtS R K n sn0 so0 he0 G be0 (lN_ lo0) c u := Classical.not_not.mp c_50
            have L : ∀ i, i ≤ 36 → ∀ (w1 w2 w3 w4 w5 w6 : FN) (g1 g2 g3 : Int32), (∀ d, d < i → ¬ drP R K n sn0 so0 he0 G be0 (lN_ lo0) c u d) → V E mX8_apart (6, 0, 0) Z 0 0 (wM E a ((nI 0)) st la mn im ho fr wa ac tp td lt lg cu tk sr tl fa fp w1 w2 w3 w4 w5 w6 g1 g2 g3 ik ke tc tr) [(0, .ref (a 0)), (1, .int (nI c)), (2, .int (nI u)), (3, .int (nI n)), (4, .int (nI i))] [] 58 := by
              refine lp_up 36 ?_
              intro i hi ih w1 w2 w3 w4 w5 w6 g1 g2 g3 hf
              refine mr_iload C 60 dX8_apart_58 rfl rfl ?_
              refine mr_bipush C (nI 36) 62 dX8_apart_60 rfl rfl ?_
              refine mr_icmpge C 136 65 dX8_apart_62 (by decide) rfl (fun c_62 => ?_) (fun c_62 => ?_)
              · rw [nI_leI (by omega) (by omega)] at c_62
                refine mr_ldc C 138 dX8_apart_136 rfl kc_X8_95 ?_
                refine mr_iret C dX8_apart_138 rfl rfl (by decide) (by decide) hlen ?_
                rw [hO]
                exact ⟨_, _, _, _, _, _, _, _, _, congrArg (fun z => some (Value.int z)) (((ifP_t (by omega)).trans (by rw [ic_, iu_, in_]; exact dsS_miss hmt (fun j hj => hf j (by omega)))).symm), rfl⟩
              · rw [nI_leI (by omega) (by omega)] at c_62
                refine mr_iload C 67 dX8_apart_65 rfl rfl ?_
                refine mr_bipush C (nI 6) 69 dX8_apart_67 rfl rfl ?_
                refine mr_idiv C (nI (i / 6)) 70 dX8_apart_69 rfl (by decide) (pk_div (by omega) (by decide) (by decide)) ?_
                refine mr_iload C 72 dX8_apart_70 rfl rfl ?_
                refine mr_bipush C (nI 6) 74 dX8_apart_72 rfl rfl ?_
                refine mr_irem C (nI (i % 6)) 75 dX8_apart_74 rfl (by decide) (pk_rem (by omega) (by decide) (by decide)) ?_
                refine mr_icmpge C 107 78 dX8_apart_75 (by decide) rfl (fun c_75 => ?_) (fun c_75 => ?_)
                · rw [nI_leI (by omega) (by omega)] at c_75
                  refine mr_iconst C (nI 0) 108 dX8_apart_107 rfl rfl ?_
                  refine mr_istore C 110 dX8_apart_108 rfl (by decide) ?_
                  refine mr_iload C 112 dX8_apart_110 rfl rfl ?_
                  refine mr_ifeq C 130 115 dX8_apart_112 (by decide) rfl (fun _ => ?_) (fun c_ => absurd (by decide) c_)
                  refine mr_iinc C (nI (i + 1)) 133 dX8_apart_130 rfl rfl (by decide) (nI_add i 1) ?_
                  refine mr_goto C 58 dX8_apart_133 (by decide) ?_
                  refine mr_at (ih (by omega) _ _ _ _ _ _ _ _ _ ?_) rfl rfl rfl
                  intro d hd
                  by_cases e : d = i
                  · subst e; exact fun h => absurd h.1 (by omega)
                  · exact hf d (by omega)
                · rw [nI_leI (by omega) (by omega)] at c_75
                  refine mr_aload_n C 79 dX8_apart_78 rfl rfl ?_
                  refine mr_get C 0 82 dX8_apart_79 rfl fl_X8_19 rfl rfl ?_
                  refine mr_bipush C (nI 10) 84 dX8_apart_82 rfl rfl ?_
                  refine mr_iload C 86 dX8_apart_84 rfl rfl ?_
                  refine mr_bipush C (nI 6) 88 dX8_apart_86 rfl rfl ?_
                  refine mr_idiv C (nI (i / 6)) 89 dX8_apart_88 rfl (by decide) (pk_div (by omega) (by decide) (by decide)) ?_
                  refine mr_iadd C (nI (10 + (i / 6))) 90 dX8_apart_89 rfl (nI_add _ _) ?_
                  refine mr_iald C 4 (10 + (i / 6)) 91 dX8_apart_90 rfl rfl rfl (by omega) (by decide) ?_
                  refine mr_iload C 93 dX8_apart_91 rfl rfl ?_
                  refine mr_bipush C (nI 6) 95 dX8_apart_93 rfl rfl ?_
                  refine mr_irem C (nI (i % 6)) 96 dX8_apart_95 rfl (by decide) (pk_rem (by omega) (by decide) (by decide)) ?_
                  refine mr_ishr C _ 97 dX8_apart_96 rfl rfl ?_
                  refine mr_iconst C (nI 1) 98 dX8_apart_97 rfl rfl ?_
                  refine mr_iand C _ 99 dX8_apart_98 rfl rfl ?_
                  refine mr_iconst C (nI 1) 100 dX8_apart_99 rfl rfl ?_
                  refine mr_icmpne C 107 103 dX8_apart_100 (by decide) rfl (fun c_100 => ?_) (fun c_100 => ?_)
                  · rw [Ne, bt_is (by omega)] at c_100
                    refine mr_iconst C (nI 0) 108 dX8_apart_107 rfl rfl ?_
                    refine mr_istore C 110 dX8_apart_108 rfl (by decide) ?_
                    refine mr_iload C 112 dX8_apart_110 rfl rfl ?_
                    refine mr_ifeq C 130 115 dX8_apart_112 (by decide) rfl (fun _ => ?_) (fun c_ => absurd (by decide) c_)
                    refine mr_iinc C (nI (i + 1)) 133 dX8_apart_130 rfl rfl (by decide) (nI_add i 1) ?_
                    refine mr_goto C 58 dX8_apart_133 (by decide) ?_
                    refine mr_at (ih (by omega) _ _ _ _ _ _ _ _ _ ?_) rfl rfl rfl
                    intro d hd
                    by_cases e : d = i
                    · subst e; exact fun h => c_100 (by rw [(hrh.2.2.2.1 _ (by have := h.1; have := h.2.1; omega)).2.1]; exact h.2.2.1)
                    · exact hf d (by omega)
                  · rw [bt_is (by omega)] at c_100
                    have hb9 : i % 6 < R ∧ bt (sn0 (i / 6)) (i % 6) = true := by
                      by_cases h9 : i / 6 < R
                      · rw [(hrh.2.2.2.1 _ h9).2.1] at c_100
                        refine ⟨?_, c_100⟩
                        by_cases h8 : i % 6 < R
                        · exact h8
                        · have h7 := (hsy (i / 6) (i % 6) (by omega) (by omega)).2 (by omega)
                          rw [h7] at c_100; cases c_100
                      · rw [hrh.2.2.2.2.1 _ (by omega) (by omega), bt_0 _ (by omega)] at c_100; cases c_100
                    refine mr_iconst C (nI 1) 104 dX8_apart_103 rfl rfl ?_
                    refine mr_goto C 108 dX8_apart_104 (by decide) ?_
                    refine mr_istore C 110 dX8_apart_108 rfl (by decide) ?_
                    refine mr_iload C 112 dX8_apart_110 rfl rfl ?_
                    refine mr_ifeq C 130 115 dX8_apart_112 (by decide) rfl (fun c_ => absurd c_ (by decide)) (fun _ => ?_)
                    refine mr_aload_n C 116 dX8_apart_115 rfl rfl ?_
                    refine mr_iload_n C 117 dX8_apart_116 rfl rfl ?_
                    refine mr_iload_n C 118 dX8_apart_117 rfl rfl ?_
                    refine mr_iload_n C 119 dX8_apart_118 rfl rfl ?_
                    refine mr_iload C 121 dX8_apart_119 rfl rfl ?_
                    refine mr_callV C (c_areApartD E a ((nI 0)) st ac td lt lg cu tk sr tl fa fp g1 g2 g3 tr la mn im ho fr wa tp w1 w2 w3 w4 w5 w6 ik ke tc R K G se0 sn0 be0 so0 lo0 he0 hR hK hG hl hso hrh c u n hc hu (by omega) i (by omega) (by omega) (by omega)) [0, 1, 2, 3, 4, 5, 6, 7, 8, 9, 10, 11, 12, 13, 14, 15, 16] 0 8 124 dX8_apart_121 rfl mk_X8_areApart mi_X8_areApart ml_X8_271 rfl rfl rfl rfl rfl (Nat.le_of_ble_eq_true rfl) (by decide) (by decide) (by decide) rfl rfl (fun r w1 hpost => ?_)
                    obtain ⟨w1_, w2_, w3_, w4_, w5_, w6_, g1_, g2_, g3_, rfl, rfl⟩ := hpost
                    refine mr_w (wput_all _ _ 17 rfl rfl) ?_
                    refine mr_ifeq C 130 127 dX8_apart_124 (by decide) rfl (fun c_124 => ?_) (fun c_124 => ?_)
                    · rw [bP_eq] at c_124
                      refine mr_iinc C (nI (i + 1)) 133 dX8_apart_130 rfl rfl (by decide) (nI_add i 1) ?_
                      refine mr_goto C 58 dX8_apart_133 (by decide) ?_
                      refine mr_at (ih (by omega) _ _ _ _ _ _ _ _ _ ?_) rfl rfl rfl
                      intro d hd
                      by_cases e : d = i
                      · subst e; exact fun h => c_124 h.2.2.2
                      · exact hf d (by omega)
                    · rw [← Ne, bP_ne] at c_124
                      refine mr_iload C 129 dX8_apart_127 rfl rfl ?_
                      refine mr_iret C dX8_apart_129 rfl rfl (by decide) (by decide) hlen ?_
                      rw [hO]
                      exact ⟨_, _, _, _, _, _, _, _, _, congrArg (fun z => some (Value.int z)) (((ifP_t (by omega)).trans (by rw [ic_, iu_, in_]; exact dsS_hit hmt (by omega) hf ⟨by omega, hb9.1, hb9.2, c_124⟩)).symm), rfl⟩
            exact mr_at (L 0 (Nat.zero_le _) _ _ _ _ _ _ _ _ _ (fun d h => absurd h (by omega))) rfl rfl rfl
          · rw [← Ne, bP_ne] at c_50
            refine mr_iconst C (-1) 54 dX8_apart_53 rfl rfl ?_
            refine mr_iret C dX8_apart_54 rfl rfl (by decide) (by decide) hlen ?_
            rw [hO]
            exact ⟨_, _, _, _, _, _, _, _, _, congrArg (fun z => some (Value.int z)) (((ifP_t (by omega)).trans (by rw [ic_, iu_, in_]; exact dsS_no c_50)).symm), rfl⟩
        · rw [bI_eq] at c_35
          refine mr_ldc C 40 dX8_apart_38 rfl kc_X8_79 ?_
          refine mr_iret C dX8_apart_40 rfl rfl (by decide) (by decide) hlen ?_
          rw [hO]
          exact ⟨_, _, _, _, _, _, _, _, _, congrArg (fun z => some (Value.int z)) ((ifP_f (by omega)).symm), rfl⟩

