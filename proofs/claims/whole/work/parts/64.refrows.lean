/-! the reference: rows -/
/-- rows in the class and in the reference -/
def RRow (it : Nat → FN) (th ln sz la mn im : FN) : Prop := ∀ r, r < 8 → (th r = nI 0 ∧ la r = -1) ∨ (th r = nI 1 ∧ la r = ln r ∧ (∃ k, k < 3 ∧ ln r = nI k) ∧ ∃ n, n ≤ 40 ∧ sz r = nI n ∧ mn r = nI n ∧ ∀ j, j < n → im (40 * r + j) = it r j)
theorem RRow.is {it : Nat → FN} {th ln sz la mn im : FN} (h : RRow it th ln sz la mn im) {r : Nat} (hr : r < 8) (h0 : ¬ 0 ≤ la r) : th r = nI 0 :=
  (h r hr).elim (fun k => k.1) (fun k => absurd (by rw [k.2.1]; obtain ⟨q, hq, e⟩ := k.2.2.1; rw [e]; exact nI_pos' (by omega)) h0)
theorem RRow.at {it : Nat → FN} {th ln sz la mn im : FN} (h : RRow it th ln sz la mn im) {r : Nat} (hr : r < 8) (h0 : 0 ≤ la r) : th r = nI 1 ∧ la r = ln r ∧ (∃ k, k < 3 ∧ ln r = nI k) ∧ ∃ n, n ≤ 40 ∧ sz r = nI n ∧ mn r = nI n ∧ ∀ j, j < n → im (40 * r + j) = it r j :=
  (h r hr).elim (fun k => absurd h0 (by rw [k.2]; decide)) (fun k => k)
theorem th_01 {x : Int32} (h : x = nI 1) : ¬ x = nI 0 := by rw [h]; decide
set_option maxRecDepth 20000 in
set_option maxHeartbeats 4000000 in
theorem c_m_row (E : EG) (a : Nat → Nat) (tn st ac td lt lg cu tk sr tl fa fp gn gi gm tr : Int32) (la mn im ho fr wa tp wh go se no al be ik ke tc : FN) (it : Nat → FN) (th ln sz : FN) (hrr : RRow it th ln sz la mn im) (r0 l0 n0 : Int32) : Ctr E mX8_row (2, 0, 0) [.ref (a 0), .int r0, .int l0, .int n0] (wM E a tn st la mn im ho fr wa ac tp td lt lg cu tk sr tl fa fp wh go se no al be gn gi gm ik ke tc tr) (fun v w => ∃ (la' mn' im' : FN) (st' v2 : Int32), v = some (.int v2) ∧ w = wM E a ((nI 0)) (st') (la') (mn') (im') ho fr wa ac tp td lt lg cu tk sr tl fa fp wh go se no al be gn gi gm ik ke tc tr ∧ ∀ (v' : Int32) (it' : Nat → FN) (th' ln' sz' : FN) (fd' : Int32), NxRow r0 l0 n0 (it, th, ln, sz, st) v' (it', th', ln', sz', fd') → v' = v2 ∧ fd' = st' ∧ RRow it' th' ln' sz' la' mn' im') := by
  refine Ctr.of (by decide) (Nat.le_of_ble_eq_true rfl) ?_
  intro Z hO hn C
  have hlen : zn Z ≤ 17 := by rw [hn]; exact Nat.le_of_ble_eq_true rfl
  refine mr_aload_n C 1 dX8_row_0 rfl rfl ?_
  refine mr_iconst C (nI 0) 2 dX8_row_1 rfl rfl ?_
  refine mr_put C 0 5 dX8_row_2 rfl fs_X8_59 rfl rfl rfl (Nat.le_of_ble_eq_true rfl) ?_
  refine mr_w (ws' := wM E a ((nI 0)) st la mn im ho fr wa ac tp td lt lg cu tk sr tl fa fp wh go se no al be gn gi gm ik ke tc tr) rfl ?_
  refine mr_iload_n C 6 dX8_row_5 rfl rfl ?_
  refine mr_callS C (c_m_isRow E r0) [] 9 dX8_row_6 rfl mk_X8_isRow ms_X8_isRow ml_X8_73 rfl rfl rfl rfl (Nat.le_of_ble_eq_true rfl) (by decide) (by decide) (by decide) (fun r w1 hpost => ?_)
  obtain ⟨rfl, rfl⟩ := hpost
  refine mr_w (ws' := wM E a ((nI 0)) st la mn im ho fr wa ac tp td lt lg cu tk sr tl fa fp wh go se no al be gn gi gm ik ke tc tr) rfl ?_
  refine mr_ifeq C 30 12 dX8_row_9 (by decide) rfl (fun c_9 => ?_) (fun c_9 => ?_)
  · rw [bI_eq] at c_9
    refine mr_ldc C 32 dX8_row_30 rfl kc_X8_79 ?_
    refine mr_iret C dX8_row_32 rfl rfl (by decide) (by decide) hlen ?_
    rw [hO]
    refine ⟨la, mn, im, _, _, rfl, rfl, ?_⟩
    intro v9 it9 th9 ln9 sz9 fd9 hx
    replace hx := (ifP_f (by omega)).mp (hx)
    obtain ⟨rfl, hy⟩ := hx
    cases hy
    exact ⟨rfl, rfl, hrr⟩
  · rw [← Ne, bI_ne] at c_9
    refine mr_iload_n C 13 dX8_row_12 rfl rfl ?_
    refine mr_i2l C _ 14 dX8_row_13 rfl rfl ?_
    refine mr_lconst C 0 15 dX8_row_14 rfl rfl ?_
    refine mr_ldc2 C 18 dX8_row_15 rfl kc_X8_77 ?_
    refine mr_callS C (c_inK E l0 (0) (2) _ _ rfl rfl) [] 21 dX8_row_18 rfl mk_X8_in ms_X8_in ml_X8_69 rfl rfl rfl rfl (Nat.le_of_ble_eq_true rfl) (by decide) (by decide) (by decide) (fun r w1 hpost => ?_)
    obtain ⟨rfl, rfl⟩ := hpost
    refine mr_w (ws' := wM E a ((nI 0)) st la mn im ho fr wa ac tp td lt lg cu tk sr tl fa fp wh go se no al be gn gi gm ik ke tc tr) rfl ?_
    refine mr_ifeq C 30 24 dX8_row_21 (by decide) rfl (fun c_21 => ?_) (fun c_21 => ?_)
    · rw [bI_eq] at c_21
      refine mr_ldc C 32 dX8_row_30 rfl kc_X8_79 ?_
      refine mr_iret C dX8_row_32 rfl rfl (by decide) (by decide) hlen ?_
      rw [hO]
      refine ⟨la, mn, im, _, _, rfl, rfl, ?_⟩
      intro v9 it9 th9 ln9 sz9 fd9 hx
      replace hx := (ifP_f (by omega)).mp (hx)
      obtain ⟨rfl, hy⟩ := hx
      cases hy
      exact ⟨rfl, rfl, hrr⟩
    · rw [← Ne, bI_ne] at c_21
      refine mr_iload_n C 25 dX8_row_24 rfl rfl ?_
      refine mr_bipush C (nI 40) 27 dX8_row_25 rfl rfl ?_
      refine mr_icmple C 33 30 dX8_row_27 (by decide) rfl (fun c_27 => ?_) (fun c_27 => ?_)
      · rw [tI_le (by omega)] at c_27
        refine mr_aload_n C 34 dX8_row_33 rfl rfl ?_
        refine mr_iconst C (nI 0) 35 dX8_row_34 rfl rfl ?_
        refine mr_put C 0 38 dX8_row_35 rfl fs_X8_63 rfl rfl rfl (Nat.le_of_ble_eq_true rfl) ?_
        refine mr_w (ws' := wM E a ((nI 0)) ((nI 0)) la mn im ho fr wa ac tp td lt lg cu tk sr tl fa fp wh go se no al be gn gi gm ik ke tc tr) rfl ?_
        refine mr_iload_n C 39 dX8_row_38 rfl rfl ?_
        refine mr_ifge C 48 42 dX8_row_39 (by decide) rfl (fun c_39 => ?_) (fun c_39 => ?_)
        · rw [tI_ge0] at c_39
          obtain ⟨r, hr, rfl⟩ := tI_of (x := r0) (n := 8) (by omega) (by omega)
          have er : (nI r).toInt = (r : Int) := tI_n (by omega)
          have ir_ : iN (nI r) = r := iN_n (by omega)
          obtain ⟨n, hn, rfl⟩ := tI_of (x := n0) (n := 41) (by omega) (by omega)
          have en : (nI n).toInt = (n : Int) := tI_n (by omega)
          have in_ : iN (nI n) = n := iN_n (by omega)
          refine mr_aload_n C 49 dX8_row_48 rfl rfl ?_
          refine mr_get C 0 52 dX8_row_49 rfl fl_X8_7 rfl rfl ?_
          refine mr_iload_n C 53 dX8_row_52 rfl rfl ?_
          refine mr_iload_n C 54 dX8_row_53 rfl rfl ?_
          refine mr_iast C 1 r 55 dX8_row_54 rfl rfl rfl (by omega) (by decide) ?_
          refine mr_aload_n C 56 dX8_row_55 rfl rfl ?_
          refine mr_get C 0 59 dX8_row_56 rfl fl_X8_13 rfl rfl ?_
          refine mr_iload_n C 60 dX8_row_59 rfl rfl ?_
          refine mr_iload_n C 61 dX8_row_60 rfl rfl ?_
          refine mr_iast C 2 r 62 dX8_row_61 rfl rfl rfl (by omega) (by decide) ?_
          refine mr_iconst C (nI 0) 63 dX8_row_62 rfl rfl ?_
          refine mr_istore C 65 dX8_row_63 rfl (by decide) ?_
          have L : ∀ k, k ≤ 40 → ∀ f : FN, (∀ y, (y < 40 * r ∨ 40 * r + k ≤ y → f y = im y) ∧ (40 * r ≤ y → y < 40 * r + k → f y = nI 0)) → V E mX8_row (2, 0, 0) Z 0 0 (wM E a ((nI 0)) ((nI 0)) ((upd la r l0)) ((upd mn r (nI n))) f ho fr wa ac tp td lt lg cu tk sr tl fa fp wh go se no al be gn gi gm ik ke tc tr) [(0, .ref (a 0)), (1, .int (nI r)), (3, .int (nI n)), (4, .int (nI k))] [] 65 := by
            refine lp_up 40 ?_
            intro k hk ih f hf
            refine mr_iload C 67 dX8_row_65 rfl rfl ?_
            refine mr_bipush C (nI 40) 69 dX8_row_67 rfl rfl ?_
            refine mr_icmpge C 91 72 dX8_row_69 (by decide) rfl (fun c_69 => ?_) (fun c_69 => ?_)
            · rw [nI_leI (by omega) (by omega)] at c_69
              refine mr_iload_n C 92 dX8_row_91 rfl rfl ?_
              refine mr_iret C dX8_row_92 rfl rfl (by decide) (by decide) hlen ?_
              rw [hO]
              obtain rfl : k = 40 := by omega
              refine ⟨upd la r l0, upd mn r (nI n), f, _, _, rfl, rfl, ?_⟩
              intro v9 it9 th9 ln9 sz9 fd9 hx
              replace hx := (ifP_f (by omega)).mp ((ifP_t (by omega)).mp (hx))
              obtain ⟨g, rfl, hg, hy⟩ := hx
              cases hy
              rw [in_] at hg
              refine ⟨rfl, rfl, ?_⟩
              intro u hu
              simp only [ir_]
              by_cases e : u = r
              · subst e
                obtain ⟨l, hl, hl2⟩ := tI_of (x := l0) (n := 3) (by omega) (by omega)
                refine Or.inr ⟨vu_s, up_s.trans vu_s.symm, ⟨l, hl, vu_s.trans hl2⟩, n, by omega, vu_s, up_s, fun j hj => ?_⟩
                rw [vu_s, hg j hj]; exact (hf (40 * u + j)).2 (by omega) (by omega)
              · rw [vu_n e, vu_n e, vu_n e, vu_n e, up_n e, up_n e]
                rcases hrr u hu with h | ⟨h1, h2, h3, m, h4, h5, h6, h7⟩
                · exact Or.inl h
                · exact Or.inr ⟨h1, h2, h3, m, h4, h5, h6, fun j hj => ((hf (40 * u + j)).1 (by omega)).trans (h7 j hj)⟩
            · rw [nI_leI (by omega) (by omega)] at c_69
              refine mr_aload_n C 73 dX8_row_72 rfl rfl ?_
              refine mr_get C 0 76 dX8_row_73 rfl fl_X8_16 rfl rfl ?_
              refine mr_bipush C (nI 40) 78 dX8_row_76 rfl rfl ?_
              refine mr_iload_n C 79 dX8_row_78 rfl rfl ?_
              refine mr_imul C (nI (40 * r)) 80 dX8_row_79 rfl (pk_mul _ _) ?_
              refine mr_iload C 82 dX8_row_80 rfl rfl ?_
              refine mr_iadd C (nI ((40 * r) + k)) 83 dX8_row_82 rfl (nI_add _ _) ?_
              refine mr_iconst C (nI 0) 84 dX8_row_83 rfl rfl ?_
              refine mr_iast C 3 ((40 * r) + k) 85 dX8_row_84 rfl rfl rfl (by omega) (by decide) ?_
              refine mr_iinc C (nI (k + 1)) 88 dX8_row_85 rfl rfl (by decide) (nI_add k 1) ?_
              refine mr_goto C 65 dX8_row_88 (by decide) ?_
              refine mr_at (ih (by omega) _ ?_) rfl rfl rfl
              intro y
              rw [up_at]
              by_cases e : y = 40 * r + k
              · subst e
                rw [if_pos rfl]
                exact ⟨fun h => by omega, fun _ _ => rfl⟩
              · rw [if_neg e]
                exact ⟨fun h => (hf y).1 (by omega), fun h1 h2 => (hf y).2 h1 (by omega)⟩
          exact mr_at (L 0 (Nat.zero_le _) im (fun y => ⟨fun _ => rfl, fun h1 h2 => absurd h2 (by omega)⟩)) rfl rfl rfl
        · rw [tI_ge0] at c_39
          refine mr_aload_n C 43 dX8_row_42 rfl rfl ?_
          refine mr_iconst C (nI 4) 44 dX8_row_43 rfl rfl ?_
          refine mr_callV C (c_m_finding E a ((nI 0)) ((nI 0)) ac td lt lg cu tk sr tl fa fp gn gi gm tr la mn im ho fr wa tp wh go se no al be ik ke tc 4) [0, 1, 2, 3, 4, 5, 6, 7, 8, 9, 10, 11, 12, 13, 14, 15, 16] 0 8 47 dX8_row_44 rfl mk_X8_finding mi_X8_finding ml_X8_80 rfl rfl rfl rfl rfl (Nat.le_of_ble_eq_true rfl) (by decide) (by decide) (by decide) rfl rfl (fun r w1 hpost => ?_)
          obtain ⟨rfl, rfl⟩ := hpost
          refine mr_w (wput_all _ _ 17 rfl rfl) ?_
          refine mr_iret C dX8_row_47 rfl rfl (by decide) (by decide) hlen ?_
          rw [hO]
          refine ⟨la, mn, im, _, _, rfl, rfl, ?_⟩
          intro v9 it9 th9 ln9 sz9 fd9 hx
          replace hx := (ifP_t (by omega)).mp ((ifP_t (by omega)).mp (hx))
          obtain ⟨rfl, hy⟩ := hx
          cases hy
          exact ⟨rfl, rfl, hrr⟩
      · rw [tI_le (by omega)] at c_27
        refine mr_ldc C 32 dX8_row_30 rfl kc_X8_79 ?_
        refine mr_iret C dX8_row_32 rfl rfl (by decide) (by decide) hlen ?_
        rw [hO]
        refine ⟨la, mn, im, _, _, rfl, rfl, ?_⟩
        intro v9 it9 th9 ln9 sz9 fd9 hx
        replace hx := (ifP_f (by omega)).mp (hx)
        obtain ⟨rfl, hy⟩ := hx
        cases hy
        exact ⟨rfl, rfl, hrr⟩

set_option maxRecDepth 20000 in
set_option maxHeartbeats 4000000 in
theorem c_m_set (E : EG) (a : Nat → Nat) (tn st ac td lt lg cu tk sr tl fa fp gn gi gm tr : Int32) (la mn im ho fr wa tp wh go se no al be ik ke tc : FN) (it : Nat → FN) (th ln sz : FN) (hrr : RRow it th ln sz la mn im) (r0 i0 z0 : Int32) : Ctr E mX8_set (2, 0, 0) [.ref (a 0), .int r0, .int i0, .int z0] (wM E a tn st la mn im ho fr wa ac tp td lt lg cu tk sr tl fa fp wh go se no al be gn gi gm ik ke tc tr) (fun v w => ∃ (la' mn' im' : FN) (st' v2 : Int32), v = some (.int v2) ∧ w = wM E a ((nI 0)) (st') (la') (mn') (im') ho fr wa ac tp td lt lg cu tk sr tl fa fp wh go se no al be gn gi gm ik ke tc tr ∧ ∀ (v' : Int32) (it' : Nat → FN) (th' ln' sz' : FN) (fd' : Int32), NxSet r0 i0 z0 (it, th, ln, sz, st) v' (it', th', ln', sz', fd') → v' = v2 ∧ fd' = st' ∧ RRow it' th' ln' sz' la' mn' im') := by
  refine Ctr.of (by decide) (Nat.le_of_ble_eq_true rfl) ?_
  intro Z hO hn C
  have hlen : zn Z ≤ 17 := by rw [hn]; exact Nat.le_of_ble_eq_true rfl
  refine mr_aload_n C 1 dX8_set_0 rfl rfl ?_
  refine mr_iconst C (nI 0) 2 dX8_set_1 rfl rfl ?_
  refine mr_put C 0 5 dX8_set_2 rfl fs_X8_59 rfl rfl rfl (Nat.le_of_ble_eq_true rfl) ?_
  refine mr_w (ws' := wM E a ((nI 0)) st la mn im ho fr wa ac tp td lt lg cu tk sr tl fa fp wh go se no al be gn gi gm ik ke tc tr) rfl ?_
  refine mr_iload_n C 6 dX8_set_5 rfl rfl ?_
  refine mr_callS C (c_m_isRow E r0) [] 9 dX8_set_6 rfl mk_X8_isRow ms_X8_isRow ml_X8_73 rfl rfl rfl rfl (Nat.le_of_ble_eq_true rfl) (by decide) (by decide) (by decide) (fun r w1 hpost => ?_)
  obtain ⟨rfl, rfl⟩ := hpost
  refine mr_w (ws' := wM E a ((nI 0)) st la mn im ho fr wa ac tp td lt lg cu tk sr tl fa fp wh go se no al be gn gi gm ik ke tc tr) rfl ?_
  refine mr_ifne C 15 12 dX8_set_9 (by decide) rfl (fun c_9 => ?_) (fun c_9 => ?_)
  · rw [bI_ne] at c_9
    refine mr_aload_n C 16 dX8_set_15 rfl rfl ?_
    refine mr_iconst C (nI 0) 17 dX8_set_16 rfl rfl ?_
    refine mr_put C 0 20 dX8_set_17 rfl fs_X8_63 rfl rfl rfl (Nat.le_of_ble_eq_true rfl) ?_
    refine mr_w (ws' := wM E a ((nI 0)) ((nI 0)) la mn im ho fr wa ac tp td lt lg cu tk sr tl fa fp wh go se no al be gn gi gm ik ke tc tr) rfl ?_
    obtain ⟨r, hr, rfl⟩ := tI_of (x := r0) (n := 8) (by omega) (by omega)
    have er : (nI r).toInt = (r : Int) := tI_n (by omega)
    have ir_ : iN (nI r) = r := iN_n (by omega)
    refine mr_aload_n C 21 dX8_set_20 rfl rfl ?_
    refine mr_get C 0 24 dX8_set_21 rfl fl_X8_7 rfl rfl ?_
    refine mr_iload_n C 25 dX8_set_24 rfl rfl ?_
    refine mr_iald C 1 r 26 dX8_set_25 rfl rfl rfl (by omega) (by decide) ?_
    refine mr_ifge C 35 29 dX8_set_26 (by decide) rfl (fun c_26 => ?_) (fun c_26 => ?_)
    · have hth := hrr.at hr c_26
      obtain ⟨h1, h2, ⟨lq, hlq, hlq2⟩, n, hn9, hsz, hmn, him⟩ := hth
      have en : (nI n).toInt = (n : Int) := tI_n (by omega)
      refine mr_iload_n C 36 dX8_set_35 rfl rfl ?_
      refine mr_i2l C _ 37 dX8_set_36 rfl rfl ?_
      refine mr_lconst C 0 38 dX8_set_37 rfl rfl ?_
      refine mr_aload_n C 39 dX8_set_38 rfl rfl ?_
      refine mr_get C 0 42 dX8_set_39 rfl fl_X8_13 rfl rfl ?_
      refine mr_iload_n C 43 dX8_set_42 rfl rfl ?_
      refine mr_iale C 2 r (nI n) 44 dX8_set_43 rfl rfl rfl (by omega) (by decide) hmn ?_
      refine mr_iconst C (nI 1) 45 dX8_set_44 rfl rfl ?_
      refine mr_isub C (nI n - nI 1) 46 dX8_set_45 rfl rfl ?_
      refine mr_i2l C _ 47 dX8_set_46 rfl rfl ?_
      refine mr_callS C (c_inK E i0 (0) ((n : Int) - 1) _ _ rfl (ends1 (by omega))) [] 50 dX8_set_47 rfl mk_X8_in ms_X8_in ml_X8_69 rfl rfl rfl rfl (Nat.le_of_ble_eq_true rfl) (by decide) (by decide) (by decide) (fun r w1 hpost => ?_)
      obtain ⟨rfl, rfl⟩ := hpost
      refine mr_w (ws' := wM E a ((nI 0)) ((nI 0)) la mn im ho fr wa ac tp td lt lg cu tk sr tl fa fp wh go se no al be gn gi gm ik ke tc tr) rfl ?_
      refine mr_ifne C 59 53 dX8_set_50 (by decide) rfl (fun c_50 => ?_) (fun c_50 => ?_)
      · rw [bI_ne] at c_50
        obtain ⟨i, hi, rfl⟩ := tI_of (x := i0) (n := 40) (by omega) (by omega)
        have ei : (nI i).toInt = (i : Int) := tI_n (by omega)
        have ii_ : iN (nI i) = i := iN_n (by omega)
        refine mr_aload_n C 60 dX8_set_59 rfl rfl ?_
        refine mr_get C 0 63 dX8_set_60 rfl fl_X8_16 rfl rfl ?_
        refine mr_bipush C (nI 40) 65 dX8_set_63 rfl rfl ?_
        refine mr_iload_n C 66 dX8_set_65 rfl rfl ?_
        refine mr_imul C (nI (40 * r)) 67 dX8_set_66 rfl (pk_mul _ _) ?_
        refine mr_iload_n C 68 dX8_set_67 rfl rfl ?_
        refine mr_iadd C (nI ((40 * r) + i)) 69 dX8_set_68 rfl (nI_add _ _) ?_
        refine mr_aload_n C 70 dX8_set_69 rfl rfl ?_
        refine mr_get C 0 73 dX8_set_70 rfl fl_X8_7 rfl rfl ?_
        refine mr_iload_n C 74 dX8_set_73 rfl rfl ?_
        refine mr_iald C 1 r 75 dX8_set_74 rfl rfl rfl (by omega) (by decide) ?_
        refine mr_ifne C 83 78 dX8_set_75 (by decide) rfl (fun c_75 => ?_) (fun c_75 => ?_)
        · refine mr_aload_n C 84 dX8_set_83 rfl rfl ?_
          refine mr_get C 0 87 dX8_set_84 rfl fl_X8_7 rfl rfl ?_
          refine mr_iload_n C 88 dX8_set_87 rfl rfl ?_
          refine mr_iald C 1 r 89 dX8_set_88 rfl rfl rfl (by omega) (by decide) ?_
          refine mr_iconst C (nI 1) 90 dX8_set_89 rfl rfl ?_
          refine mr_icmpne C 98 93 dX8_set_90 (by decide) rfl (fun c_90 => ?_) (fun c_90 => ?_)
          · refine mr_iload_n C 99 dX8_set_98 rfl rfl ?_
            refine mr_iast C 3 ((40 * r) + i) 100 dX8_set_99 rfl rfl rfl (by omega) (by decide) ?_
            refine mr_aload_n C 101 dX8_set_100 rfl rfl ?_
            refine mr_get C 0 104 dX8_set_101 rfl fl_X8_16 rfl rfl ?_
            refine mr_bipush C (nI 40) 106 dX8_set_104 rfl rfl ?_
            refine mr_iload_n C 107 dX8_set_106 rfl rfl ?_
            refine mr_imul C (nI (40 * r)) 108 dX8_set_107 rfl (pk_mul _ _) ?_
            refine mr_iload_n C 109 dX8_set_108 rfl rfl ?_
            refine mr_iadd C (nI ((40 * r) + i)) 110 dX8_set_109 rfl (nI_add _ _) ?_
            refine mr_iald C 3 ((40 * r) + i) 111 dX8_set_110 rfl rfl rfl (by omega) (by decide) ?_
            refine mr_iret C dX8_set_111 rfl rfl (by decide) (by decide) hlen ?_
            rw [hO]
            have hkp : kpS (ln r) z0 = z0 := (if_neg (h2 ▸ c_75)).trans (if_neg (h2 ▸ c_90))
            refine ⟨la, mn, upd im (40 * r + i) (z0), _, _, rfl, rfl, ?_⟩
            intro v9 it9 th9 ln9 sz9 fd9 hx
            replace hx := (ifP_t (by rw [ir_]; show _ ∧ _ < (sz r).toInt; rw [hsz]; omega)).mp ((ifP_f (by rw [ir_]; exact th_01 h1)).mp ((ifP_t (by omega)).mp (hx)))
            obtain ⟨rfl, hy⟩ := hx
            cases hy
            rw [ir_, ii_]
            refine ⟨hkp.trans up_s.symm, rfl, ?_⟩
            intro u hu
            by_cases e : u = r
            · subst e
              refine Or.inr ⟨h1, h2, ⟨lq, hlq, hlq2⟩, n, hn9, hsz, hmn, fun j hj => ?_⟩
              rw [vu_s, up_at, up_at, hkp]
              by_cases e2 : j = i
              · rw [if_pos e2, if_pos (by omega)]
              · rw [if_neg e2, if_neg (by omega)]; exact him j hj
            · rw [vu_n e]
              rcases hrr u hu with h | ⟨g1, g2, g3, m, g4, g5, g6, g7⟩
              · exact Or.inl h
              · exact Or.inr ⟨g1, g2, g3, m, g4, g5, g6, fun j hj => (up_n (by omega)).trans (g7 j hj)⟩
          · refine mr_iload_n C 94 dX8_set_93 rfl rfl ?_
            refine mr_i2s C _ 95 dX8_set_94 rfl rfl ?_
            refine mr_goto C 99 dX8_set_95 (by decide) ?_
            refine mr_iast C 3 ((40 * r) + i) 100 dX8_set_99 rfl rfl rfl (by omega) (by decide) ?_
            refine mr_aload_n C 101 dX8_set_100 rfl rfl ?_
            refine mr_get C 0 104 dX8_set_101 rfl fl_X8_16 rfl rfl ?_
            refine mr_bipush C (nI 40) 106 dX8_set_104 rfl rfl ?_
            refine mr_iload_n C 107 dX8_set_106 rfl rfl ?_
            refine mr_imul C (nI (40 * r)) 108 dX8_set_107 rfl (pk_mul _ _) ?_
            refine mr_iload_n C 109 dX8_set_108 rfl rfl ?_
            refine mr_iadd C (nI ((40 * r) + i)) 110 dX8_set_109 rfl (nI_add _ _) ?_
            refine mr_iald C 3 ((40 * r) + i) 111 dX8_set_110 rfl rfl rfl (by omega) (by decide) ?_
            refine mr_iret C dX8_set_111 rfl rfl (by decide) (by decide) hlen ?_
            rw [hO]
            have hkp : kpS (ln r) z0 = z0.toInt16.toInt32 := (if_neg (h2 ▸ c_75)).trans (if_pos (h2 ▸ c_90))
            refine ⟨la, mn, upd im (40 * r + i) (z0.toInt16.toInt32), _, _, rfl, rfl, ?_⟩
            intro v9 it9 th9 ln9 sz9 fd9 hx
            replace hx := (ifP_t (by rw [ir_]; show _ ∧ _ < (sz r).toInt; rw [hsz]; omega)).mp ((ifP_f (by rw [ir_]; exact th_01 h1)).mp ((ifP_t (by omega)).mp (hx)))
            obtain ⟨rfl, hy⟩ := hx
            cases hy
            rw [ir_, ii_]
            refine ⟨hkp.trans up_s.symm, rfl, ?_⟩
            intro u hu
            by_cases e : u = r
            · subst e
              refine Or.inr ⟨h1, h2, ⟨lq, hlq, hlq2⟩, n, hn9, hsz, hmn, fun j hj => ?_⟩
              rw [vu_s, up_at, up_at, hkp]
              by_cases e2 : j = i
              · rw [if_pos e2, if_pos (by omega)]
              · rw [if_neg e2, if_neg (by omega)]; exact him j hj
            · rw [vu_n e]
              rcases hrr u hu with h | ⟨g1, g2, g3, m, g4, g5, g6, g7⟩
              · exact Or.inl h
              · exact Or.inr ⟨g1, g2, g3, m, g4, g5, g6, fun j hj => (up_n (by omega)).trans (g7 j hj)⟩
        · refine mr_iload_n C 79 dX8_set_78 rfl rfl ?_
          refine mr_i2b C _ 80 dX8_set_79 rfl rfl ?_
          refine mr_goto C 99 dX8_set_80 (by decide) ?_
          refine mr_iast C 3 ((40 * r) + i) 100 dX8_set_99 rfl rfl rfl (by omega) (by decide) ?_
          refine mr_aload_n C 101 dX8_set_100 rfl rfl ?_
          refine mr_get C 0 104 dX8_set_101 rfl fl_X8_16 rfl rfl ?_
          refine mr_bipush C (nI 40) 106 dX8_set_104 rfl rfl ?_
          refine mr_iload_n C 107 dX8_set_106 rfl rfl ?_
          refine mr_imul C (nI (40 * r)) 108 dX8_set_107 rfl (pk_mul _ _) ?_
          refine mr_iload_n C 109 dX8_set_108 rfl rfl ?_
          refine mr_iadd C (nI ((40 * r) + i)) 110 dX8_set_109 rfl (nI_add _ _) ?_
          refine mr_iald C 3 ((40 * r) + i) 111 dX8_set_110 rfl rfl rfl (by omega) (by decide) ?_
          refine mr_iret C dX8_set_111 rfl rfl (by decide) (by decide) hlen ?_
          rw [hO]
          have hkp : kpS (ln r) z0 = z0.toInt8.toInt32 := if_pos (h2 ▸ c_75)
          refine ⟨la, mn, upd im (40 * r + i) (z0.toInt8.toInt32), _, _, rfl, rfl, ?_⟩
          intro v9 it9 th9 ln9 sz9 fd9 hx
          replace hx := (ifP_t (by rw [ir_]; show _ ∧ _ < (sz r).toInt; rw [hsz]; omega)).mp ((ifP_f (by rw [ir_]; exact th_01 h1)).mp ((ifP_t (by omega)).mp (hx)))
          obtain ⟨rfl, hy⟩ := hx
          cases hy
          rw [ir_, ii_]
          refine ⟨hkp.trans up_s.symm, rfl, ?_⟩
          intro u hu
          by_cases e : u = r
          · subst e
            refine Or.inr ⟨h1, h2, ⟨lq, hlq, hlq2⟩, n, hn9, hsz, hmn, fun j hj => ?_⟩
            rw [vu_s, up_at, up_at, hkp]
            by_cases e2 : j = i
            · rw [if_pos e2, if_pos (by omega)]
            · rw [if_neg e2, if_neg (by omega)]; exact him j hj
          · rw [vu_n e]
            rcases hrr u hu with h | ⟨g1, g2, g3, m, g4, g5, g6, g7⟩
            · exact Or.inl h
            · exact Or.inr ⟨g1, g2, g3, m, g4, g5, g6, fun j hj => (up_n (by omega)).trans (g7 j hj)⟩
      · rw [bI_eq] at c_50
        refine mr_aload_n C 54 dX8_set_53 rfl rfl ?_
        refine mr_iconst C (nI 2) 55 dX8_set_54 rfl rfl ?_
        refine mr_callV C (c_m_finding E a ((nI 0)) ((nI 0)) ac td lt lg cu tk sr tl fa fp gn gi gm tr la mn im ho fr wa tp wh go se no al be ik ke tc 2) [0, 1, 2, 3, 4, 5, 6, 7, 8, 9, 10, 11, 12, 13, 14, 15, 16] 0 8 58 dX8_set_55 rfl mk_X8_finding mi_X8_finding ml_X8_80 rfl rfl rfl rfl rfl (Nat.le_of_ble_eq_true rfl) (by decide) (by decide) (by decide) rfl rfl (fun r w1 hpost => ?_)
        obtain ⟨rfl, rfl⟩ := hpost
        refine mr_w (wput_all _ _ 17 rfl rfl) ?_
        refine mr_iret C dX8_set_58 rfl rfl (by decide) (by decide) hlen ?_
        rw [hO]
        refine ⟨la, mn, im, _, _, rfl, rfl, ?_⟩
        intro v9 it9 th9 ln9 sz9 fd9 hx
        replace hx := (ifP_f (by rw [ir_]; show ¬ (_ ∧ _ < (sz r).toInt); rw [hsz]; omega)).mp ((ifP_f (by rw [ir_]; exact th_01 h1)).mp ((ifP_t (by omega)).mp (hx)))
        obtain ⟨rfl, hy⟩ := hx
        cases hy
        exact ⟨rfl, rfl, hrr⟩
    · refine mr_aload_n C 30 dX8_set_29 rfl rfl ?_
      refine mr_iconst C (nI 1) 31 dX8_set_30 rfl rfl ?_
      refine mr_callV C (c_m_finding E a ((nI 0)) ((nI 0)) ac td lt lg cu tk sr tl fa fp gn gi gm tr la mn im ho fr wa tp wh go se no al be ik ke tc 1) [0, 1, 2, 3, 4, 5, 6, 7, 8, 9, 10, 11, 12, 13, 14, 15, 16] 0 8 34 dX8_set_31 rfl mk_X8_finding mi_X8_finding ml_X8_80 rfl rfl rfl rfl rfl (Nat.le_of_ble_eq_true rfl) (by decide) (by decide) (by decide) rfl rfl (fun r w1 hpost => ?_)
      obtain ⟨rfl, rfl⟩ := hpost
      refine mr_w (wput_all _ _ 17 rfl rfl) ?_
      refine mr_iret C dX8_set_34 rfl rfl (by decide) (by decide) hlen ?_
      rw [hO]
      refine ⟨la, mn, im, _, _, rfl, rfl, ?_⟩
      intro v9 it9 th9 ln9 sz9 fd9 hx
      replace hx := (ifP_t (by rw [ir_]; exact hrr.is hr c_26)).mp ((ifP_t (by omega)).mp (hx))
      obtain ⟨rfl, hy⟩ := hx
      cases hy
      exact ⟨rfl, rfl, hrr⟩
  · rw [bI_eq] at c_9
    refine mr_ldc C 14 dX8_set_12 rfl kc_X8_79 ?_
    refine mr_iret C dX8_set_14 rfl rfl (by decide) (by decide) hlen ?_
    rw [hO]
    refine ⟨la, mn, im, _, _, rfl, rfl, ?_⟩
    intro v9 it9 th9 ln9 sz9 fd9 hx
    replace hx := (ifP_f (by omega)).mp (hx)
    obtain ⟨rfl, hy⟩ := hx
    cases hy
    exact ⟨rfl, rfl, hrr⟩

set_option maxRecDepth 20000 in
set_option maxHeartbeats 4000000 in
theorem c_m_drop (E : EG) (a : Nat → Nat) (tn st ac td lt lg cu tk sr tl fa fp gn gi gm tr : Int32) (la mn im ho fr wa tp wh go se no al be ik ke tc : FN) (it : Nat → FN) (th ln sz : FN) (hrr : RRow it th ln sz la mn im) (r0 : Int32) : Ctr E mX8_drop (2, 0, 0) [.ref (a 0), .int r0] (wM E a tn st la mn im ho fr wa ac tp td lt lg cu tk sr tl fa fp wh go se no al be gn gi gm ik ke tc tr) (fun v w => ∃ (la' mn' im' : FN) (st' v2 : Int32), v = some (.int v2) ∧ w = wM E a ((nI 0)) (st') (la') (mn') (im') ho fr wa ac tp td lt lg cu tk sr tl fa fp wh go se no al be gn gi gm ik ke tc tr ∧ ∀ (v' : Int32) (it' : Nat → FN) (th' ln' sz' : FN) (fd' : Int32), NxDrop r0 (it, th, ln, sz, st) v' (it', th', ln', sz', fd') → v' = v2 ∧ fd' = st' ∧ RRow it' th' ln' sz' la' mn' im') := by
  refine Ctr.of (by decide) (Nat.le_of_ble_eq_true rfl) ?_
  intro Z hO hn C
  have hlen : zn Z ≤ 17 := by rw [hn]; exact Nat.le_of_ble_eq_true rfl
  refine mr_aload_n C 1 dX8_drop_0 rfl rfl ?_
  refine mr_iconst C (nI 0) 2 dX8_drop_1 rfl rfl ?_
  refine mr_put C 0 5 dX8_drop_2 rfl fs_X8_59 rfl rfl rfl (Nat.le_of_ble_eq_true rfl) ?_
  refine mr_w (ws' := wM E a ((nI 0)) st la mn im ho fr wa ac tp td lt lg cu tk sr tl fa fp wh go se no al be gn gi gm ik ke tc tr) rfl ?_
  refine mr_iload_n C 6 dX8_drop_5 rfl rfl ?_
  refine mr_callS C (c_m_isRow E r0) [] 9 dX8_drop_6 rfl mk_X8_isRow ms_X8_isRow ml_X8_73 rfl rfl rfl rfl (Nat.le_of_ble_eq_true rfl) (by decide) (by decide) (by decide) (fun r w1 hpost => ?_)
  obtain ⟨rfl, rfl⟩ := hpost
  refine mr_w (ws' := wM E a ((nI 0)) st la mn im ho fr wa ac tp td lt lg cu tk sr tl fa fp wh go se no al be gn gi gm ik ke tc tr) rfl ?_
  refine mr_ifne C 15 12 dX8_drop_9 (by decide) rfl (fun c_9 => ?_) (fun c_9 => ?_)
  · rw [bI_ne] at c_9
    refine mr_aload_n C 16 dX8_drop_15 rfl rfl ?_
    refine mr_iconst C (nI 0) 17 dX8_drop_16 rfl rfl ?_
    refine mr_put C 0 20 dX8_drop_17 rfl fs_X8_63 rfl rfl rfl (Nat.le_of_ble_eq_true rfl) ?_
    refine mr_w (ws' := wM E a ((nI 0)) ((nI 0)) la mn im ho fr wa ac tp td lt lg cu tk sr tl fa fp wh go se no al be gn gi gm ik ke tc tr) rfl ?_
    obtain ⟨r, hr, rfl⟩ := tI_of (x := r0) (n := 8) (by omega) (by omega)
    have er : (nI r).toInt = (r : Int) := tI_n (by omega)
    have ir_ : iN (nI r) = r := iN_n (by omega)
    refine mr_aload_n C 21 dX8_drop_20 rfl rfl ?_
    refine mr_get C 0 24 dX8_drop_21 rfl fl_X8_7 rfl rfl ?_
    refine mr_iload_n C 25 dX8_drop_24 rfl rfl ?_
    refine mr_iald C 1 r 26 dX8_drop_25 rfl rfl rfl (by omega) (by decide) ?_
    refine mr_ifge C 35 29 dX8_drop_26 (by decide) rfl (fun c_26 => ?_) (fun c_26 => ?_)
    · have hth := hrr.at hr c_26
      obtain ⟨h1, h2, ⟨lq, hlq, hlq2⟩, n, hn9, hsz, hmn, him⟩ := hth
      refine mr_aload_n C 36 dX8_drop_35 rfl rfl ?_
      refine mr_get C 0 39 dX8_drop_36 rfl fl_X8_7 rfl rfl ?_
      refine mr_iload_n C 40 dX8_drop_39 rfl rfl ?_
      refine mr_iconst C (-1) 41 dX8_drop_40 rfl rfl ?_
      refine mr_iast C 1 r 42 dX8_drop_41 rfl rfl rfl (by omega) (by decide) ?_
      refine mr_aload_n C 43 dX8_drop_42 rfl rfl ?_
      refine mr_get C 0 46 dX8_drop_43 rfl fl_X8_13 rfl rfl ?_
      refine mr_iload_n C 47 dX8_drop_46 rfl rfl ?_
      refine mr_iald C 2 r 48 dX8_drop_47 rfl rfl rfl (by omega) (by decide) ?_
      refine mr_iret C dX8_drop_48 rfl rfl (by decide) (by decide) hlen ?_
      rw [hO]
      refine ⟨upd la r (-1), mn, im, _, _, rfl, rfl, ?_⟩
      intro v9 it9 th9 ln9 sz9 fd9 hx
      replace hx := (ifP_f (by rw [ir_]; exact th_01 h1)).mp ((ifP_t (by omega)).mp (hx))
      obtain ⟨rfl, hy⟩ := hx
      cases hy
      rw [ir_]
      refine ⟨hsz.trans hmn.symm, rfl, ?_⟩
      intro u hu
      by_cases e : u = r
      · subst e; exact Or.inl ⟨vu_s, up_s⟩
      · rw [vu_n e, up_n e]; exact hrr u hu
    · refine mr_aload_n C 30 dX8_drop_29 rfl rfl ?_
      refine mr_iconst C (nI 1) 31 dX8_drop_30 rfl rfl ?_
      refine mr_callV C (c_m_finding E a ((nI 0)) ((nI 0)) ac td lt lg cu tk sr tl fa fp gn gi gm tr la mn im ho fr wa tp wh go se no al be ik ke tc 1) [0, 1, 2, 3, 4, 5, 6, 7, 8, 9, 10, 11, 12, 13, 14, 15, 16] 0 8 34 dX8_drop_31 rfl mk_X8_finding mi_X8_finding ml_X8_80 rfl rfl rfl rfl rfl (Nat.le_of_ble_eq_true rfl) (by decide) (by decide) (by decide) rfl rfl (fun r w1 hpost => ?_)
      obtain ⟨rfl, rfl⟩ := hpost
      refine mr_w (wput_all _ _ 17 rfl rfl) ?_
      refine mr_iret C dX8_drop_34 rfl rfl (by decide) (by decide) hlen ?_
      rw [hO]
      refine ⟨la, mn, im, _, _, rfl, rfl, ?_⟩
      intro v9 it9 th9 ln9 sz9 fd9 hx
      replace hx := (ifP_t (by rw [ir_]; exact hrr.is hr c_26)).mp ((ifP_t (by omega)).mp (hx))
      obtain ⟨rfl, hy⟩ := hx
      cases hy
      exact ⟨rfl, rfl, hrr⟩
  · rw [bI_eq] at c_9
    refine mr_ldc C 14 dX8_drop_12 rfl kc_X8_79 ?_
    refine mr_iret C dX8_drop_14 rfl rfl (by decide) (by decide) hlen ?_
    rw [hO]
    refine ⟨la, mn, im, _, _, rfl, rfl, ?_⟩
    intro v9 it9 th9 ln9 sz9 fd9 hx
    replace hx := (ifP_f (by omega)).mp (hx)
    obtain ⟨rfl, hy⟩ := hx
    cases hy
    exact ⟨rfl, rfl, hrr⟩

theorem addL {x y : Int32} (h1 : 0 ≤ x.toInt) (h2 : 0 ≤ y.toInt) : (x.toInt64 + y.toInt64).toInt = x.toInt + y.toInt := by
  rw [Int64.toInt_add, tL, tL]
  have h3 := Int32.toInt_lt x; have h4 := Int32.toInt_lt y
  refine Int.bmod_eq_of_le ?_ ?_ <;> omega
set_option maxRecDepth 20000 in
set_option maxHeartbeats 4000000 in
theorem c_m_copy (E : EG) (a : Nat → Nat) (tn st ac td lt lg cu tk sr tl fa fp gn gi gm tr : Int32) (la mn im ho fr wa tp wh go se no al be ik ke tc : FN) (it : Nat → FN) (th ln sz : FN) (hrr : RRow it th ln sz la mn im) (r0 i0 u0 j0 n0 : Int32) : Ctr E mX8_copy (2, 0, 0) [.ref (a 0), .int r0, .int i0, .int u0, .int j0, .int n0] (wM E a tn st la mn im ho fr wa ac tp td lt lg cu tk sr tl fa fp wh go se no al be gn gi gm ik ke tc tr) (fun v w => ∃ (la' mn' im' : FN) (st' v2 : Int32), v = some (.int v2) ∧ w = wM E a ((nI 0)) (st') (la') (mn') (im') ho fr wa ac tp td lt lg cu tk sr tl fa fp wh go se no al be gn gi gm ik ke tc tr ∧ ∀ (v' : Int32) (it' : Nat → FN) (th' ln' sz' : FN) (fd' : Int32), NxCopy r0 i0 u0 j0 n0 (it, th, ln, sz, st) v' (it', th', ln', sz', fd') → v' = v2 ∧ fd' = st' ∧ RRow it' th' ln' sz' la' mn' im') := by
  refine Ctr.of (by decide) (Nat.le_of_ble_eq_true rfl) ?_
  intro Z hO hn C
  have hlen : zn Z ≤ 17 := by rw [hn]; exact Nat.le_of_ble_eq_true rfl
  refine mr_aload_n C 1 dX8_copy_0 rfl rfl ?_
  refine mr_iconst C (nI 0) 2 dX8_copy_1 rfl rfl ?_
  refine mr_put C 0 5 dX8_copy_2 rfl fs_X8_59 rfl rfl rfl (Nat.le_of_ble_eq_true rfl) ?_
  refine mr_w (ws' := wM E a ((nI 0)) st la mn im ho fr wa ac tp td lt lg cu tk sr tl fa fp wh go se no al be gn gi gm ik ke tc tr) rfl ?_
  refine mr_iload_n C 6 dX8_copy_5 rfl rfl ?_
  refine mr_callS C (c_m_isRow E r0) [] 9 dX8_copy_6 rfl mk_X8_isRow ms_X8_isRow ml_X8_73 rfl rfl rfl rfl (Nat.le_of_ble_eq_true rfl) (by decide) (by decide) (by decide) (fun r w1 hpost => ?_)
  obtain ⟨rfl, rfl⟩ := hpost
  refine mr_w (ws' := wM E a ((nI 0)) st la mn im ho fr wa ac tp td lt lg cu tk sr tl fa fp wh go se no al be gn gi gm ik ke tc tr) rfl ?_
  refine mr_ifeq C 19 12 dX8_copy_9 (by decide) rfl (fun c_9 => ?_) (fun c_9 => ?_)
  · rw [bI_eq] at c_9
    refine mr_ldc C 21 dX8_copy_19 rfl kc_X8_79 ?_
    refine mr_iret C dX8_copy_21 rfl rfl (by decide) (by decide) hlen ?_
    rw [hO]
    refine ⟨la, mn, im, _, _, rfl, rfl, ?_⟩
    intro v9 it9 th9 ln9 sz9 fd9 hx
    replace hx := (ifP_f (by omega)).mp (hx)
    obtain ⟨rfl, hy⟩ := hx
    cases hy
    exact ⟨rfl, rfl, hrr⟩
  · rw [← Ne, bI_ne] at c_9
    refine mr_iload_n C 13 dX8_copy_12 rfl rfl ?_
    refine mr_callS C (c_m_isRow E u0) [] 16 dX8_copy_13 rfl mk_X8_isRow ms_X8_isRow ml_X8_73 rfl rfl rfl rfl (Nat.le_of_ble_eq_true rfl) (by decide) (by decide) (by decide) (fun r w1 hpost => ?_)
    obtain ⟨rfl, rfl⟩ := hpost
    refine mr_w (ws' := wM E a ((nI 0)) st la mn im ho fr wa ac tp td lt lg cu tk sr tl fa fp wh go se no al be gn gi gm ik ke tc tr) rfl ?_
    refine mr_ifne C 22 19 dX8_copy_16 (by decide) rfl (fun c_16 => ?_) (fun c_16 => ?_)
    · rw [bI_ne] at c_16
      refine mr_aload_n C 23 dX8_copy_22 rfl rfl ?_
      refine mr_iconst C (nI 0) 24 dX8_copy_23 rfl rfl ?_
      refine mr_put C 0 27 dX8_copy_24 rfl fs_X8_63 rfl rfl rfl (Nat.le_of_ble_eq_true rfl) ?_
      refine mr_w (ws' := wM E a ((nI 0)) ((nI 0)) la mn im ho fr wa ac tp td lt lg cu tk sr tl fa fp wh go se no al be gn gi gm ik ke tc tr) rfl ?_
      obtain ⟨r, hr, rfl⟩ := tI_of (x := r0) (n := 8) (by omega) (by omega)
      have er : (nI r).toInt = (r : Int) := tI_n (by omega)
      have ir_ : iN (nI r) = r := iN_n (by omega)
      obtain ⟨u, hu, rfl⟩ := tI_of (x := u0) (n := 8) (by omega) (by omega)
      have eu : (nI u).toInt = (u : Int) := tI_n (by omega)
      have iu_ : iN (nI u) = u := iN_n (by omega)
      refine mr_aload_n C 28 dX8_copy_27 rfl rfl ?_
      refine mr_get C 0 31 dX8_copy_28 rfl fl_X8_7 rfl rfl ?_
      refine mr_iload_n C 32 dX8_copy_31 rfl rfl ?_
      refine mr_iald C 1 r 33 dX8_copy_32 rfl rfl rfl (by omega) (by decide) ?_
      refine mr_iflt C 45 36 dX8_copy_33 (by decide) rfl (fun c_33 => ?_) (fun c_33 => ?_)
      · have c_33 : ¬ 0 ≤ la r := Int32.not_le.mpr c_33
        refine mr_aload_n C 46 dX8_copy_45 rfl rfl ?_
        refine mr_iconst C (nI 1) 47 dX8_copy_46 rfl rfl ?_
        refine mr_callV C (c_m_finding E a ((nI 0)) ((nI 0)) ac td lt lg cu tk sr tl fa fp gn gi gm tr la mn im ho fr wa tp wh go se no al be ik ke tc 1) [0, 1, 2, 3, 4, 5, 6, 7, 8, 9, 10, 11, 12, 13, 14, 15, 16] 0 8 50 dX8_copy_47 rfl mk_X8_finding mi_X8_finding ml_X8_80 rfl rfl rfl rfl rfl (Nat.le_of_ble_eq_true rfl) (by decide) (by decide) (by decide) rfl rfl (fun r w1 hpost => ?_)
        obtain ⟨rfl, rfl⟩ := hpost
        refine mr_w (wput_all _ _ 17 rfl rfl) ?_
        refine mr_iret C dX8_copy_50 rfl rfl (by decide) (by decide) hlen ?_
        rw [hO]
        refine ⟨la, mn, im, _, _, rfl, rfl, ?_⟩
        intro v9 it9 th9 ln9 sz9 fd9 hx
        replace hx := (ifP_t (by rw [ir_]; exact Or.inl (hrr.is hr c_33))).mp ((ifP_t (by omega)).mp (hx))
        obtain ⟨rfl, hy⟩ := hx
        cases hy
        exact ⟨rfl, rfl, hrr⟩
      · have c_33 : 0 ≤ la r := Int32.not_lt.mp c_33
        refine mr_aload_n C 37 dX8_copy_36 rfl rfl ?_
        refine mr_get C 0 40 dX8_copy_37 rfl fl_X8_7 rfl rfl ?_
        refine mr_iload_n C 41 dX8_copy_40 rfl rfl ?_
        refine mr_iald C 1 u 42 dX8_copy_41 rfl rfl rfl (by omega) (by decide) ?_
        refine mr_ifge C 51 45 dX8_copy_42 (by decide) rfl (fun c_42 => ?_) (fun c_42 => ?_)
        · obtain ⟨h1, h2, ⟨lq, hlq, hlq2⟩, m, hm9, hsz, hmn, him⟩ := hrr.at hr c_33
          obtain ⟨g1, g2, ⟨lq2, glq, glq2⟩, m2, gm9, gsz, gmn, gim⟩ := hrr.at hu c_42
          have em : (nI m).toInt = (m : Int) := tI_n (by omega)
          have em2 : (nI m2).toInt = (m2 : Int) := tI_n (by omega)
          refine mr_aload_n C 52 dX8_copy_51 rfl rfl ?_
          refine mr_get C 0 55 dX8_copy_52 rfl fl_X8_7 rfl rfl ?_
          refine mr_iload_n C 56 dX8_copy_55 rfl rfl ?_
          refine mr_iald C 1 r 57 dX8_copy_56 rfl rfl rfl (by omega) (by decide) ?_
          refine mr_aload_n C 58 dX8_copy_57 rfl rfl ?_
          refine mr_get C 0 61 dX8_copy_58 rfl fl_X8_7 rfl rfl ?_
          refine mr_iload_n C 62 dX8_copy_61 rfl rfl ?_
          refine mr_iald C 1 u 63 dX8_copy_62 rfl rfl rfl (by omega) (by decide) ?_
          refine mr_icmpeq C 72 66 dX8_copy_63 (by decide) rfl (fun c_63 => ?_) (fun c_63 => ?_)
          · refine mr_iload_n C 73 dX8_copy_72 rfl rfl ?_
            refine mr_iflt C 121 76 dX8_copy_73 (by decide) rfl (fun c_73 => ?_) (fun c_73 => ?_)
            · rw [tI_lt0] at c_73
              refine mr_aload_n C 122 dX8_copy_121 rfl rfl ?_
              refine mr_iconst C (nI 2) 123 dX8_copy_122 rfl rfl ?_
              refine mr_callV C (c_m_finding E a ((nI 0)) ((nI 0)) ac td lt lg cu tk sr tl fa fp gn gi gm tr la mn im ho fr wa tp wh go se no al be ik ke tc 2) [0, 1, 2, 3, 4, 5, 6, 7, 8, 9, 10, 11, 12, 13, 14, 15, 16] 0 8 126 dX8_copy_123 rfl mk_X8_finding mi_X8_finding ml_X8_80 rfl rfl rfl rfl rfl (Nat.le_of_ble_eq_true rfl) (by decide) (by decide) (by decide) rfl rfl (fun r w1 hpost => ?_)
              obtain ⟨rfl, rfl⟩ := hpost
              refine mr_w (wput_all _ _ 17 rfl rfl) ?_
              refine mr_iret C dX8_copy_126 rfl rfl (by decide) (by decide) hlen ?_
              rw [hO]
              refine ⟨la, mn, im, _, _, rfl, rfl, ?_⟩
              intro v9 it9 th9 ln9 sz9 fd9 hx
              replace hx := (ifP_f (by rw [ir_, iu_]; show ¬ (_ ∧ _ ∧ _ ≤ (sz r).toInt ∧ _ ∧ _ ≤ (sz u).toInt); rw [hsz, gsz]; omega)).mp ((ifP_t (by rw [ir_, iu_]; exact h2.symm.trans (c_63.trans g2))).mp ((ifP_f (by rw [ir_, iu_]; exact fun h => h.elim (th_01 h1) (th_01 g1))).mp ((ifP_t (by omega)).mp (hx))))
              obtain ⟨rfl, hy⟩ := hx
              cases hy
              exact ⟨rfl, rfl, hrr⟩
            · rw [tI_lt0] at c_73
              refine mr_iload C 78 dX8_copy_76 rfl rfl ?_
              refine mr_iflt C 121 81 dX8_copy_78 (by decide) rfl (fun c_78 => ?_) (fun c_78 => ?_)
              · rw [tI_lt0] at c_78
                refine mr_aload_n C 122 dX8_copy_121 rfl rfl ?_
                refine mr_iconst C (nI 2) 123 dX8_copy_122 rfl rfl ?_
                refine mr_callV C (c_m_finding E a ((nI 0)) ((nI 0)) ac td lt lg cu tk sr tl fa fp gn gi gm tr la mn im ho fr wa tp wh go se no al be ik ke tc 2) [0, 1, 2, 3, 4, 5, 6, 7, 8, 9, 10, 11, 12, 13, 14, 15, 16] 0 8 126 dX8_copy_123 rfl mk_X8_finding mi_X8_finding ml_X8_80 rfl rfl rfl rfl rfl (Nat.le_of_ble_eq_true rfl) (by decide) (by decide) (by decide) rfl rfl (fun r w1 hpost => ?_)
                obtain ⟨rfl, rfl⟩ := hpost
                refine mr_w (wput_all _ _ 17 rfl rfl) ?_
                refine mr_iret C dX8_copy_126 rfl rfl (by decide) (by decide) hlen ?_
                rw [hO]
                refine ⟨la, mn, im, _, _, rfl, rfl, ?_⟩
                intro v9 it9 th9 ln9 sz9 fd9 hx
                replace hx := (ifP_f (by rw [ir_, iu_]; show ¬ (_ ∧ _ ∧ _ ≤ (sz r).toInt ∧ _ ∧ _ ≤ (sz u).toInt); rw [hsz, gsz]; omega)).mp ((ifP_t (by rw [ir_, iu_]; exact h2.symm.trans (c_63.trans g2))).mp ((ifP_f (by rw [ir_, iu_]; exact fun h => h.elim (th_01 h1) (th_01 g1))).mp ((ifP_t (by omega)).mp (hx))))
                obtain ⟨rfl, hy⟩ := hx
                cases hy
                exact ⟨rfl, rfl, hrr⟩
              · rw [tI_lt0] at c_78
                refine mr_iload C 83 dX8_copy_81 rfl rfl ?_
                refine mr_iflt C 121 86 dX8_copy_83 (by decide) rfl (fun c_83 => ?_) (fun c_83 => ?_)
                · rw [tI_lt0] at c_83
                  refine mr_aload_n C 122 dX8_copy_121 rfl rfl ?_
                  refine mr_iconst C (nI 2) 123 dX8_copy_122 rfl rfl ?_
                  refine mr_callV C (c_m_finding E a ((nI 0)) ((nI 0)) ac td lt lg cu tk sr tl fa fp gn gi gm tr la mn im ho fr wa tp wh go se no al be ik ke tc 2) [0, 1, 2, 3, 4, 5, 6, 7, 8, 9, 10, 11, 12, 13, 14, 15, 16] 0 8 126 dX8_copy_123 rfl mk_X8_finding mi_X8_finding ml_X8_80 rfl rfl rfl rfl rfl (Nat.le_of_ble_eq_true rfl) (by decide) (by decide) (by decide) rfl rfl (fun r w1 hpost => ?_)
                  obtain ⟨rfl, rfl⟩ := hpost
                  refine mr_w (wput_all _ _ 17 rfl rfl) ?_
                  refine mr_iret C dX8_copy_126 rfl rfl (by decide) (by decide) hlen ?_
                  rw [hO]
                  refine ⟨la, mn, im, _, _, rfl, rfl, ?_⟩
                  intro v9 it9 th9 ln9 sz9 fd9 hx
                  replace hx := (ifP_f (by rw [ir_, iu_]; show ¬ (_ ∧ _ ∧ _ ≤ (sz r).toInt ∧ _ ∧ _ ≤ (sz u).toInt); rw [hsz, gsz]; omega)).mp ((ifP_t (by rw [ir_, iu_]; exact h2.symm.trans (c_63.trans g2))).mp ((ifP_f (by rw [ir_, iu_]; exact fun h => h.elim (th_01 h1) (th_01 g1))).mp ((ifP_t (by omega)).mp (hx))))
                  obtain ⟨rfl, hy⟩ := hx
                  cases hy
                  exact ⟨rfl, rfl, hrr⟩
                · rw [tI_lt0] at c_83
                  refine mr_iload_n C 87 dX8_copy_86 rfl rfl ?_
                  refine mr_i2l C _ 88 dX8_copy_87 rfl rfl ?_
                  refine mr_iload C 90 dX8_copy_88 rfl rfl ?_
                  refine mr_i2l C _ 91 dX8_copy_90 rfl rfl ?_
                  refine mr_ladd C _ 92 dX8_copy_91 rfl rfl ?_
                  refine mr_aload_n C 93 dX8_copy_92 rfl rfl ?_
                  refine mr_get C 0 96 dX8_copy_93 rfl fl_X8_13 rfl rfl ?_
                  refine mr_iload_n C 97 dX8_copy_96 rfl rfl ?_
                  refine mr_iale C 2 r (nI m) 98 dX8_copy_97 rfl rfl rfl (by omega) (by decide) hmn ?_
                  refine mr_i2l C _ 99 dX8_copy_98 rfl rfl ?_
                  refine mr_lcmp C 100 dX8_copy_99 rfl ?_
                  refine mr_ifgt C 121 103 dX8_copy_100 (by decide) rfl (fun c_100 => ?_) (fun c_100 => ?_)
                  · rw [lcmp_gt, addL (by omega) (by omega), tL] at c_100
                    refine mr_aload_n C 122 dX8_copy_121 rfl rfl ?_
                    refine mr_iconst C (nI 2) 123 dX8_copy_122 rfl rfl ?_
                    refine mr_callV C (c_m_finding E a ((nI 0)) ((nI 0)) ac td lt lg cu tk sr tl fa fp gn gi gm tr la mn im ho fr wa tp wh go se no al be ik ke tc 2) [0, 1, 2, 3, 4, 5, 6, 7, 8, 9, 10, 11, 12, 13, 14, 15, 16] 0 8 126 dX8_copy_123 rfl mk_X8_finding mi_X8_finding ml_X8_80 rfl rfl rfl rfl rfl (Nat.le_of_ble_eq_true rfl) (by decide) (by decide) (by decide) rfl rfl (fun r w1 hpost => ?_)
                    obtain ⟨rfl, rfl⟩ := hpost
                    refine mr_w (wput_all _ _ 17 rfl rfl) ?_
                    refine mr_iret C dX8_copy_126 rfl rfl (by decide) (by decide) hlen ?_
                    rw [hO]
                    refine ⟨la, mn, im, _, _, rfl, rfl, ?_⟩
                    intro v9 it9 th9 ln9 sz9 fd9 hx
                    replace hx := (ifP_f (by rw [ir_, iu_]; show ¬ (_ ∧ _ ∧ _ ≤ (sz r).toInt ∧ _ ∧ _ ≤ (sz u).toInt); rw [hsz, gsz]; omega)).mp ((ifP_t (by rw [ir_, iu_]; exact h2.symm.trans (c_63.trans g2))).mp ((ifP_f (by rw [ir_, iu_]; exact fun h => h.elim (th_01 h1) (th_01 g1))).mp ((ifP_t (by omega)).mp (hx))))
                    obtain ⟨rfl, hy⟩ := hx
                    cases hy
                    exact ⟨rfl, rfl, hrr⟩
                  · rw [lcmp_gt, addL (by omega) (by omega), tL] at c_100
                    refine mr_iload C 105 dX8_copy_103 rfl rfl ?_
                    refine mr_i2l C _ 106 dX8_copy_105 rfl rfl ?_
                    refine mr_iload C 108 dX8_copy_106 rfl rfl ?_
                    refine mr_i2l C _ 109 dX8_copy_108 rfl rfl ?_
                    refine mr_ladd C _ 110 dX8_copy_109 rfl rfl ?_
                    refine mr_aload_n C 111 dX8_copy_110 rfl rfl ?_
                    refine mr_get C 0 114 dX8_copy_111 rfl fl_X8_13 rfl rfl ?_
                    refine mr_iload_n C 115 dX8_copy_114 rfl rfl ?_
                    refine mr_iale C 2 u (nI m2) 116 dX8_copy_115 rfl rfl rfl (by omega) (by decide) gmn ?_
                    refine mr_i2l C _ 117 dX8_copy_116 rfl rfl ?_
                    refine mr_lcmp C 118 dX8_copy_117 rfl ?_
                    refine mr_ifle C 127 121 dX8_copy_118 (by decide) rfl (fun c_118 => ?_) (fun c_118 => ?_)
                    · rw [lcmp_le, addL (by omega) (by omega), tL] at c_118
                      obtain ⟨i, hi, rfl⟩ := tI_of (x := i0) (n := 41) (by omega) (by omega)
                      have ei : (nI i).toInt = (i : Int) := tI_n (by omega)
                      have ii_ : iN (nI i) = i := iN_n (by omega)
                      obtain ⟨j, hj, rfl⟩ := tI_of (x := j0) (n := 41) (by omega) (by omega)
                      have ej : (nI j).toInt = (j : Int) := tI_n (by omega)
                      have ij_ : iN (nI j) = j := iN_n (by omega)
                      obtain ⟨n, hn, rfl⟩ := tI_of (x := n0) (n := 41) (by omega) (by omega)
                      have en : (nI n).toInt = (n : Int) := tI_n (by omega)
                      have in_ : iN (nI n) = n := iN_n (by omega)
                      refine mr_iload_n C 128 dX8_copy_127 rfl rfl ?_
                      refine mr_iload C 130 dX8_copy_128 rfl rfl ?_
                      refine mr_icmplt C 137 133 dX8_copy_130 (by decide) rfl (fun c_130 => ?_) (fun c_130 => ?_)
                      · rw [nI_ltI (by omega) (by omega)] at c_130
                        refine mr_iconst C (nI 0) 138 dX8_copy_137 rfl rfl ?_
                        refine mr_istore C 140 dX8_copy_138 rfl (by decide) ?_
                        refine mr_iconst C (nI 0) 141 dX8_copy_140 rfl rfl ?_
                        refine mr_istore C 143 dX8_copy_141 rfl (by decide) ?_
                        have L : ∀ k, k ≤ n → ∀ f : FN, ((∀ t, (n - k) ≤ t → t < n → f (40 * u + j + t) = im (40 * r + i + t)) ∧ ∀ y, (y < 40 * u + j + (n - k) ∨ 40 * u + j + n ≤ y) → f y = im y) → V E mX8_copy (2, 0, 0) Z 0 0 (wM E a ((nI 0)) ((nI 0)) la mn f ho fr wa ac tp td lt lg cu tk sr tl fa fp wh go se no al be gn gi gm ik ke tc tr) [(0, .ref (a 0)), (1, .int (nI r)), (2, .int (nI i)), (3, .int (nI u)), (4, .int (nI j)), (5, .int (nI n)), (6, .int (nI 0)), (7, .int (nI k))] [] 143 := by
                          refine lp_up n ?_
                          intro k hk ih f hf
                          refine mr_iload C 145 dX8_copy_143 rfl rfl ?_
                          refine mr_iload C 147 dX8_copy_145 rfl rfl ?_
                          refine mr_icmpge C 204 150 dX8_copy_147 (by decide) rfl (fun c_147 => ?_) (fun c_147 => ?_)
                          · rw [nI_leI (by omega) (by omega)] at c_147
                            refine mr_iload C 206 dX8_copy_204 rfl rfl ?_
                            refine mr_iret C dX8_copy_206 rfl rfl (by decide) (by decide) hlen ?_
                            rw [hO]
                            have hkn : k = n := by omega
                            rw [hkn] at hf
                            refine ⟨la, mn, f, _, _, rfl, rfl, ?_⟩
                            intro v9 it9 th9 ln9 sz9 fd9 hx
                            replace hx := (ifP_t (by rw [ir_, iu_]; show _ ∧ _ ∧ _ ≤ (sz r).toInt ∧ _ ∧ _ ≤ (sz u).toInt; rw [hsz, gsz]; omega)).mp ((ifP_t (by rw [ir_, iu_]; exact h2.symm.trans (c_63.trans g2))).mp ((ifP_f (by rw [ir_, iu_]; exact fun h => h.elim (th_01 h1) (th_01 g1))).mp ((ifP_t (by omega)).mp (hx))))
                            obtain ⟨rfl, hy⟩ := hx
                            cases hy
                            rw [ir_, iu_, ii_, ij_, in_]
                            refine ⟨rfl, rfl, ?_⟩
                            intro y hy
                            by_cases e : y = u
                            · subst e
                              refine Or.inr ⟨g1, g2, ⟨lq2, glq, glq2⟩, m2, gm9, gsz, gmn, fun t ht => ?_⟩
                              rw [vu_s]
                              show f (40 * y + t) = va_cpy (it r) (it y) i j n t
                              by_cases e2 : j ≤ t ∧ t < j + n
                              · rw [pk_cpy_in e2.1 (by omega), ← him _ (by omega)]
                                have e3 := hf.1 (t - j) (by omega) (by omega)
                                rw [show 40 * y + j + (t - j) = 40 * y + t by omega] at e3
                                rw [e3]; congr 1; omega
                              · rw [pk_cpy_out (by omega), ← gim t ht]; exact hf.2 _ (by omega)
                            · rw [vu_n e]
                              rcases hrr y hy with h | ⟨k1, k2, k3, m3, k4, k5, k6, k7⟩
                              · exact Or.inl h
                              · exact Or.inr ⟨k1, k2, k3, m3, k4, k5, k6, fun t ht => (hf.2 _ (by omega)).trans (k7 t ht)⟩
                          · rw [nI_leI (by omega) (by omega)] at c_147
                            refine mr_iload C 152 dX8_copy_150 rfl rfl ?_
                            refine mr_ifeq C 160 155 dX8_copy_152 (by decide) rfl (fun _ => ?_) (fun c_ => absurd (by decide) c_)
                            refine mr_iload C 162 dX8_copy_160 rfl rfl ?_
                            refine mr_iconst C (nI 1) 163 dX8_copy_162 rfl rfl ?_
                            refine mr_isub C (nI (n - 1)) 164 dX8_copy_163 rfl (pk_sub (by omega)) ?_
                            refine mr_iload C 166 dX8_copy_164 rfl rfl ?_
                            refine mr_isub C (nI (n - 1 - k)) 167 dX8_copy_166 rfl (pk_sub (by omega)) ?_
                            refine mr_istore C 169 dX8_copy_167 rfl (by decide) ?_
                            refine mr_aload_n C 170 dX8_copy_169 rfl rfl ?_
                            refine mr_get C 0 173 dX8_copy_170 rfl fl_X8_16 rfl rfl ?_
                            refine mr_bipush C (nI 40) 175 dX8_copy_173 rfl rfl ?_
                            refine mr_iload_n C 176 dX8_copy_175 rfl rfl ?_
                            refine mr_imul C (nI (40 * u)) 177 dX8_copy_176 rfl (pk_mul _ _) ?_
                            refine mr_iload C 179 dX8_copy_177 rfl rfl ?_
                            refine mr_iadd C (nI ((40 * u) + j)) 180 dX8_copy_179 rfl (nI_add _ _) ?_
                            refine mr_iload C 182 dX8_copy_180 rfl rfl ?_
                            refine mr_iadd C (nI (((40 * u) + j) + (n - 1 - k))) 183 dX8_copy_182 rfl (nI_add _ _) ?_
                            refine mr_aload_n C 184 dX8_copy_183 rfl rfl ?_
                            refine mr_get C 0 187 dX8_copy_184 rfl fl_X8_16 rfl rfl ?_
                            refine mr_bipush C (nI 40) 189 dX8_copy_187 rfl rfl ?_
                            refine mr_iload_n C 190 dX8_copy_189 rfl rfl ?_
                            refine mr_imul C (nI (40 * r)) 191 dX8_copy_190 rfl (pk_mul _ _) ?_
                            refine mr_iload_n C 192 dX8_copy_191 rfl rfl ?_
                            refine mr_iadd C (nI ((40 * r) + i)) 193 dX8_copy_192 rfl (nI_add _ _) ?_
                            refine mr_iload C 195 dX8_copy_193 rfl rfl ?_
                            refine mr_iadd C (nI (((40 * r) + i) + (n - 1 - k))) 196 dX8_copy_195 rfl (nI_add _ _) ?_
                            refine mr_iald C 3 (((40 * r) + i) + (n - 1 - k)) 197 dX8_copy_196 rfl rfl rfl (by omega) (by decide) ?_
                            refine mr_iast C 3 (((40 * u) + j) + (n - 1 - k)) 198 dX8_copy_197 rfl rfl rfl (by omega) (by decide) ?_
                            refine mr_iinc C (nI (k + 1)) 201 dX8_copy_198 rfl rfl (by decide) (nI_add k 1) ?_
                            refine mr_goto C 143 dX8_copy_201 (by decide) ?_
                            refine mr_at (ih (by omega) _ ⟨fun t h1 h2 => ?_, fun y hy => ?_⟩) rfl rfl rfl
                            · rw [up_at]
                              by_cases e : t = (n - 1 - k)
                              · subst e; rw [if_pos rfl]; exact hf.2 _ (by omega)
                              · rw [if_neg (by omega)]; exact hf.1 t (by omega) (by omega)
                            · rw [up_n (by omega)]; exact hf.2 y (by omega)
                        exact mr_at (L 0 (Nat.zero_le _) im ⟨fun t h1 h2 => absurd h2 (by omega), fun y _ => rfl⟩) rfl rfl rfl
                      · rw [nI_ltI (by omega) (by omega)] at c_130
                        refine mr_iconst C (nI 1) 134 dX8_copy_133 rfl rfl ?_
                        refine mr_goto C 138 dX8_copy_134 (by decide) ?_
                        refine mr_istore C 140 dX8_copy_138 rfl (by decide) ?_
                        refine mr_iconst C (nI 0) 141 dX8_copy_140 rfl rfl ?_
                        refine mr_istore C 143 dX8_copy_141 rfl (by decide) ?_
                        have L : ∀ k, k ≤ n → ∀ f : FN, ((∀ t, 0 ≤ t → t < k → f (40 * u + j + t) = im (40 * r + i + t)) ∧ ∀ y, (y < 40 * u + j + 0 ∨ 40 * u + j + k ≤ y) → f y = im y) → V E mX8_copy (2, 0, 0) Z 0 0 (wM E a ((nI 0)) ((nI 0)) la mn f ho fr wa ac tp td lt lg cu tk sr tl fa fp wh go se no al be gn gi gm ik ke tc tr) [(0, .ref (a 0)), (1, .int (nI r)), (2, .int (nI i)), (3, .int (nI u)), (4, .int (nI j)), (5, .int (nI n)), (6, .int (nI 1)), (7, .int (nI k))] [] 143 := by
                          refine lp_up n ?_
                          intro k hk ih f hf
                          refine mr_iload C 145 dX8_copy_143 rfl rfl ?_
                          refine mr_iload C 147 dX8_copy_145 rfl rfl ?_
                          refine mr_icmpge C 204 150 dX8_copy_147 (by decide) rfl (fun c_147 => ?_) (fun c_147 => ?_)
                          · rw [nI_leI (by omega) (by omega)] at c_147
                            refine mr_iload C 206 dX8_copy_204 rfl rfl ?_
                            refine mr_iret C dX8_copy_206 rfl rfl (by decide) (by decide) hlen ?_
                            rw [hO]
                            have hkn : k = n := by omega
                            rw [hkn] at hf
                            refine ⟨la, mn, f, _, _, rfl, rfl, ?_⟩
                            intro v9 it9 th9 ln9 sz9 fd9 hx
                            replace hx := (ifP_t (by rw [ir_, iu_]; show _ ∧ _ ∧ _ ≤ (sz r).toInt ∧ _ ∧ _ ≤ (sz u).toInt; rw [hsz, gsz]; omega)).mp ((ifP_t (by rw [ir_, iu_]; exact h2.symm.trans (c_63.trans g2))).mp ((ifP_f (by rw [ir_, iu_]; exact fun h => h.elim (th_01 h1) (th_01 g1))).mp ((ifP_t (by omega)).mp (hx))))
                            obtain ⟨rfl, hy⟩ := hx
                            cases hy
                            rw [ir_, iu_, ii_, ij_, in_]
                            refine ⟨rfl, rfl, ?_⟩
                            intro y hy
                            by_cases e : y = u
                            · subst e
                              refine Or.inr ⟨g1, g2, ⟨lq2, glq, glq2⟩, m2, gm9, gsz, gmn, fun t ht => ?_⟩
                              rw [vu_s]
                              show f (40 * y + t) = va_cpy (it r) (it y) i j n t
                              by_cases e2 : j ≤ t ∧ t < j + n
                              · rw [pk_cpy_in e2.1 (by omega), ← him _ (by omega)]
                                have e3 := hf.1 (t - j) (by omega) (by omega)
                                rw [show 40 * y + j + (t - j) = 40 * y + t by omega] at e3
                                rw [e3]; congr 1; omega
                              · rw [pk_cpy_out (by omega), ← gim t ht]; exact hf.2 _ (by omega)
                            · rw [vu_n e]
                              rcases hrr y hy with h | ⟨k1, k2, k3, m3, k4, k5, k6, k7⟩
                              · exact Or.inl h
                              · exact Or.inr ⟨k1, k2, k3, m3, k4, k5, k6, fun t ht => (hf.2 _ (by omega)).trans (k7 t ht)⟩
                          · rw [nI_leI (by omega) (by omega)] at c_147
                            refine mr_iload C 152 dX8_copy_150 rfl rfl ?_
                            refine mr_ifeq C 160 155 dX8_copy_152 (by decide) rfl (fun c_ => absurd c_ (by decide)) (fun _ => ?_)
                            refine mr_iload C 157 dX8_copy_155 rfl rfl ?_
                            refine mr_goto C 167 dX8_copy_157 (by decide) ?_
                            refine mr_istore C 169 dX8_copy_167 rfl (by decide) ?_
                            refine mr_aload_n C 170 dX8_copy_169 rfl rfl ?_
                            refine mr_get C 0 173 dX8_copy_170 rfl fl_X8_16 rfl rfl ?_
                            refine mr_bipush C (nI 40) 175 dX8_copy_173 rfl rfl ?_
                            refine mr_iload_n C 176 dX8_copy_175 rfl rfl ?_
                            refine mr_imul C (nI (40 * u)) 177 dX8_copy_176 rfl (pk_mul _ _) ?_
                            refine mr_iload C 179 dX8_copy_177 rfl rfl ?_
                            refine mr_iadd C (nI ((40 * u) + j)) 180 dX8_copy_179 rfl (nI_add _ _) ?_
                            refine mr_iload C 182 dX8_copy_180 rfl rfl ?_
                            refine mr_iadd C (nI (((40 * u) + j) + k)) 183 dX8_copy_182 rfl (nI_add _ _) ?_
                            refine mr_aload_n C 184 dX8_copy_183 rfl rfl ?_
                            refine mr_get C 0 187 dX8_copy_184 rfl fl_X8_16 rfl rfl ?_
                            refine mr_bipush C (nI 40) 189 dX8_copy_187 rfl rfl ?_
                            refine mr_iload_n C 190 dX8_copy_189 rfl rfl ?_
                            refine mr_imul C (nI (40 * r)) 191 dX8_copy_190 rfl (pk_mul _ _) ?_
                            refine mr_iload_n C 192 dX8_copy_191 rfl rfl ?_
                            refine mr_iadd C (nI ((40 * r) + i)) 193 dX8_copy_192 rfl (nI_add _ _) ?_
                            refine mr_iload C 195 dX8_copy_193 rfl rfl ?_
                            refine mr_iadd C (nI (((40 * r) + i) + k)) 196 dX8_copy_195 rfl (nI_add _ _) ?_
                            refine mr_iald C 3 (((40 * r) + i) + k) 197 dX8_copy_196 rfl rfl rfl (by omega) (by decide) ?_
                            refine mr_iast C 3 (((40 * u) + j) + k) 198 dX8_copy_197 rfl rfl rfl (by omega) (by decide) ?_
                            refine mr_iinc C (nI (k + 1)) 201 dX8_copy_198 rfl rfl (by decide) (nI_add k 1) ?_
                            refine mr_goto C 143 dX8_copy_201 (by decide) ?_
                            refine mr_at (ih (by omega) _ ⟨fun t h1 h2 => ?_, fun y hy => ?_⟩) rfl rfl rfl
                            · rw [up_at]
                              by_cases e : t = k
                              · subst e; rw [if_pos rfl]; exact hf.2 _ (by omega)
                              · rw [if_neg (by omega)]; exact hf.1 t (by omega) (by omega)
                            · rw [up_n (by omega)]; exact hf.2 y (by omega)
                        exact mr_at (L 0 (Nat.zero_le _) im ⟨fun t h1 h2 => absurd h2 (by omega), fun y _ => rfl⟩) rfl rfl rfl
                    · rw [lcmp_le, addL (by omega) (by omega), tL] at c_118
                      refine mr_aload_n C 122 dX8_copy_121 rfl rfl ?_
                      refine mr_iconst C (nI 2) 123 dX8_copy_122 rfl rfl ?_
                      refine mr_callV C (c_m_finding E a ((nI 0)) ((nI 0)) ac td lt lg cu tk sr tl fa fp gn gi gm tr la mn im ho fr wa tp wh go se no al be ik ke tc 2) [0, 1, 2, 3, 4, 5, 6, 7, 8, 9, 10, 11, 12, 13, 14, 15, 16] 0 8 126 dX8_copy_123 rfl mk_X8_finding mi_X8_finding ml_X8_80 rfl rfl rfl rfl rfl (Nat.le_of_ble_eq_true rfl) (by decide) (by decide) (by decide) rfl rfl (fun r w1 hpost => ?_)
                      obtain ⟨rfl, rfl⟩ := hpost
                      refine mr_w (wput_all _ _ 17 rfl rfl) ?_
                      refine mr_iret C dX8_copy_126 rfl rfl (by decide) (by decide) hlen ?_
                      rw [hO]
                      refine ⟨la, mn, im, _, _, rfl, rfl, ?_⟩
                      intro v9 it9 th9 ln9 sz9 fd9 hx
                      replace hx := (ifP_f (by rw [ir_, iu_]; show ¬ (_ ∧ _ ∧ _ ≤ (sz r).toInt ∧ _ ∧ _ ≤ (sz u).toInt); rw [hsz, gsz]; omega)).mp ((ifP_t (by rw [ir_, iu_]; exact h2.symm.trans (c_63.trans g2))).mp ((ifP_f (by rw [ir_, iu_]; exact fun h => h.elim (th_01 h1) (th_01 g1))).mp ((ifP_t (by omega)).mp (hx))))
                      obtain ⟨rfl, hy⟩ := hx
                      cases hy
                      exact ⟨rfl, rfl, hrr⟩
          · refine mr_aload_n C 67 dX8_copy_66 rfl rfl ?_
            refine mr_iconst C (nI 5) 68 dX8_copy_67 rfl rfl ?_
            refine mr_callV C (c_m_finding E a ((nI 0)) ((nI 0)) ac td lt lg cu tk sr tl fa fp gn gi gm tr la mn im ho fr wa tp wh go se no al be ik ke tc 5) [0, 1, 2, 3, 4, 5, 6, 7, 8, 9, 10, 11, 12, 13, 14, 15, 16] 0 8 71 dX8_copy_68 rfl mk_X8_finding mi_X8_finding ml_X8_80 rfl rfl rfl rfl rfl (Nat.le_of_ble_eq_true rfl) (by decide) (by decide) (by decide) rfl rfl (fun r w1 hpost => ?_)
            obtain ⟨rfl, rfl⟩ := hpost
            refine mr_w (wput_all _ _ 17 rfl rfl) ?_
            refine mr_iret C dX8_copy_71 rfl rfl (by decide) (by decide) hlen ?_
            rw [hO]
            refine ⟨la, mn, im, _, _, rfl, rfl, ?_⟩
            intro v9 it9 th9 ln9 sz9 fd9 hx
            replace hx := (ifP_f (by rw [ir_, iu_]; exact fun h => c_63 (h2.trans (h.trans g2.symm)))).mp ((ifP_f (by rw [ir_, iu_]; exact fun h => h.elim (th_01 h1) (th_01 g1))).mp ((ifP_t (by omega)).mp (hx)))
            obtain ⟨rfl, hy⟩ := hx
            cases hy
            exact ⟨rfl, rfl, hrr⟩
        · refine mr_aload_n C 46 dX8_copy_45 rfl rfl ?_
          refine mr_iconst C (nI 1) 47 dX8_copy_46 rfl rfl ?_
          refine mr_callV C (c_m_finding E a ((nI 0)) ((nI 0)) ac td lt lg cu tk sr tl fa fp gn gi gm tr la mn im ho fr wa tp wh go se no al be ik ke tc 1) [0, 1, 2, 3, 4, 5, 6, 7, 8, 9, 10, 11, 12, 13, 14, 15, 16] 0 8 50 dX8_copy_47 rfl mk_X8_finding mi_X8_finding ml_X8_80 rfl rfl rfl rfl rfl (Nat.le_of_ble_eq_true rfl) (by decide) (by decide) (by decide) rfl rfl (fun r w1 hpost => ?_)
          obtain ⟨rfl, rfl⟩ := hpost
          refine mr_w (wput_all _ _ 17 rfl rfl) ?_
          refine mr_iret C dX8_copy_50 rfl rfl (by decide) (by decide) hlen ?_
          rw [hO]
          refine ⟨la, mn, im, _, _, rfl, rfl, ?_⟩
          intro v9 it9 th9 ln9 sz9 fd9 hx
          replace hx := (ifP_t (by rw [iu_]; exact Or.inr (hrr.is hu c_42))).mp ((ifP_t (by omega)).mp (hx))
          obtain ⟨rfl, hy⟩ := hx
          cases hy
          exact ⟨rfl, rfl, hrr⟩
    · rw [bI_eq] at c_16
      refine mr_ldc C 21 dX8_copy_19 rfl kc_X8_79 ?_
      refine mr_iret C dX8_copy_21 rfl rfl (by decide) (by decide) hlen ?_
      rw [hO]
      refine ⟨la, mn, im, _, _, rfl, rfl, ?_⟩
      intro v9 it9 th9 ln9 sz9 fd9 hx
      replace hx := (ifP_f (by omega)).mp (hx)
      obtain ⟨rfl, hy⟩ := hx
      cases hy
      exact ⟨rfl, rfl, hrr⟩

