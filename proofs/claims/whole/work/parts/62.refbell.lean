/-! the reference: a bell -/
def hoS (ho : FN) : FN := fun c => ho (22 + 3 * c)
def hoL (ho : FN) : FN := fun c => ho (22 + 3 * c + 1)
def hoH (ho : FN) : FN := fun c => ho (22 + 3 * c + 2)
set_option maxRecDepth 20000 in
set_option maxHeartbeats 4000000 in
theorem c_layNow (E : EG) (a : Nat → Nat) (tn st ac td lt lg cu tk sr tl fa fp gn gi gm tr : Int32) (la mn im ho fr wa tp wh go se no al be ik ke tc : FN) (R K G : Nat) (hR : R ≤ 6) (hK : K ≤ 5) (h0 : ho 0 = nI R) (h2 : ho 2 = nI K) (h3 : ho 3 = nI G) : Ctr E mX8_layNow (2, 0, 0) [.ref (a 0)] (wM E a tn st la mn im ho fr wa ac tp td lt lg cu tk sr tl fa fp wh go se no al be gn gi gm ik ke tc tr) (fun v w => ∃ f h f2 : FN, v = none ∧ w = wM E a tn st la mn im ho fr wa ac tp td lt lg cu tk sr tl fa fp f2 go f no al h ((nI G)) ((nI 0)) ((nI 0)) ik ke tc tr ∧ (∀ j, j < R → f j = ho (10 + j) ∧ h j = ho (16 + j)) ∧ ∀ j, j < K → f2 j = hoL ho j) := by
  refine Ctr.of (by decide) (Nat.le_of_ble_eq_true rfl) ?_
  intro Z hO hn C
  have hlen : zn Z ≤ 17 := by rw [hn]; exact Nat.le_of_ble_eq_true rfl
  have L2 : ∀ f h : FN, (∀ j, j < R → f j = ho (10 + j) ∧ h j = ho (16 + j)) → ∀ i, i ≤ K → ∀ f2 : FN, (∀ j, j < i → f2 j = hoL ho j) → V E mX8_layNow (2, 0, 0) Z 0 0 (wM E a tn st la mn im ho fr wa ac tp td lt lg cu tk sr tl fa fp f2 go f no al h ((nI G)) ((nI 0)) ((nI 0)) ik ke tc tr) [(0, .ref (a 0)), (1, .int (nI i))] [] 70 := by
    intro f h hf
    refine lp_up K ?_
    intro i hi ih f2 hf2
    refine mr_iload_n C 71 dX8_layNow_70 rfl rfl ?_
    refine mr_aload_n C 72 dX8_layNow_71 rfl rfl ?_
    refine mr_get C 0 75 dX8_layNow_72 rfl fl_X8_19 rfl rfl ?_
    refine mr_iconst C (nI 2) 76 dX8_layNow_75 rfl rfl ?_
    refine mr_iale C 4 2 (nI K) 77 dX8_layNow_76 rfl rfl rfl (by omega) (by decide) h2 ?_
    refine mr_icmpge C 98 80 dX8_layNow_77 (by decide) rfl (fun c_77 => ?_) (fun c_77 => ?_)
    · rw [nI_leI (by omega) (by omega)] at c_77
      refine mr_vret C dX8_layNow_98 rfl (by decide) (by decide) hlen ?_
      rw [hO]
      obtain rfl : i = K := by omega
      exact ⟨f, h, f2, rfl, rfl, hf, hf2⟩
    · rw [nI_leI (by omega) (by omega)] at c_77
      refine mr_aload_n C 81 dX8_layNow_80 rfl rfl ?_
      refine mr_get C 0 84 dX8_layNow_81 rfl fl_X8_31 rfl rfl ?_
      refine mr_iload_n C 85 dX8_layNow_84 rfl rfl ?_
      refine mr_aload_n C 86 dX8_layNow_85 rfl rfl ?_
      refine mr_iload_n C 87 dX8_layNow_86 rfl rfl ?_
      refine mr_iconst C (nI 1) 88 dX8_layNow_87 rfl rfl ?_
      refine mr_callV C (c_of E a tn st ac td lt lg cu tk sr tl fa fp ((nI G)) ((nI 0)) ((nI 0)) tr la mn im ho fr wa tp f2 go f no al h ik ke tc i 1 (by omega) (by decide) _ rfl) [0, 1, 2, 3, 4, 5, 6, 7, 8, 9, 10, 11, 12, 13, 14, 15, 16] 0 8 91 dX8_layNow_88 rfl mk_X8_of mi_X8_of ml_X8_201 rfl rfl rfl rfl rfl (Nat.le_of_ble_eq_true rfl) (by decide) (by decide) (by decide) rfl rfl (fun r w1 hpost => ?_)
      obtain ⟨rfl, rfl⟩ := hpost
      refine mr_w (wput_all _ _ 17 rfl rfl) ?_
      refine mr_iast C 8 i 92 dX8_layNow_91 rfl rfl rfl (by omega) (by decide) ?_
      refine mr_iinc C (nI (i + 1)) 95 dX8_layNow_92 rfl rfl (by decide) (nI_add i 1) ?_
      refine mr_goto C 70 dX8_layNow_95 (by decide) ?_
      refine mr_at (ih (by omega) _ ?_) rfl rfl rfl
      intro j hj
      rw [up_at]
      by_cases e : j = i
      · rw [if_pos e, e]; rfl
      · rw [if_neg e]; exact hf2 j (by omega)
  have L1 : ∀ i, i ≤ R → ∀ f h : FN, (∀ j, j < i → f j = ho (10 + j) ∧ h j = ho (16 + j)) → V E mX8_layNow (2, 0, 0) Z 0 0 (wM E a tn st la mn im ho fr wa ac tp td lt lg cu tk sr tl fa fp wh go f no al h ((nI G)) ((nI 0)) ((nI 0)) ik ke tc tr) [(0, .ref (a 0)), (1, .int (nI i))] [] 22 := by
    refine lp_up R ?_
    intro i hi ih f h hf
    refine mr_iload_n C 23 dX8_layNow_22 rfl rfl ?_
    refine mr_aload_n C 24 dX8_layNow_23 rfl rfl ?_
    refine mr_get C 0 27 dX8_layNow_24 rfl fl_X8_19 rfl rfl ?_
    refine mr_iconst C (nI 0) 28 dX8_layNow_27 rfl rfl ?_
    refine mr_iale C 4 0 (nI R) 29 dX8_layNow_28 rfl rfl rfl (by omega) (by decide) h0 ?_
    refine mr_icmpge C 68 32 dX8_layNow_29 (by decide) rfl (fun c_29 => ?_) (fun c_29 => ?_)
    · rw [nI_leI (by omega) (by omega)] at c_29
      refine mr_iconst C (nI 0) 69 dX8_layNow_68 rfl rfl ?_
      refine mr_istore_n C 70 dX8_layNow_69 rfl rfl (by decide) ?_
      obtain rfl : i = R := by omega
      exact mr_at (L2 f h hf 0 (Nat.zero_le _) wh (fun j h => absurd h (Nat.not_lt_zero j))) rfl rfl rfl
    · rw [nI_leI (by omega) (by omega)] at c_29
      refine mr_aload_n C 33 dX8_layNow_32 rfl rfl ?_
      refine mr_get C 0 36 dX8_layNow_33 rfl fl_X8_37 rfl rfl ?_
      refine mr_iload_n C 37 dX8_layNow_36 rfl rfl ?_
      refine mr_aload_n C 38 dX8_layNow_37 rfl rfl ?_
      refine mr_get C 0 41 dX8_layNow_38 rfl fl_X8_19 rfl rfl ?_
      refine mr_bipush C (nI 10) 43 dX8_layNow_41 rfl rfl ?_
      refine mr_iload_n C 44 dX8_layNow_43 rfl rfl ?_
      refine mr_iadd C (nI (10 + i)) 45 dX8_layNow_44 rfl (nI_add _ _) ?_
      refine mr_iald C 4 (10 + i) 46 dX8_layNow_45 rfl rfl rfl (by omega) (by decide) ?_
      refine mr_iast C 10 i 47 dX8_layNow_46 rfl rfl rfl (by omega) (by decide) ?_
      refine mr_aload_n C 48 dX8_layNow_47 rfl rfl ?_
      refine mr_get C 0 51 dX8_layNow_48 rfl fl_X8_46 rfl rfl ?_
      refine mr_iload_n C 52 dX8_layNow_51 rfl rfl ?_
      refine mr_aload_n C 53 dX8_layNow_52 rfl rfl ?_
      refine mr_get C 0 56 dX8_layNow_53 rfl fl_X8_19 rfl rfl ?_
      refine mr_bipush C (nI 16) 58 dX8_layNow_56 rfl rfl ?_
      refine mr_iload_n C 59 dX8_layNow_58 rfl rfl ?_
      refine mr_iadd C (nI (16 + i)) 60 dX8_layNow_59 rfl (nI_add _ _) ?_
      refine mr_iald C 4 (16 + i) 61 dX8_layNow_60 rfl rfl rfl (by omega) (by decide) ?_
      refine mr_iast C 13 i 62 dX8_layNow_61 rfl rfl rfl (by omega) (by decide) ?_
      refine mr_iinc C (nI (i + 1)) 65 dX8_layNow_62 rfl rfl (by decide) (nI_add i 1) ?_
      refine mr_goto C 22 dX8_layNow_65 (by decide) ?_
      refine mr_at (ih (by omega) _ _ ?_) rfl rfl rfl
      intro j hj
      rw [up_at, up_at]
      by_cases e : j = i
      · rw [if_pos e, if_pos e, e]; exact ⟨rfl, rfl⟩
      · rw [if_neg e, if_neg e]; exact hf j (by omega)
  refine mr_aload_n C 1 dX8_layNow_0 rfl rfl ?_
  refine mr_aload_n C 2 dX8_layNow_1 rfl rfl ?_
  refine mr_get C 0 5 dX8_layNow_2 rfl fl_X8_19 rfl rfl ?_
  refine mr_iconst C (nI 3) 6 dX8_layNow_5 rfl rfl ?_
  refine mr_iale C 4 3 (nI G) 7 dX8_layNow_6 rfl rfl rfl (by omega) (by decide) h3 ?_
  refine mr_put C 0 10 dX8_layNow_7 rfl fs_X8_192 rfl rfl rfl (Nat.le_of_ble_eq_true rfl) ?_
  refine mr_aload_n C 11 dX8_layNow_10 rfl rfl ?_
  refine mr_iconst C (nI 0) 12 dX8_layNow_11 rfl rfl ?_
  refine mr_put C 0 15 dX8_layNow_12 rfl fs_X8_195 rfl rfl rfl (Nat.le_of_ble_eq_true rfl) ?_
  refine mr_aload_n C 16 dX8_layNow_15 rfl rfl ?_
  refine mr_iconst C (nI 0) 17 dX8_layNow_16 rfl rfl ?_
  refine mr_put C 0 20 dX8_layNow_17 rfl fs_X8_198 rfl rfl rfl (Nat.le_of_ble_eq_true rfl) ?_
  refine mr_iconst C (nI 0) 21 dX8_layNow_20 rfl rfl ?_
  refine mr_istore_n C 22 dX8_layNow_21 rfl rfl (by decide) ?_
  exact mr_at (L1 0 (Nat.zero_le _) se be (fun j h => absurd h (Nat.not_lt_zero j))) rfl rfl rfl

set_option maxRecDepth 20000 in
set_option maxHeartbeats 4000000 in
theorem c_layCounts (E : EG) (a : Nat → Nat) (tn st ac td lt lg cu tk sr tl fa fp gn gm tr : Int32) (la mn im ho fr wa tp wh go se no al be ik ke tc : FN) (K g : Nat) (l : Nat → Nat) (hK : K ≤ 5) (hg : g < 6) (h2 : ho 2 = nI K) (hwh : ∀ c, c < K → wh c = nI (l c) ∧ l c < 6) : Ctr E mX8_layCounts (2, 0, 0) [.ref (a 0)] (wM E a tn st la mn im ho fr wa ac tp td lt lg cu tk sr tl fa fp wh go se no al be gn ((nI g)) gm ik ke tc tr) (fun v w => ∃ f1 f2 : FN, v = none ∧ w = wM E a tn st la mn im ho fr wa ac tp td lt lg cu tk sr tl fa fp wh go se f1 f2 be gn ((nI g)) gm ik ke tc tr ∧ Ag 6 f1 (cntS (gst gm g) l (hoH ho) K) ∧ Ag 6 f2 (cntS (fun _ => nI 0) l (hLike (hoS ho) (hoH ho)) K)) := by
  refine Ctr.of (by decide) (Nat.le_of_ble_eq_true rfl) ?_
  intro Z hO hn C
  have hlen : zn Z ≤ 17 := by rw [hn]; exact Nat.le_of_ble_eq_true rfl
  have L2 : ∀ i, i ≤ K → ∀ f1 f2 : FN, Ag 6 f1 (cntS (gst gm g) l (hoH ho) i) → Ag 6 f2 (cntS (fun _ => nI 0) l (hLike (hoS ho) (hoH ho)) i) → V E mX8_layCounts (2, 0, 0) Z 0 0 (wM E a tn st la mn im ho fr wa ac tp td lt lg cu tk sr tl fa fp wh go se f1 f2 be gn ((nI g)) gm ik ke tc tr) [(0, .ref (a 0)), (1, .int (nI i))] [] 43 := by
    refine lp_up K ?_
    intro i hi ih f1 f2 hf1 hf2
    refine mr_iload_n C 44 dX8_layCounts_43 rfl rfl ?_
    refine mr_aload_n C 45 dX8_layCounts_44 rfl rfl ?_
    refine mr_get C 0 48 dX8_layCounts_45 rfl fl_X8_19 rfl rfl ?_
    refine mr_iconst C (nI 2) 49 dX8_layCounts_48 rfl rfl ?_
    refine mr_iale C 4 2 (nI K) 50 dX8_layCounts_49 rfl rfl rfl (by omega) (by decide) h2 ?_
    refine mr_icmpge C 113 53 dX8_layCounts_50 (by decide) rfl (fun c_50 => ?_) (fun c_50 => ?_)
    · rw [nI_leI (by omega) (by omega)] at c_50
      refine mr_vret C dX8_layCounts_113 rfl (by decide) (by decide) hlen ?_
      rw [hO]
      obtain rfl : i = K := by omega
      exact ⟨f1, f2, rfl, rfl, hf1, hf2⟩
    · rw [nI_leI (by omega) (by omega)] at c_50
      refine mr_aload_n C 54 dX8_layCounts_53 rfl rfl ?_
      refine mr_get C 0 57 dX8_layCounts_54 rfl fl_X8_40 rfl rfl ?_
      refine mr_aload_n C 58 dX8_layCounts_57 rfl rfl ?_
      refine mr_get C 0 61 dX8_layCounts_58 rfl fl_X8_31 rfl rfl ?_
      refine mr_iload_n C 62 dX8_layCounts_61 rfl rfl ?_
      refine mr_iald C 8 i 63 dX8_layCounts_62 rfl rfl rfl (by omega) (by decide) ?_
      refine mr_dup2 C 64 dX8_layCounts_63 rfl rfl rfl ?_
      refine mr_iald C 11 (l i) 65 dX8_layCounts_64 rfl rfl (hwh i (by omega)).1 (hwh i (by omega)).2 (by decide) ?_
      refine mr_aload_n C 66 dX8_layCounts_65 rfl rfl ?_
      refine mr_iload_n C 67 dX8_layCounts_66 rfl rfl ?_
      refine mr_iconst C (nI 2) 68 dX8_layCounts_67 rfl rfl ?_
      refine mr_callV C (c_of E a tn st ac td lt lg cu tk sr tl fa fp gn (nI g) gm tr la mn im ho fr wa tp wh go se f1 f2 be ik ke tc i 2 (by omega) (by decide) (hoH ho i) rfl) [0, 1, 2, 3, 4, 5, 6, 7, 8, 9, 10, 11, 12, 13, 14, 15, 16] 0 8 71 dX8_layCounts_68 rfl mk_X8_of mi_X8_of ml_X8_201 rfl rfl rfl rfl rfl (Nat.le_of_ble_eq_true rfl) (by decide) (by decide) (by decide) rfl rfl (fun r w1 hpost => ?_)
      obtain ⟨rfl, rfl⟩ := hpost
      refine mr_w (wput_all _ _ 17 rfl rfl) ?_
      refine mr_iadd C _ 72 dX8_layCounts_71 rfl rfl ?_
      refine mr_iast C 11 (l i) 73 dX8_layCounts_72 rfl rfl (hwh i (by omega)).1 (hwh i (by omega)).2 (by decide) ?_
      refine mr_w (ws' := wM E a tn st la mn im ho fr wa ac tp td lt lg cu tk sr tl fa fp wh go se ((upd f1 (l i) (f1 (l i) + hoH ho i))) f2 be gn (nI g) gm ik ke tc tr) rfl ?_
      refine mr_aload_n C 74 dX8_layCounts_73 rfl rfl ?_
      refine mr_get C 0 77 dX8_layCounts_74 rfl fl_X8_43 rfl rfl ?_
      refine mr_aload_n C 78 dX8_layCounts_77 rfl rfl ?_
      refine mr_get C 0 81 dX8_layCounts_78 rfl fl_X8_31 rfl rfl ?_
      refine mr_iload_n C 82 dX8_layCounts_81 rfl rfl ?_
      refine mr_iald C 8 i 83 dX8_layCounts_82 rfl rfl rfl (by omega) (by decide) ?_
      refine mr_dup2 C 84 dX8_layCounts_83 rfl rfl rfl ?_
      refine mr_iald C 12 (l i) 85 dX8_layCounts_84 rfl rfl (hwh i (by omega)).1 (hwh i (by omega)).2 (by decide) ?_
      refine mr_aload_n C 86 dX8_layCounts_85 rfl rfl ?_
      refine mr_iload_n C 87 dX8_layCounts_86 rfl rfl ?_
      refine mr_iconst C (nI 0) 88 dX8_layCounts_87 rfl rfl ?_
      refine mr_callV C (c_of E a tn st ac td lt lg cu tk sr tl fa fp gn (nI g) gm tr la mn im ho fr wa tp wh go se ((upd f1 (l i) (f1 (l i) + hoH ho i))) f2 be ik ke tc i 0 (by omega) (by decide) (hoS ho i) rfl) [0, 1, 2, 3, 4, 5, 6, 7, 8, 9, 10, 11, 12, 13, 14, 15, 16] 0 8 91 dX8_layCounts_88 rfl mk_X8_of mi_X8_of ml_X8_201 rfl rfl rfl rfl rfl (Nat.le_of_ble_eq_true rfl) (by decide) (by decide) (by decide) rfl rfl (fun r w1 hpost => ?_)
      obtain ⟨rfl, rfl⟩ := hpost
      refine mr_w (wput_all _ _ 17 rfl rfl) ?_
      refine mr_iconst C (nI 2) 92 dX8_layCounts_91 rfl rfl ?_
      refine mr_icmpne C 104 95 dX8_layCounts_92 (by decide) rfl (fun c_92 => ?_) (fun c_92 => ?_)
      · have hL : hLike (hoS ho) (hoH ho) i = nI 0 := if_neg c_92
        refine mr_iconst C (nI 0) 105 dX8_layCounts_104 rfl rfl ?_
        refine mr_iadd C _ 106 dX8_layCounts_105 rfl rfl ?_
        refine mr_iast C 12 (l i) 107 dX8_layCounts_106 rfl rfl (hwh i (by omega)).1 (hwh i (by omega)).2 (by decide) ?_
        refine mr_iinc C (nI (i + 1)) 110 dX8_layCounts_107 rfl rfl (by decide) (nI_add i 1) ?_
        refine mr_goto C 43 dX8_layCounts_110 (by decide) ?_
        refine mr_at (ih (by omega) _ _ ?_ ?_) rfl rfl rfl
        · exact cntS_up hf1 rfl (hwh i (by omega)).2
        · exact cntS_up hf2 (by rw [hL]) (hwh i (by omega)).2
      · have hL : hLike (hoS ho) (hoH ho) i = hoH ho i := if_pos c_92
        refine mr_aload_n C 96 dX8_layCounts_95 rfl rfl ?_
        refine mr_iload_n C 97 dX8_layCounts_96 rfl rfl ?_
        refine mr_iconst C (nI 2) 98 dX8_layCounts_97 rfl rfl ?_
        refine mr_callV C (c_of E a tn st ac td lt lg cu tk sr tl fa fp gn (nI g) gm tr la mn im ho fr wa tp wh go se ((upd f1 (l i) (f1 (l i) + hoH ho i))) f2 be ik ke tc i 2 (by omega) (by decide) (hoH ho i) rfl) [0, 1, 2, 3, 4, 5, 6, 7, 8, 9, 10, 11, 12, 13, 14, 15, 16] 0 8 101 dX8_layCounts_98 rfl mk_X8_of mi_X8_of ml_X8_201 rfl rfl rfl rfl rfl (Nat.le_of_ble_eq_true rfl) (by decide) (by decide) (by decide) rfl rfl (fun r w1 hpost => ?_)
        obtain ⟨rfl, rfl⟩ := hpost
        refine mr_w (wput_all _ _ 17 rfl rfl) ?_
        refine mr_goto C 105 dX8_layCounts_101 (by decide) ?_
        refine mr_iadd C _ 106 dX8_layCounts_105 rfl rfl ?_
        refine mr_iast C 12 (l i) 107 dX8_layCounts_106 rfl rfl (hwh i (by omega)).1 (hwh i (by omega)).2 (by decide) ?_
        refine mr_iinc C (nI (i + 1)) 110 dX8_layCounts_107 rfl rfl (by decide) (nI_add i 1) ?_
        refine mr_goto C 43 dX8_layCounts_110 (by decide) ?_
        refine mr_at (ih (by omega) _ _ ?_ ?_) rfl rfl rfl
        · exact cntS_up hf1 rfl (hwh i (by omega)).2
        · exact cntS_up hf2 (by rw [hL]) (hwh i (by omega)).2
  have L1 : ∀ i, i ≤ 6 → ∀ f1 f2 : FN, (∀ j, j < i → f1 j = nI 0 ∧ f2 j = nI 0) → V E mX8_layCounts (2, 0, 0) Z 0 0 (wM E a tn st la mn im ho fr wa ac tp td lt lg cu tk sr tl fa fp wh go se f1 f2 be gn ((nI g)) gm ik ke tc tr) [(0, .ref (a 0)), (1, .int (nI i))] [] 2 := by
    refine lp_up 6 ?_
    intro i hi ih f1 f2 hf
    refine mr_iload_n C 3 dX8_layCounts_2 rfl rfl ?_
    refine mr_bipush C (nI 6) 5 dX8_layCounts_3 rfl rfl ?_
    refine mr_icmpge C 28 8 dX8_layCounts_5 (by decide) rfl (fun c_5 => ?_) (fun c_5 => ?_)
    · rw [nI_leI (by omega) (by omega)] at c_5
      refine mr_aload_n C 29 dX8_layCounts_28 rfl rfl ?_
      refine mr_get C 0 32 dX8_layCounts_29 rfl fl_X8_40 rfl rfl ?_
      refine mr_aload_n C 33 dX8_layCounts_32 rfl rfl ?_
      refine mr_get C 0 36 dX8_layCounts_33 rfl fl_X8_198 rfl rfl ?_
      refine mr_aload_n C 37 dX8_layCounts_36 rfl rfl ?_
      refine mr_get C 0 40 dX8_layCounts_37 rfl fl_X8_195 rfl rfl ?_
      refine mr_iast C 11 g 41 dX8_layCounts_40 rfl rfl rfl (by omega) (by decide) ?_
      refine mr_iconst C (nI 0) 42 dX8_layCounts_41 rfl rfl ?_
      refine mr_istore_n C 43 dX8_layCounts_42 rfl rfl (by decide) ?_
      obtain rfl : i = 6 := by omega
      refine mr_at (L2 0 (Nat.zero_le _) _ f2 ?_ (fun j hj => (hf j hj).2)) rfl rfl rfl
      intro j hj
      rw [up_at]
      show _ = gst gm g j
      unfold gst
      by_cases e : j = g
      · rw [if_pos e, if_pos e]
      · rw [if_neg e, if_neg e]; exact (hf j hj).1
    · rw [nI_leI (by omega) (by omega)] at c_5
      refine mr_aload_n C 9 dX8_layCounts_8 rfl rfl ?_
      refine mr_get C 0 12 dX8_layCounts_9 rfl fl_X8_40 rfl rfl ?_
      refine mr_iload_n C 13 dX8_layCounts_12 rfl rfl ?_
      refine mr_iconst C (nI 0) 14 dX8_layCounts_13 rfl rfl ?_
      refine mr_iast C 11 i 15 dX8_layCounts_14 rfl rfl rfl (by omega) (by decide) ?_
      refine mr_aload_n C 16 dX8_layCounts_15 rfl rfl ?_
      refine mr_get C 0 19 dX8_layCounts_16 rfl fl_X8_43 rfl rfl ?_
      refine mr_iload_n C 20 dX8_layCounts_19 rfl rfl ?_
      refine mr_iconst C (nI 0) 21 dX8_layCounts_20 rfl rfl ?_
      refine mr_iast C 12 i 22 dX8_layCounts_21 rfl rfl rfl (by omega) (by decide) ?_
      refine mr_iinc C (nI (i + 1)) 25 dX8_layCounts_22 rfl rfl (by decide) (nI_add i 1) ?_
      refine mr_goto C 2 dX8_layCounts_25 (by decide) ?_
      refine mr_at (ih (by omega) _ _ ?_) rfl rfl rfl
      intro j hj
      rw [up_at, up_at]
      by_cases e : j = i
      · rw [if_pos e, if_pos e]; exact ⟨rfl, rfl⟩
      · rw [if_neg e, if_neg e]; exact hf j (by omega)
  refine mr_iconst C (nI 0) 1 dX8_layCounts_0 rfl rfl ?_
  refine mr_istore_n C 2 dX8_layCounts_1 rfl rfl (by decide) ?_
  exact mr_at (L1 0 (Nat.zero_le _) no al (fun j h => absurd h (Nat.not_lt_zero j))) rfl rfl rfl

set_option maxRecDepth 20000 in
set_option maxHeartbeats 4000000 in
theorem c_draws1 (E : EG) (a : Nat → Nat) (tn st ac td lt lg cu tk sr tl fa fp gi gm tr : Int32) (la mn im ho fr wa tp wh go se no al be ik ke tc : FN) (G r : Nat) (hG : G < 2 ^ 30) (hr : r < 6) : Ctr E mX8_draws (1, 0, 0) [.ref (a 0), .int (nI 1), .int (nI r)] (wM E a tn st la mn im ho fr wa ac tp td lt lg cu tk sr tl fa fp wh go se no al be ((nI G)) gi gm ik ke tc tr) (fun v w => v = some (.int (drawS no al be G (nI 1) r)) ∧ w = wM E a tn st la mn im ho fr wa ac tp td lt lg cu tk sr tl fa fp wh go se no al be ((nI G)) gi gm ik ke tc tr) := by
  refine Ctr.of (by decide) (Nat.le_of_ble_eq_true rfl) ?_
  intro Z hO hn C
  have hlen : zn Z ≤ 17 := by rw [hn]; exact Nat.le_of_ble_eq_true rfl
  refine mr_iload_n C 1 dX8_draws_0 rfl rfl ?_
  refine mr_tabOut C 70 dX8_draws_1 (by decide) (by decide) ?_
  refine mr_aload_n C 71 dX8_draws_70 rfl rfl ?_
  refine mr_get C 0 74 dX8_draws_71 rfl fl_X8_40 rfl rfl ?_
  refine mr_iload_n C 75 dX8_draws_74 rfl rfl ?_
  refine mr_iald C 11 r 76 dX8_draws_75 rfl rfl rfl (by omega) (by decide) ?_
  refine mr_iret C dX8_draws_76 rfl rfl (by decide) (by decide) hlen ?_
  rw [hO]
  exact ⟨congrArg (fun z => some (Value.int z)) (((if_neg nn_12).trans ((if_neg (fun h => nn_13 h.1)).trans (if_neg nn_15))).symm), rfl⟩

set_option maxRecDepth 20000 in
set_option maxHeartbeats 4000000 in
theorem c_draws2 (E : EG) (a : Nat → Nat) (tn st ac td lt lg cu tk sr tl fa fp gi gm tr : Int32) (la mn im ho fr wa tp wh go se no al be ik ke tc : FN) (G r : Nat) (hG : G < 2 ^ 30) (hr : r < 6) : Ctr E mX8_draws (1, 0, 0) [.ref (a 0), .int (nI 2), .int (nI r)] (wM E a tn st la mn im ho fr wa ac tp td lt lg cu tk sr tl fa fp wh go se no al be ((nI G)) gi gm ik ke tc tr) (fun v w => v = some (.int (drawS no al be G (nI 2) r)) ∧ w = wM E a tn st la mn im ho fr wa ac tp td lt lg cu tk sr tl fa fp wh go se no al be ((nI G)) gi gm ik ke tc tr) := by
  refine Ctr.of (by decide) (Nat.le_of_ble_eq_true rfl) ?_
  intro Z hO hn C
  have hlen : zn Z ≤ 17 := by rw [hn]; exact Nat.le_of_ble_eq_true rfl
  refine mr_iload_n C 1 dX8_draws_0 rfl rfl ?_
  refine mr_tabIn C 32 dX8_draws_1 (by decide) (by decide) rfl (by decide) ?_
  refine mr_aload_n C 33 dX8_draws_32 rfl rfl ?_
  refine mr_get C 0 36 dX8_draws_33 rfl fl_X8_43 rfl rfl ?_
  refine mr_iload_n C 37 dX8_draws_36 rfl rfl ?_
  refine mr_iald C 12 r 38 dX8_draws_37 rfl rfl rfl (by omega) (by decide) ?_
  refine mr_iret C dX8_draws_38 rfl rfl (by decide) (by decide) hlen ?_
  rw [hO]
  exact ⟨congrArg (fun z => some (Value.int z)) ((if_pos rfl).symm), rfl⟩

set_option maxRecDepth 20000 in
set_option maxHeartbeats 4000000 in
theorem c_draws3 (E : EG) (a : Nat → Nat) (tn st ac td lt lg cu tk sr tl fa fp gi gm tr : Int32) (la mn im ho fr wa tp wh go se no al be ik ke tc : FN) (G r : Nat) (hG : G < 2 ^ 30) (hr : r < 6) : Ctr E mX8_draws (1, 0, 0) [.ref (a 0), .int (nI 3), .int (nI r)] (wM E a tn st la mn im ho fr wa ac tp td lt lg cu tk sr tl fa fp wh go se no al be ((nI G)) gi gm ik ke tc tr) (fun v w => v = some (.int (drawS no al be G (nI 3) r)) ∧ w = wM E a tn st la mn im ho fr wa ac tp td lt lg cu tk sr tl fa fp wh go se no al be ((nI G)) gi gm ik ke tc tr) := by
  refine Ctr.of (by decide) (Nat.le_of_ble_eq_true rfl) ?_
  intro Z hO hn C
  have hlen : zn Z ≤ 17 := by rw [hn]; exact Nat.le_of_ble_eq_true rfl
  refine mr_iload_n C 1 dX8_draws_0 rfl rfl ?_
  refine mr_tabIn C 39 dX8_draws_1 (by decide) (by decide) rfl (by decide) ?_
  refine mr_aload_n C 40 dX8_draws_39 rfl rfl ?_
  refine mr_get C 0 43 dX8_draws_40 rfl fl_X8_192 rfl rfl ?_
  refine mr_ifne C 55 46 dX8_draws_43 (by decide) rfl (fun c_43 => ?_) (fun c_43 => ?_)
  · have c_43 : 0 < G := by
      rcases Nat.eq_zero_or_pos G with h | h
      · subst h; exact absurd rfl c_43
      · exact h
    refine mr_aload_n C 56 dX8_draws_55 rfl rfl ?_
    refine mr_get C 0 59 dX8_draws_56 rfl fl_X8_46 rfl rfl ?_
    refine mr_iload_n C 60 dX8_draws_59 rfl rfl ?_
    refine mr_iald C 13 r 61 dX8_draws_60 rfl rfl rfl (by omega) (by decide) ?_
    refine mr_iret C dX8_draws_61 rfl rfl (by decide) (by decide) hlen ?_
    rw [hO]
    exact ⟨congrArg (fun z => some (Value.int z)) (((if_neg nn_32).trans (if_pos ⟨rfl, c_43⟩)).symm), rfl⟩
  · have c_43 : ¬ 0 < G := fun h => nI_ne0 h (by omega) c_43
    refine mr_aload_n C 47 dX8_draws_46 rfl rfl ?_
    refine mr_get C 0 50 dX8_draws_47 rfl fl_X8_40 rfl rfl ?_
    refine mr_iload_n C 51 dX8_draws_50 rfl rfl ?_
    refine mr_iald C 11 r 52 dX8_draws_51 rfl rfl rfl (by omega) (by decide) ?_
    refine mr_goto C 61 dX8_draws_52 (by decide) ?_
    refine mr_iret C dX8_draws_61 rfl rfl (by decide) (by decide) hlen ?_
    rw [hO]
    exact ⟨congrArg (fun z => some (Value.int z)) (((if_neg nn_32).trans ((if_neg (fun h => absurd h.2 c_43)).trans (if_neg nn_35))).symm), rfl⟩

set_option maxRecDepth 20000 in
set_option maxHeartbeats 4000000 in
theorem c_draws4 (E : EG) (a : Nat → Nat) (tn st ac td lt lg cu tk sr tl fa fp gi gm tr : Int32) (la mn im ho fr wa tp wh go se no al be ik ke tc : FN) (G r : Nat) (hG : G < 2 ^ 30) (hr : r < 6) : Ctr E mX8_draws (1, 0, 0) [.ref (a 0), .int (nI 4), .int (nI r)] (wM E a tn st la mn im ho fr wa ac tp td lt lg cu tk sr tl fa fp wh go se no al be ((nI G)) gi gm ik ke tc tr) (fun v w => v = some (.int (drawS no al be G (nI 4) r)) ∧ w = wM E a tn st la mn im ho fr wa ac tp td lt lg cu tk sr tl fa fp wh go se no al be ((nI G)) gi gm ik ke tc tr) := by
  refine Ctr.of (by decide) (Nat.le_of_ble_eq_true rfl) ?_
  intro Z hO hn C
  have hlen : zn Z ≤ 17 := by rw [hn]; exact Nat.le_of_ble_eq_true rfl
  refine mr_iload_n C 1 dX8_draws_0 rfl rfl ?_
  refine mr_tabIn C 70 dX8_draws_1 (by decide) (by decide) rfl (by decide) ?_
  refine mr_aload_n C 71 dX8_draws_70 rfl rfl ?_
  refine mr_get C 0 74 dX8_draws_71 rfl fl_X8_40 rfl rfl ?_
  refine mr_iload_n C 75 dX8_draws_74 rfl rfl ?_
  refine mr_iald C 11 r 76 dX8_draws_75 rfl rfl rfl (by omega) (by decide) ?_
  refine mr_iret C dX8_draws_76 rfl rfl (by decide) (by decide) hlen ?_
  rw [hO]
  exact ⟨congrArg (fun z => some (Value.int z)) (((if_neg nn_42).trans ((if_neg (fun h => nn_43 h.1)).trans (if_neg nn_45))).symm), rfl⟩

set_option maxRecDepth 20000 in
set_option maxHeartbeats 4000000 in
theorem c_draws5 (E : EG) (a : Nat → Nat) (tn st ac td lt lg cu tk sr tl fa fp gi gm tr : Int32) (la mn im ho fr wa tp wh go se no al be ik ke tc : FN) (G r : Nat) (hG : G < 2 ^ 30) (hr : r < 6) : Ctr E mX8_draws (1, 0, 0) [.ref (a 0), .int (nI 5), .int (nI r)] (wM E a tn st la mn im ho fr wa ac tp td lt lg cu tk sr tl fa fp wh go se no al be ((nI G)) gi gm ik ke tc tr) (fun v w => v = some (.int (drawS no al be G (nI 5) r)) ∧ w = wM E a tn st la mn im ho fr wa ac tp td lt lg cu tk sr tl fa fp wh go se no al be ((nI G)) gi gm ik ke tc tr) := by
  refine Ctr.of (by decide) (Nat.le_of_ble_eq_true rfl) ?_
  intro Z hO hn C
  have hlen : zn Z ≤ 17 := by rw [hn]; exact Nat.le_of_ble_eq_true rfl
  refine mr_iload_n C 1 dX8_draws_0 rfl rfl ?_
  refine mr_tabIn C 62 dX8_draws_1 (by decide) (by decide) rfl (by decide) ?_
  refine mr_aload_n C 63 dX8_draws_62 rfl rfl ?_
  refine mr_get C 0 66 dX8_draws_63 rfl fl_X8_40 rfl rfl ?_
  refine mr_iload_n C 67 dX8_draws_66 rfl rfl ?_
  refine mr_iald C 11 r 68 dX8_draws_67 rfl rfl rfl (by omega) (by decide) ?_
  refine mr_ineg C 69 dX8_draws_68 rfl ?_
  refine mr_iret C dX8_draws_69 rfl rfl (by decide) (by decide) hlen ?_
  rw [hO]
  exact ⟨congrArg (fun z => some (Value.int z)) (((if_neg nn_52).trans ((if_neg (fun h => nn_53 h.1)).trans (if_pos rfl))).symm), rfl⟩

theorem c_draws (E : EG) (a : Nat → Nat) (tn st ac td lt lg cu tk sr tl fa fp gi gm tr : Int32) (la mn im ho fr wa tp wh go se no al be ik ke tc : FN) (G r k : Nat) (hG : G < 2 ^ 30) (hr : r < 6) (hk1 : 1 ≤ k) (hk5 : k ≤ 5) : Ctr E mX8_draws (1, 0, 0) [.ref (a 0), .int (nI k), .int (nI r)] (wM E a tn st la mn im ho fr wa ac tp td lt lg cu tk sr tl fa fp wh go se no al be ((nI G)) gi gm ik ke tc tr) (fun v w => v = some (.int (drawS no al be G (nI k) r)) ∧ w = wM E a tn st la mn im ho fr wa ac tp td lt lg cu tk sr tl fa fp wh go se no al be ((nI G)) gi gm ik ke tc tr) := by
  have h : k = 1 ∨ k = 2 ∨ k = 3 ∨ k = 4 ∨ k = 5 := by omega
  rcases h with rfl | rfl | rfl | rfl | rfl
  · exact c_draws1 E a tn st ac td lt lg cu tk sr tl fa fp gi gm tr la mn im ho fr wa tp wh go se no al be ik ke tc G r hG hr
  · exact c_draws2 E a tn st ac td lt lg cu tk sr tl fa fp gi gm tr la mn im ho fr wa tp wh go se no al be ik ke tc G r hG hr
  · exact c_draws3 E a tn st ac td lt lg cu tk sr tl fa fp gi gm tr la mn im ho fr wa tp wh go se no al be ik ke tc G r hG hr
  · exact c_draws4 E a tn st ac td lt lg cu tk sr tl fa fp gi gm tr la mn im ho fr wa tp wh go se no al be ik ke tc G r hG hr
  · exact c_draws5 E a tn st ac td lt lg cu tk sr tl fa fp gi gm tr la mn im ho fr wa tp wh go se no al be ik ke tc G r hG hr
set_option maxRecDepth 20000 in
set_option maxHeartbeats 4000000 in
theorem c_goesTo (E : EG) (a : Nat → Nat) (tn st ac td lt lg cu tk sr tl fa fp gi gm tr : Int32) (la mn im ho fr wa tp wh go se no al be ik ke tc : FN) (R G c k own : Nat) (hR : R ≤ 6) (hG : G < 2 ^ 30) (h0 : ho 0 = nI R) (hc : c < 5) (hk1 : 1 ≤ k) (hk5 : k ≤ 5) (hkk : hoS ho c = nI k) (ho6 : own < 6) (how : wh c = nI own) : Ctr E mX8_goesTo (2, 0, 0) [.ref (a 0), .int (nI c)] (wM E a tn st la mn im ho fr wa ac tp td lt lg cu tk sr tl fa fp wh go se no al be ((nI G)) gi gm ik ke tc tr) (fun v w => v = some (.int (nI (goalS (drawS no al be G (hoS ho c)) (se own) (hoS ho c) own R))) ∧ w = wM E a tn st la mn im ho fr wa ac tp td lt lg cu tk sr tl fa fp wh go se no al be ((nI G)) gi gm ik ke tc tr) := by
  refine Ctr.of (by decide) (Nat.le_of_ble_eq_true rfl) ?_
  intro Z hO hn C
  have hlen : zn Z ≤ 17 := by rw [hn]; exact Nat.le_of_ble_eq_true rfl
  have L : ¬ k = 4 → ∀ i, i ≤ R → V E mX8_goesTo (2, 0, 0) Z 0 0 (wM E a tn st la mn im ho fr wa ac tp td lt lg cu tk sr tl fa fp wh go se no al be ((nI G)) gi gm ik ke tc tr) [(0, .ref (a 0)), (1, .int (nI c)), (2, .int (nI k)), (3, .int (nI own)), (4, .int (nI (bestS (drawS no al be G (nI k)) (se own) own i))), (5, .int ((drawS no al be G (nI k)) (bestS (drawS no al be G (nI k)) (se own) own i))), (6, .int (nI i))] [] 35 := by
    intro hk4
    have hk4 : ¬ nI k = nI 4 := fun h => hk4 ((nI_eq (by omega) (by decide)).mp h)
    refine lp_up R ?_
    intro i hi ih
    refine mr_iload C 37 dX8_goesTo_35 rfl rfl ?_
    refine mr_aload_n C 38 dX8_goesTo_37 rfl rfl ?_
    refine mr_get C 0 41 dX8_goesTo_38 rfl fl_X8_19 rfl rfl ?_
    refine mr_iconst C (nI 0) 42 dX8_goesTo_41 rfl rfl ?_
    refine mr_iale C 4 0 (nI R) 43 dX8_goesTo_42 rfl rfl rfl (by omega) (by decide) h0 ?_
    refine mr_icmpge C 92 46 dX8_goesTo_43 (by decide) rfl (fun c_43 => ?_) (fun c_43 => ?_)
    · rw [nI_leI (by omega) (by omega)] at c_43
      refine mr_iload C 94 dX8_goesTo_92 rfl rfl ?_
      refine mr_iret C dX8_goesTo_94 rfl rfl (by decide) (by decide) hlen ?_
      rw [hO]
      obtain rfl : i = R := by omega
      exact ⟨congrArg (fun z => some (Value.int z)) (congrArg nI (by rw [hkk]; exact (if_neg hk4).symm)), rfl⟩
    · rw [nI_leI (by omega) (by omega)] at c_43
      refine mr_aload_n C 47 dX8_goesTo_46 rfl rfl ?_
      refine mr_get C 0 50 dX8_goesTo_47 rfl fl_X8_37 rfl rfl ?_
      refine mr_iload_n C 51 dX8_goesTo_50 rfl rfl ?_
      refine mr_iald C 10 own 52 dX8_goesTo_51 rfl rfl rfl (by omega) (by decide) ?_
      refine mr_iload C 54 dX8_goesTo_52 rfl rfl ?_
      refine mr_ishr C _ 55 dX8_goesTo_54 rfl rfl ?_
      refine mr_iconst C (nI 1) 56 dX8_goesTo_55 rfl rfl ?_
      refine mr_iand C _ 57 dX8_goesTo_56 rfl rfl ?_
      refine mr_iconst C (nI 1) 58 dX8_goesTo_57 rfl rfl ?_
      refine mr_icmpne C 86 61 dX8_goesTo_58 (by decide) rfl (fun c_58 => ?_) (fun c_58 => ?_)
      · refine mr_iinc C (nI (i + 1)) 89 dX8_goesTo_86 rfl rfl (by decide) (nI_add i 1) ?_
        refine mr_goto C 35 dX8_goesTo_89 (by decide) ?_
        have e : bestS (drawS no al be G (nI k)) (se own) own (i + 1) = bestS (drawS no al be G (nI k)) (se own) own i := if_neg (fun h => c_58 h.1)
        have ih2 := ih (by omega)
        rw [e] at ih2
        exact mr_at ih2 rfl rfl rfl
      · refine mr_aload_n C 62 dX8_goesTo_61 rfl rfl ?_
        refine mr_iload_n C 63 dX8_goesTo_62 rfl rfl ?_
        refine mr_iload C 65 dX8_goesTo_63 rfl rfl ?_
        refine mr_callV C (c_draws E a tn st ac td lt lg cu tk sr tl fa fp gi gm tr la mn im ho fr wa tp wh go se no al be ik ke tc G i k hG (by omega) hk1 hk5) [0, 1, 2, 3, 4, 5, 6, 7, 8, 9, 10, 11, 12, 13, 14, 15, 16] 0 8 68 dX8_goesTo_65 rfl mk_X8_draws mi_X8_draws ml_X8_204 rfl rfl rfl rfl rfl (Nat.le_of_ble_eq_true rfl) (by decide) (by decide) (by decide) rfl rfl (fun r w1 hpost => ?_)
        obtain ⟨rfl, rfl⟩ := hpost
        refine mr_w (wput_all _ _ 17 rfl rfl) ?_
        refine mr_iload C 70 dX8_goesTo_68 rfl rfl ?_
        refine mr_icmple C 86 73 dX8_goesTo_70 (by decide) rfl (fun c_70 => ?_) (fun c_70 => ?_)
        · refine mr_iinc C (nI (i + 1)) 89 dX8_goesTo_86 rfl rfl (by decide) (nI_add i 1) ?_
          refine mr_goto C 35 dX8_goesTo_89 (by decide) ?_
          have e : bestS (drawS no al be G (nI k)) (se own) own (i + 1) = bestS (drawS no al be G (nI k)) (se own) own i := if_neg (fun h => (Int32.not_lt.mpr c_70) h.2)
          have ih2 := ih (by omega)
          rw [e] at ih2
          exact mr_at ih2 rfl rfl rfl
        · refine mr_aload_n C 74 dX8_goesTo_73 rfl rfl ?_
          refine mr_iload_n C 75 dX8_goesTo_74 rfl rfl ?_
          refine mr_iload C 77 dX8_goesTo_75 rfl rfl ?_
          refine mr_callV C (c_draws E a tn st ac td lt lg cu tk sr tl fa fp gi gm tr la mn im ho fr wa tp wh go se no al be ik ke tc G i k hG (by omega) hk1 hk5) [0, 1, 2, 3, 4, 5, 6, 7, 8, 9, 10, 11, 12, 13, 14, 15, 16] 0 8 80 dX8_goesTo_77 rfl mk_X8_draws mi_X8_draws ml_X8_204 rfl rfl rfl rfl rfl (Nat.le_of_ble_eq_true rfl) (by decide) (by decide) (by decide) rfl rfl (fun r w1 hpost => ?_)
          obtain ⟨rfl, rfl⟩ := hpost
          refine mr_w (wput_all _ _ 17 rfl rfl) ?_
          refine mr_istore C 82 dX8_goesTo_80 rfl (by decide) ?_
          refine mr_iload C 84 dX8_goesTo_82 rfl rfl ?_
          refine mr_istore C 86 dX8_goesTo_84 rfl (by decide) ?_
          refine mr_iinc C (nI (i + 1)) 89 dX8_goesTo_86 rfl rfl (by decide) (nI_add i 1) ?_
          refine mr_goto C 35 dX8_goesTo_89 (by decide) ?_
          have e : bestS (drawS no al be G (nI k)) (se own) own (i + 1) = i := if_pos ⟨c_58, Int32.not_le.mp c_70⟩
          have ih2 := ih (by omega)
          rw [e] at ih2
          exact mr_at ih2 rfl rfl rfl
  refine mr_aload_n C 1 dX8_goesTo_0 rfl rfl ?_
  refine mr_iload_n C 2 dX8_goesTo_1 rfl rfl ?_
  refine mr_iconst C (nI 0) 3 dX8_goesTo_2 rfl rfl ?_
  refine mr_callV C (c_of E a tn st ac td lt lg cu tk sr tl fa fp (nI G) gi gm tr la mn im ho fr wa tp wh go se no al be ik ke tc c 0 (by omega) (by decide) (nI k) hkk) [0, 1, 2, 3, 4, 5, 6, 7, 8, 9, 10, 11, 12, 13, 14, 15, 16] 0 8 6 dX8_goesTo_3 rfl mk_X8_of mi_X8_of ml_X8_201 rfl rfl rfl rfl rfl (Nat.le_of_ble_eq_true rfl) (by decide) (by decide) (by decide) rfl rfl (fun r w1 hpost => ?_)
  obtain ⟨rfl, rfl⟩ := hpost
  refine mr_w (wput_all _ _ 17 rfl rfl) ?_
  refine mr_istore_n C 7 dX8_goesTo_6 rfl rfl (by decide) ?_
  refine mr_aload_n C 8 dX8_goesTo_7 rfl rfl ?_
  refine mr_get C 0 11 dX8_goesTo_8 rfl fl_X8_31 rfl rfl ?_
  refine mr_iload_n C 12 dX8_goesTo_11 rfl rfl ?_
  refine mr_iale C 8 c (nI own) 13 dX8_goesTo_12 rfl rfl rfl (by omega) (by decide) how ?_
  refine mr_istore_n C 14 dX8_goesTo_13 rfl rfl (by decide) ?_
  refine mr_iload_n C 15 dX8_goesTo_14 rfl rfl ?_
  refine mr_iconst C (nI 4) 16 dX8_goesTo_15 rfl rfl ?_
  refine mr_icmpne C 21 19 dX8_goesTo_16 (by decide) rfl (fun c_16 => ?_) (fun c_16 => ?_)
  · rw [Ne, nI_eq (by omega) (by omega)] at c_16
    refine mr_iload_n C 22 dX8_goesTo_21 rfl rfl ?_
    refine mr_istore C 24 dX8_goesTo_22 rfl (by decide) ?_
    refine mr_aload_n C 25 dX8_goesTo_24 rfl rfl ?_
    refine mr_iload_n C 26 dX8_goesTo_25 rfl rfl ?_
    refine mr_iload_n C 27 dX8_goesTo_26 rfl rfl ?_
    refine mr_callV C (c_draws E a tn st ac td lt lg cu tk sr tl fa fp gi gm tr la mn im ho fr wa tp wh go se no al be ik ke tc G own k hG (by omega) hk1 hk5) [0, 1, 2, 3, 4, 5, 6, 7, 8, 9, 10, 11, 12, 13, 14, 15, 16] 0 8 30 dX8_goesTo_27 rfl mk_X8_draws mi_X8_draws ml_X8_204 rfl rfl rfl rfl rfl (Nat.le_of_ble_eq_true rfl) (by decide) (by decide) (by decide) rfl rfl (fun r w1 hpost => ?_)
    obtain ⟨rfl, rfl⟩ := hpost
    refine mr_w (wput_all _ _ 17 rfl rfl) ?_
    refine mr_istore C 32 dX8_goesTo_30 rfl (by decide) ?_
    refine mr_iconst C (nI 0) 33 dX8_goesTo_32 rfl rfl ?_
    refine mr_istore C 35 dX8_goesTo_33 rfl (by decide) ?_
    exact mr_at (L c_16 0 (Nat.zero_le _)) rfl rfl rfl
  · rw [nI_eq (by omega) (by omega)] at c_16
    refine mr_iload_n C 20 dX8_goesTo_19 rfl rfl ?_
    refine mr_iret C dX8_goesTo_20 rfl rfl (by decide) (by decide) hlen ?_
    rw [hO]
    exact ⟨congrArg (fun z => some (Value.int z)) (congrArg nI (by rw [hkk]; subst c_16; exact (if_pos rfl).symm)), rfl⟩

theorem or0 {x : Int32} : x ||| nI 0 = x := Int32.or_zero
set_option maxRecDepth 20000 in
set_option maxHeartbeats 4000000 in
theorem c_goBell (E : EG) (a : Nat → Nat) (tn st ac td lt lg cu tk sr tl fa fp gm tr : Int32) (la mn im ho fr wa tp wh go se no al be ik ke tc : FN) (R K G g : Nat) (l : Nat → Nat) (hR : R ≤ 6) (hK : K ≤ 5) (hG : G < 2 ^ 30) (hg : g < 6) (h0 : ho 0 = nI R) (h2 : ho 2 = nI K) (hk : ∀ c, c < K → ∃ k, 1 ≤ k ∧ k ≤ 5 ∧ hoS ho c = nI k) (hwh : ∀ c, c < K → wh c = nI (l c) ∧ l c < 6) : Ctr E mX8_goBell (3, 0, 0) [.ref (a 0)] (wM E a tn st la mn im ho fr wa ac tp td lt lg cu tk sr tl fa fp wh go se no al be ((nI G)) ((nI g)) gm ik ke tc tr) (fun v w => ∃ wh1 be1 f1 f2 h : FN, v = some (.int (wentS l (goS gm g R K G se be (hoS ho) l (hoH ho)) K)) ∧ w = wM E a tn st la mn im ho fr wa ac tp td lt lg cu tk sr tl fa fp wh1 h se f1 f2 be1 ((nI (G + 1))) ((nI g)) gm ik ke tc tr ∧ Ag 6 be1 (cntS (gst gm g) l (hoH ho) K) ∧ ∀ c, c < K → wh1 c = nI (goS gm g R K G se be (hoS ho) l (hoH ho) c)) := by
  refine Ctr.of (by decide) (Nat.le_of_ble_eq_true rfl) ?_
  intro Z hO hn C
  have hlen : zn Z ≤ 17 := by rw [hn]; exact Nat.le_of_ble_eq_true rfl
  have L3 : ∀ f1 f2 h f : FN, Ag 6 f1 (cntS (gst gm g) l (hoH ho) K) → (∀ c, c < K → f c = nI (goS gm g R K G se be (hoS ho) l (hoH ho) c)) → ∀ i, i ≤ 6 → ∀ f3 : FN, (∀ j, j < i → f3 j = f1 j) → V E mX8_goBell (3, 0, 0) Z 0 0 (wM E a tn st la mn im ho fr wa ac tp td lt lg cu tk sr tl fa fp f h se f1 f2 f3 ((nI G)) ((nI g)) gm ik ke tc tr) [(0, .ref (a 0)), (1, .int (wentS l (goS gm g R K G se be (hoS ho) l (hoH ho)) K)), (2, .int (nI i))] [] 92 := by
    intro f1 f2 h f hf1 hf
    refine lp_up 6 ?_
    intro i hi ih f3 hf3
    refine mr_iload_n C 93 dX8_goBell_92 rfl rfl ?_
    refine mr_bipush C (nI 6) 95 dX8_goBell_93 rfl rfl ?_
    refine mr_icmpge C 116 98 dX8_goBell_95 (by decide) rfl (fun c_95 => ?_) (fun c_95 => ?_)
    · rw [nI_leI (by omega) (by omega)] at c_95
      refine mr_aload_n C 117 dX8_goBell_116 rfl rfl ?_
      refine mr_dup C 118 dX8_goBell_117 rfl rfl ?_
      refine mr_get C 0 121 dX8_goBell_118 rfl fl_X8_192 rfl rfl ?_
      refine mr_iconst C (nI 1) 122 dX8_goBell_121 rfl rfl ?_
      refine mr_iadd C (nI (G + 1)) 123 dX8_goBell_122 rfl (nI_add _ _) ?_
      refine mr_put C 0 126 dX8_goBell_123 rfl fs_X8_192 rfl rfl rfl (Nat.le_of_ble_eq_true rfl) ?_
      refine mr_iload_n C 127 dX8_goBell_126 rfl rfl ?_
      refine mr_iret C dX8_goBell_127 rfl rfl (by decide) (by decide) hlen ?_
      rw [hO]
      obtain rfl : i = 6 := by omega
      exact ⟨f, f3, f1, f2, h, rfl, rfl, fun r hr => (hf3 r hr).trans (hf1 r hr), hf⟩
    · rw [nI_leI (by omega) (by omega)] at c_95
      refine mr_aload_n C 99 dX8_goBell_98 rfl rfl ?_
      refine mr_get C 0 102 dX8_goBell_99 rfl fl_X8_46 rfl rfl ?_
      refine mr_iload_n C 103 dX8_goBell_102 rfl rfl ?_
      refine mr_aload_n C 104 dX8_goBell_103 rfl rfl ?_
      refine mr_get C 0 107 dX8_goBell_104 rfl fl_X8_40 rfl rfl ?_
      refine mr_iload_n C 108 dX8_goBell_107 rfl rfl ?_
      refine mr_iald C 11 i 109 dX8_goBell_108 rfl rfl rfl (by omega) (by decide) ?_
      refine mr_iast C 13 i 110 dX8_goBell_109 rfl rfl rfl (by omega) (by decide) ?_
      refine mr_iinc C (nI (i + 1)) 113 dX8_goBell_110 rfl rfl (by decide) (nI_add i 1) ?_
      refine mr_goto C 92 dX8_goBell_113 (by decide) ?_
      refine mr_at (ih (by omega) _ ?_) rfl rfl rfl
      intro j hj
      rw [up_at]
      by_cases e : j = i
      · rw [if_pos e, e]
      · rw [if_neg e]; exact hf3 j (by omega)
  have L2 : ∀ f1 f2 h : FN, Ag 6 f1 (cntS (gst gm g) l (hoH ho) K) → (∀ c, c < K → h c = nI (goS gm g R K G se be (hoS ho) l (hoH ho) c)) → ∀ i, i ≤ K → ∀ f : FN, (∀ j, j < K → f j = if j < i then nI (goS gm g R K G se be (hoS ho) l (hoH ho) j) else nI (l j)) → V E mX8_goBell (3, 0, 0) Z 0 0 (wM E a tn st la mn im ho fr wa ac tp td lt lg cu tk sr tl fa fp f h se f1 f2 be ((nI G)) ((nI g)) gm ik ke tc tr) [(0, .ref (a 0)), (1, .int (wentS l (goS gm g R K G se be (hoS ho) l (hoH ho)) i)), (2, .int (nI i))] [] 37 := by
    intro f1 f2 h hf1 hh
    refine lp_up K ?_
    intro i hi ih f hf
    refine mr_iload_n C 38 dX8_goBell_37 rfl rfl ?_
    refine mr_aload_n C 39 dX8_goBell_38 rfl rfl ?_
    refine mr_get C 0 42 dX8_goBell_39 rfl fl_X8_19 rfl rfl ?_
    refine mr_iconst C (nI 2) 43 dX8_goBell_42 rfl rfl ?_
    refine mr_iale C 4 2 (nI K) 44 dX8_goBell_43 rfl rfl rfl (by omega) (by decide) h2 ?_
    refine mr_icmpge C 90 47 dX8_goBell_44 (by decide) rfl (fun c_44 => ?_) (fun c_44 => ?_)
    · rw [nI_leI (by omega) (by omega)] at c_44
      refine mr_iconst C (nI 0) 91 dX8_goBell_90 rfl rfl ?_
      refine mr_istore_n C 92 dX8_goBell_91 rfl rfl (by decide) ?_
      obtain rfl : i = K := by omega
      exact mr_at (L3 f1 f2 h f hf1 (fun c hc => by rw [hf c hc, if_pos hc]) 0 (Nat.zero_le _) be (fun j h => absurd h (Nat.not_lt_zero j))) rfl rfl rfl
    · rw [nI_leI (by omega) (by omega)] at c_44
      refine mr_iload_n C 48 dX8_goBell_47 rfl rfl ?_
      refine mr_aload_n C 49 dX8_goBell_48 rfl rfl ?_
      refine mr_get C 0 52 dX8_goBell_49 rfl fl_X8_34 rfl rfl ?_
      refine mr_iload_n C 53 dX8_goBell_52 rfl rfl ?_
      refine mr_iald C 9 i 54 dX8_goBell_53 rfl rfl rfl (by omega) (by decide) ?_
      refine mr_aload_n C 55 dX8_goBell_54 rfl rfl ?_
      refine mr_get C 0 58 dX8_goBell_55 rfl fl_X8_31 rfl rfl ?_
      refine mr_iload_n C 59 dX8_goBell_58 rfl rfl ?_
      refine mr_iald C 8 i 60 dX8_goBell_59 rfl rfl rfl (by omega) (by decide) ?_
      refine mr_icmpeq C 69 63 dX8_goBell_60 (by decide) rfl (fun c_60 => ?_) (fun c_60 => ?_)
      · rw [hh i (by omega), hf i (by omega), if_neg (Nat.lt_irrefl i), nI_eq (Nat.lt_trans (goS_lt (hwh i (by omega)).2 hR) (by decide)) (Nat.lt_trans (hwh i (by omega)).2 (by decide))] at c_60
        refine mr_iconst C (nI 0) 70 dX8_goBell_69 rfl rfl ?_
        refine mr_ior C _ 71 dX8_goBell_70 rfl rfl ?_
        refine mr_istore_n C 72 dX8_goBell_71 rfl rfl (by decide) ?_
        refine mr_aload_n C 73 dX8_goBell_72 rfl rfl ?_
        refine mr_get C 0 76 dX8_goBell_73 rfl fl_X8_31 rfl rfl ?_
        refine mr_iload_n C 77 dX8_goBell_76 rfl rfl ?_
        refine mr_aload_n C 78 dX8_goBell_77 rfl rfl ?_
        refine mr_get C 0 81 dX8_goBell_78 rfl fl_X8_34 rfl rfl ?_
        refine mr_iload_n C 82 dX8_goBell_81 rfl rfl ?_
        refine mr_iald C 9 i 83 dX8_goBell_82 rfl rfl rfl (by omega) (by decide) ?_
        refine mr_iast C 8 i 84 dX8_goBell_83 rfl rfl rfl (by omega) (by decide) ?_
        refine mr_iinc C (nI (i + 1)) 87 dX8_goBell_84 rfl rfl (by decide) (nI_add i 1) ?_
        refine mr_goto C 37 dX8_goBell_87 (by decide) ?_
        have e : wentS l (goS gm g R K G se be (hoS ho) l (hoH ho)) (i + 1) = _ := if_pos c_60
        have ih2 := ih (by omega)
        rw [e] at ih2
        rw [or0] 
        refine mr_at (ih2 _ ?_) rfl rfl rfl
        intro j hj
        rw [up_at]
        by_cases e : j = i
        · rw [if_pos e, if_pos (by omega), hh i (by omega), e]
        · rw [if_neg e, hf j hj]
          by_cases e2 : j < i
          · rw [if_pos e2, if_pos (by omega)]
          · rw [if_neg e2, if_neg (by omega)]
      · rw [hh i (by omega), hf i (by omega), if_neg (Nat.lt_irrefl i), nI_eq (Nat.lt_trans (goS_lt (hwh i (by omega)).2 hR) (by decide)) (Nat.lt_trans (hwh i (by omega)).2 (by decide))] at c_60
        refine mr_iconst C (nI 1) 64 dX8_goBell_63 rfl rfl ?_
        refine mr_iload_n C 65 dX8_goBell_64 rfl rfl ?_
        refine mr_ishl C _ 66 dX8_goBell_65 rfl rfl ?_
        refine mr_goto C 70 dX8_goBell_66 (by decide) ?_
        refine mr_ior C _ 71 dX8_goBell_70 rfl rfl ?_
        refine mr_istore_n C 72 dX8_goBell_71 rfl rfl (by decide) ?_
        refine mr_aload_n C 73 dX8_goBell_72 rfl rfl ?_
        refine mr_get C 0 76 dX8_goBell_73 rfl fl_X8_31 rfl rfl ?_
        refine mr_iload_n C 77 dX8_goBell_76 rfl rfl ?_
        refine mr_aload_n C 78 dX8_goBell_77 rfl rfl ?_
        refine mr_get C 0 81 dX8_goBell_78 rfl fl_X8_34 rfl rfl ?_
        refine mr_iload_n C 82 dX8_goBell_81 rfl rfl ?_
        refine mr_iald C 9 i 83 dX8_goBell_82 rfl rfl rfl (by omega) (by decide) ?_
        refine mr_iast C 8 i 84 dX8_goBell_83 rfl rfl rfl (by omega) (by decide) ?_
        refine mr_iinc C (nI (i + 1)) 87 dX8_goBell_84 rfl rfl (by decide) (nI_add i 1) ?_
        refine mr_goto C 37 dX8_goBell_87 (by decide) ?_
        have e : wentS l (goS gm g R K G se be (hoS ho) l (hoH ho)) (i + 1) = _ := if_neg c_60
        have ih2 := ih (by omega)
        rw [e] at ih2
        refine mr_at (ih2 _ ?_) rfl rfl rfl
        intro j hj
        rw [up_at]
        by_cases e : j = i
        · rw [if_pos e, if_pos (by omega), hh i (by omega), e]
        · rw [if_neg e, hf j hj]
          by_cases e2 : j < i
          · rw [if_pos e2, if_pos (by omega)]
          · rw [if_neg e2, if_neg (by omega)]
  have L1 : ∀ f1 f2 : FN, Ag 6 f1 (cntS (gst gm g) l (hoH ho) K) → Ag 6 f2 (cntS (fun _ => nI 0) l (hLike (hoS ho) (hoH ho)) K) → ∀ i, i ≤ K → ∀ h : FN, (∀ j, j < i → h j = nI (goS gm g R K G se be (hoS ho) l (hoH ho) j)) → V E mX8_goBell (3, 0, 0) Z 0 0 (wM E a tn st la mn im ho fr wa ac tp td lt lg cu tk sr tl fa fp wh h se f1 f2 be ((nI G)) ((nI g)) gm ik ke tc tr) [(0, .ref (a 0)), (1, .int (nI 0)), (2, .int (nI i))] [] 8 := by
    intro f1 f2 hf1 hf2
    refine lp_up K ?_
    intro i hi ih h hh
    refine mr_iload_n C 9 dX8_goBell_8 rfl rfl ?_
    refine mr_aload_n C 10 dX8_goBell_9 rfl rfl ?_
    refine mr_get C 0 13 dX8_goBell_10 rfl fl_X8_19 rfl rfl ?_
    refine mr_iconst C (nI 2) 14 dX8_goBell_13 rfl rfl ?_
    refine mr_iale C 4 2 (nI K) 15 dX8_goBell_14 rfl rfl rfl (by omega) (by decide) h2 ?_
    refine mr_icmpge C 35 18 dX8_goBell_15 (by decide) rfl (fun c_15 => ?_) (fun c_15 => ?_)
    · rw [nI_leI (by omega) (by omega)] at c_15
      refine mr_iconst C (nI 0) 36 dX8_goBell_35 rfl rfl ?_
      refine mr_istore_n C 37 dX8_goBell_36 rfl rfl (by decide) ?_
      obtain rfl : i = K := by omega
      refine mr_at (L2 f1 f2 h hf1 hh 0 (Nat.zero_le _) wh ?_) rfl rfl rfl
      intro j hj
      rw [if_neg (Nat.not_lt_zero j)]; exact (hwh j hj).1
    · rw [nI_leI (by omega) (by omega)] at c_15
      refine mr_aload_n C 19 dX8_goBell_18 rfl rfl ?_
      refine mr_get C 0 22 dX8_goBell_19 rfl fl_X8_34 rfl rfl ?_
      refine mr_iload_n C 23 dX8_goBell_22 rfl rfl ?_
      refine mr_aload_n C 24 dX8_goBell_23 rfl rfl ?_
      refine mr_iload_n C 25 dX8_goBell_24 rfl rfl ?_
      obtain ⟨k, hk1, hk5, hkk⟩ := hk i (by omega)
      refine mr_callV C (c_goesTo E a tn st ac td lt lg cu tk sr tl fa fp (nI g) gm tr la mn im ho fr wa tp wh h se f1 f2 be ik ke tc R G i k (l i) hR hG h0 (by omega) hk1 hk5 hkk (hwh i (by omega)).2 (hwh i (by omega)).1) [0, 1, 2, 3, 4, 5, 6, 7, 8, 9, 10, 11, 12, 13, 14, 15, 16] 0 8 28 dX8_goBell_25 rfl mk_X8_goesTo mi_X8_goesTo ml_X8_210 rfl rfl rfl rfl rfl (Nat.le_of_ble_eq_true rfl) (by decide) (by decide) (by decide) rfl rfl (fun r w1 hpost => ?_)
      obtain ⟨rfl, rfl⟩ := hpost
      refine mr_w (wput_all _ _ 17 rfl rfl) ?_
      rw [goS_of hf1 hf2 (hwh i (by omega)).2 hR]
      refine mr_iast C 9 i 29 dX8_goBell_28 rfl rfl rfl (by omega) (by decide) ?_
      refine mr_iinc C (nI (i + 1)) 32 dX8_goBell_29 rfl rfl (by decide) (nI_add i 1) ?_
      refine mr_goto C 8 dX8_goBell_32 (by decide) ?_
      refine mr_at (ih (by omega) _ ?_) rfl rfl rfl
      intro j hj
      rw [up_at]
      by_cases e : j = i
      · rw [if_pos e, e]
      · rw [if_neg e]; exact hh j (by omega)
  refine mr_aload_n C 1 dX8_goBell_0 rfl rfl ?_
  refine mr_callV C (c_layCounts E a tn st ac td lt lg cu tk sr tl fa fp (nI G) gm tr la mn im ho fr wa tp wh go se no al be ik ke tc K g l hK hg h2 hwh) [0, 1, 2, 3, 4, 5, 6, 7, 8, 9, 10, 11, 12, 13, 14, 15, 16] 0 8 4 dX8_goBell_1 rfl mk_X8_layCounts mi_X8_layCounts ml_X8_207 rfl rfl rfl rfl rfl (Nat.le_of_ble_eq_true rfl) (by decide) (by decide) (by decide) rfl rfl (fun r w1 hpost => ?_)
  obtain ⟨f1, f2, rfl, rfl, hf1, hf2⟩ := hpost
  refine mr_w (wput_all _ _ 17 rfl rfl) ?_
  refine mr_iconst C (nI 0) 5 dX8_goBell_4 rfl rfl ?_
  refine mr_istore_n C 6 dX8_goBell_5 rfl rfl (by decide) ?_
  refine mr_iconst C (nI 0) 7 dX8_goBell_6 rfl rfl ?_
  refine mr_istore_n C 8 dX8_goBell_7 rfl rfl (by decide) ?_
  exact mr_at (L1 f1 f2 hf1 hf2 0 (Nat.zero_le _) go (fun j h => absurd h (Nat.not_lt_zero j))) rfl rfl rfl

