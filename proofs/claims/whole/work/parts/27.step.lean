/-! Tape: a step -/
set_option maxRecDepth 20000 in
set_option maxHeartbeats 4000000 in
theorem c_step (E : EG) (a : Nat → Nat) (b : Nat) (t : FN) (tk sr vl : Int32) (S p0 : Nat) (hS : S ≤ 400) (hp0 : p0 ≤ S) : Ctr E mX6_step (2, 0, 0) [.ref (a b)] (wT E a b t (nI S) tk sr (nI p0) vl) (fun v w => ∃ vl2 : Int32, v = none ∧ w = wT E a b t (nI S) (nI (tkS t S p0)) (nI (stS t S p0)) (nI (nxS t S p0)) vl2 ∧ (tkS t S p0 = 2 → vl2 = valS t (stS t S p0) (nxS t S p0 - stS t S p0))) := by
  refine Ctr.of (by decide) (Nat.le_of_ble_eq_true rfl) ?_
  intro Z hO hn C
  have hlen : zn Z ≤ 2 := by rw [hn]; exact Nat.le_of_ble_eq_true rfl
  generalize he0 : stS t S p0 = s at hO
  have hs : s ≤ S := by rw [← he0]; exact (stS_le hp0).2
  have LE : s ≤ S → V E mX6_step (2, 0, 0) Z 0 0 (wT E a b t (nI S) tk sr (nI s) vl) [(0, .ref (a b))] [] 39 := by
    intro _
    refine mr_aload_n C 40 dX6_step_39 rfl rfl ?_
    refine mr_aload_n C 41 dX6_step_40 rfl rfl ?_
    refine mr_get C 0 44 dX6_step_41 rfl fl_X6_19 rfl rfl ?_
    refine mr_put C 0 47 dX6_step_44 rfl fs_X6_29 rfl rfl rfl (Nat.le_of_ble_eq_true rfl) ?_
    refine mr_aload_n C 48 dX6_step_47 rfl rfl ?_
    refine mr_get C 0 51 dX6_step_48 rfl fl_X6_19 rfl rfl ?_
    refine mr_aload_n C 52 dX6_step_51 rfl rfl ?_
    refine mr_get C 0 55 dX6_step_52 rfl fl_X6_15 rfl rfl ?_
    refine mr_icmplt C 66 58 dX6_step_55 (by decide) rfl (fun c_55 => ?_) (fun c_55 => ?_)
    · rw [nI_ltI (by omega) (by omega)] at c_55
      refine mr_aload_n C 67 dX6_step_66 rfl rfl ?_
      refine mr_get C 0 70 dX6_step_67 rfl fl_X6_9 rfl rfl ?_
      refine mr_aload_n C 71 dX6_step_70 rfl rfl ?_
      refine mr_get C 0 74 dX6_step_71 rfl fl_X6_19 rfl rfl ?_
      refine mr_iald C 1 s 75 dX6_step_74 rfl rfl rfl (by omega) (by decide) ?_
      refine mr_callS C (c_isLetter E (t s)) [] 78 dX6_step_75 rfl mk_X6_isLetter ms_X6_isLetter ml_X6_35 rfl rfl rfl rfl (Nat.le_of_ble_eq_true rfl) (by decide) (by decide) (by decide) (fun r w1 hpost => ?_)
      obtain ⟨rfl, rfl⟩ := hpost
      refine mr_w (ws' := wT E a b t (nI S) tk (nI s) (nI s) vl) rfl ?_
      refine mr_ifeq C 88 81 dX6_step_78 (by decide) rfl (fun c_78 => ?_) (fun c_78 => ?_)
      · rw [bI_eq] at c_78
        refine mr_aload_n C 89 dX6_step_88 rfl rfl ?_
        refine mr_get C 0 92 dX6_step_89 rfl fl_X6_9 rfl rfl ?_
        refine mr_aload_n C 93 dX6_step_92 rfl rfl ?_
        refine mr_get C 0 96 dX6_step_93 rfl fl_X6_19 rfl rfl ?_
        refine mr_iald C 1 s 97 dX6_step_96 rfl rfl rfl (by omega) (by decide) ?_
        refine mr_callS C (c_isFigure E (t s)) [] 100 dX6_step_97 rfl mk_X6_isFigure ms_X6_isFigure ml_X6_41 rfl rfl rfl rfl (Nat.le_of_ble_eq_true rfl) (by decide) (by decide) (by decide) (fun r w1 hpost => ?_)
        obtain ⟨rfl, rfl⟩ := hpost
        refine mr_w (ws' := wT E a b t (nI S) tk (nI s) (nI s) vl) rfl ?_
        refine mr_ifeq C 110 103 dX6_step_100 (by decide) rfl (fun c_100 => ?_) (fun c_100 => ?_)
        · rw [bI_eq] at c_100
          refine mr_aload_n C 111 dX6_step_110 rfl rfl ?_
          refine mr_aload_n C 112 dX6_step_111 rfl rfl ?_
          refine mr_get C 0 115 dX6_step_112 rfl fl_X6_9 rfl rfl ?_
          refine mr_aload_n C 116 dX6_step_115 rfl rfl ?_
          refine mr_get C 0 119 dX6_step_116 rfl fl_X6_19 rfl rfl ?_
          refine mr_iald C 1 s 120 dX6_step_119 rfl rfl rfl (by omega) (by decide) ?_
          refine mr_bipush C (nI 59) 122 dX6_step_120 rfl rfl ?_
          refine mr_icmpne C 129 125 dX6_step_122 (by decide) rfl (fun c_122 => ?_) (fun c_122 => ?_)
          · refine mr_iconst C (nI 4) 130 dX6_step_129 rfl rfl ?_
            refine mr_put C 0 133 dX6_step_130 rfl fs_X6_32 rfl rfl rfl (Nat.le_of_ble_eq_true rfl) ?_
            refine mr_aload_n C 134 dX6_step_133 rfl rfl ?_
            refine mr_dup C 135 dX6_step_134 rfl rfl ?_
            refine mr_get C 0 138 dX6_step_135 rfl fl_X6_19 rfl rfl ?_
            refine mr_iconst C (nI 1) 139 dX6_step_138 rfl rfl ?_
            refine mr_iadd C (nI (s + 1)) 140 dX6_step_139 rfl (nI_add _ _) ?_
            refine mr_put C 0 143 dX6_step_140 rfl fs_X6_19 rfl rfl rfl (Nat.le_of_ble_eq_true rfl) ?_
            refine mr_vret C dX6_step_143 rfl (by decide) (by decide) hlen ?_
            rw [hO]
            have ht : tkS t S p0 = 4 := by unfold tkS; rw [he0]; exact (if_neg (by omega)).trans ((if_neg c_78).trans ((if_neg c_100).trans (if_neg c_122)))
            have hnx : nxS t S p0 = s + 1 := by unfold nxS; rw [he0]; exact (if_neg (by omega)).trans ((if_neg c_78).trans (if_neg c_100))
            rw [ht, hnx]
            refine ⟨_, rfl, rfl, ?_⟩
            intro h; omega
          · refine mr_iconst C (nI 3) 126 dX6_step_125 rfl rfl ?_
            refine mr_goto C 130 dX6_step_126 (by decide) ?_
            refine mr_put C 0 133 dX6_step_130 rfl fs_X6_32 rfl rfl rfl (Nat.le_of_ble_eq_true rfl) ?_
            refine mr_aload_n C 134 dX6_step_133 rfl rfl ?_
            refine mr_dup C 135 dX6_step_134 rfl rfl ?_
            refine mr_get C 0 138 dX6_step_135 rfl fl_X6_19 rfl rfl ?_
            refine mr_iconst C (nI 1) 139 dX6_step_138 rfl rfl ?_
            refine mr_iadd C (nI (s + 1)) 140 dX6_step_139 rfl (nI_add _ _) ?_
            refine mr_put C 0 143 dX6_step_140 rfl fs_X6_19 rfl rfl rfl (Nat.le_of_ble_eq_true rfl) ?_
            refine mr_vret C dX6_step_143 rfl (by decide) (by decide) hlen ?_
            rw [hO]
            have ht : tkS t S p0 = 3 := by unfold tkS; rw [he0]; exact (if_neg (by omega)).trans ((if_neg c_78).trans ((if_neg c_100).trans (if_pos c_122)))
            have hnx : nxS t S p0 = s + 1 := by unfold nxS; rw [he0]; exact (if_neg (by omega)).trans ((if_neg c_78).trans (if_neg c_100))
            rw [ht, hnx]
            refine ⟨_, rfl, rfl, ?_⟩
            intro h; omega
        · rw [← Ne, bI_ne] at c_100
          refine mr_aload_n C 104 dX6_step_103 rfl rfl ?_
          refine mr_callV C (c_passFigures E a b t tk vl S s hS hs) [0, 1] 0 6 107 dX6_step_104 rfl mk_X6_passFigures mi_X6_passFigures ml_X6_44 rfl rfl rfl rfl rfl (Nat.le_of_ble_eq_true rfl) (by decide) (by decide) (by decide) rfl rfl (fun r w1 hpost => ?_)
          obtain ⟨rfl, rfl⟩ := hpost
          refine mr_w (ws' := wT E a b t (nI S) (nI (if scn pF t (S - s) s - s ≤ 3 then 2 else 4)) (nI s) (nI (scn pF t (S - s) s)) (valS t s (min (scn pF t (S - s) s - s) 3))) rfl ?_
          refine mr_goto C 143 dX6_step_107 (by decide) ?_
          refine mr_vret C dX6_step_143 rfl (by decide) (by decide) hlen ?_
          rw [hO]
          have ht : tkS t S p0 = (if scn pF t (S - s) s - s ≤ 3 then 2 else 4) := by unfold tkS; rw [he0]; exact (if_neg (by omega)).trans ((if_neg c_78).trans (if_pos c_100))
          have hnx : nxS t S p0 = scn pF t (S - s) s := by unfold nxS; rw [he0]; exact (if_neg (by omega)).trans ((if_neg c_78).trans (if_pos c_100))
          rw [ht, hnx]
          refine ⟨_, rfl, rfl, ?_⟩
          intro h
          have h3 : scn pF t (S - s) s - s ≤ 3 := by
            rcases Nat.lt_or_ge 3 (scn pF t (S - s) s - s) with k | k
            · rw [if_neg (by omega)] at h; omega
            · exact k
          rw [Nat.min_eq_left h3]
      · rw [← Ne, bI_ne] at c_78
        refine mr_aload_n C 82 dX6_step_81 rfl rfl ?_
        refine mr_callV C (c_passLetters E a b t tk (nI s) vl S s hS hs) [0, 1] 0 6 85 dX6_step_82 rfl mk_X6_passLetters mi_X6_passLetters ml_X6_38 rfl rfl rfl rfl rfl (Nat.le_of_ble_eq_true rfl) (by decide) (by decide) (by decide) rfl rfl (fun r w1 hpost => ?_)
        obtain ⟨rfl, rfl⟩ := hpost
        refine mr_w (ws' := wT E a b t (nI S) (nI 1) (nI s) (nI (scn pL t (S - s) s)) vl) rfl ?_
        refine mr_goto C 143 dX6_step_85 (by decide) ?_
        refine mr_vret C dX6_step_143 rfl (by decide) (by decide) hlen ?_
        rw [hO]
        have ht : tkS t S p0 = 1 := by unfold tkS; rw [he0]; exact (if_neg (by omega)).trans (if_pos c_78)
        have hnx : nxS t S p0 = scn pL t (S - s) s := by unfold nxS; rw [he0]; exact (if_neg (by omega)).trans (if_pos c_78)
        rw [ht, hnx]
        refine ⟨_, rfl, rfl, ?_⟩
        intro h; omega
    · rw [nI_ltI (by omega) (by omega), Nat.not_lt] at c_55
      refine mr_aload_n C 59 dX6_step_58 rfl rfl ?_
      refine mr_iconst C (nI 0) 60 dX6_step_59 rfl rfl ?_
      refine mr_put C 0 63 dX6_step_60 rfl fs_X6_32 rfl rfl rfl (Nat.le_of_ble_eq_true rfl) ?_
      refine mr_goto C 143 dX6_step_63 (by decide) ?_
      refine mr_vret C dX6_step_143 rfl (by decide) (by decide) hlen ?_
      rw [hO]
      have ht : tkS t S p0 = 0 := by unfold tkS; rw [he0]; exact if_pos (by omega)
      have hnx : nxS t S p0 = s := by unfold nxS; rw [he0]; exact if_pos (by omega)
      rw [ht, hnx]
      refine ⟨_, rfl, rfl, ?_⟩
      intro h; omega
  have L : ∀ p, p ≤ S → scn pB t (S - p) p = s → V E mX6_step (2, 0, 0) Z 0 0 (wT E a b t (nI S) tk sr (nI p) vl) [(0, .ref (a b))] [] 0 := by
    refine lp_up S ?_
    intro p hp ih he
    refine mr_aload_n C 1 dX6_step_0 rfl rfl ?_
    refine mr_get C 0 4 dX6_step_1 rfl fl_X6_19 rfl rfl ?_
    refine mr_aload_n C 5 dX6_step_4 rfl rfl ?_
    refine mr_get C 0 8 dX6_step_5 rfl fl_X6_15 rfl rfl ?_
    refine mr_icmpge C 39 11 dX6_step_8 (by decide) rfl (fun c_8 => ?_) (fun c_8 => ?_)
    · rw [nI_leI (by omega) (by omega)] at c_8
      rw [scn_e c_8] at he
      subst he
      exact LE (by omega)
    · rw [nI_leI (by omega) (by omega), Nat.not_le] at c_8
      refine mr_aload_n C 12 dX6_step_11 rfl rfl ?_
      refine mr_get C 0 15 dX6_step_12 rfl fl_X6_9 rfl rfl ?_
      refine mr_aload_n C 16 dX6_step_15 rfl rfl ?_
      refine mr_get C 0 19 dX6_step_16 rfl fl_X6_19 rfl rfl ?_
      refine mr_iald C 1 p 20 dX6_step_19 rfl rfl rfl (by omega) (by decide) ?_
      refine mr_callS C (c_isBlank E (t p)) [] 23 dX6_step_20 rfl mk_X6_isBlank ms_X6_isBlank ml_X6_25 rfl rfl rfl rfl (Nat.le_of_ble_eq_true rfl) (by decide) (by decide) (by decide) (fun r w1 hpost => ?_)
      obtain ⟨rfl, rfl⟩ := hpost
      refine mr_w (ws' := wT E a b t (nI S) tk sr (nI p) vl) rfl ?_
      refine mr_ifeq C 39 26 dX6_step_23 (by decide) rfl (fun c_23 => ?_) (fun c_23 => ?_)
      · rw [bI_eq] at c_23
        rw [scn_f (by omega) c_23] at he
        subst he
        exact LE (by omega)
      · rw [← Ne, bI_ne] at c_23
        refine mr_aload_n C 27 dX6_step_26 rfl rfl ?_
        refine mr_dup C 28 dX6_step_27 rfl rfl ?_
        refine mr_get C 0 31 dX6_step_28 rfl fl_X6_19 rfl rfl ?_
        refine mr_iconst C (nI 1) 32 dX6_step_31 rfl rfl ?_
        refine mr_iadd C (nI (p + 1)) 33 dX6_step_32 rfl (nI_add _ _) ?_
        refine mr_put C 0 36 dX6_step_33 rfl fs_X6_19 rfl rfl rfl (Nat.le_of_ble_eq_true rfl) ?_
        refine mr_goto C 0 dX6_step_36 (by decide) ?_
        rw [scn_t c_8 c_23] at he
        exact mr_at (ih c_8 he) rfl rfl rfl
  exact mr_at (L p0 hp0 he0) rfl rfl rfl

set_option maxRecDepth 20000 in
set_option maxHeartbeats 4000000 in
theorem c_rewind (E : EG) (a : Nat → Nat) (b : Nat) (t : FN) (tk sr nx vl : Int32) (S : Nat) (hS : S ≤ 400) : Ctr E mX6_rewind (3, 0, 0) [.ref (a b)] (wT E a b t (nI S) tk sr nx vl) (fun v w => ∃ vl2 : Int32, v = none ∧ w = wT E a b t (nI S) (nI (tkS t S 0)) (nI (stS t S 0)) (nI (nxS t S 0)) vl2 ∧ (tkS t S 0 = 2 → vl2 = valS t (stS t S 0) (nxS t S 0 - stS t S 0))) := by
  refine Ctr.of (by decide) (Nat.le_of_ble_eq_true rfl) ?_
  intro Z hO hn C
  have hlen : zn Z ≤ 2 := by rw [hn]; exact Nat.le_of_ble_eq_true rfl
  refine mr_aload_n C 1 dX6_rewind_0 rfl rfl ?_
  refine mr_iconst C (nI 0) 2 dX6_rewind_1 rfl rfl ?_
  refine mr_put C 0 5 dX6_rewind_2 rfl fs_X6_19 rfl rfl rfl (Nat.le_of_ble_eq_true rfl) ?_
  refine mr_aload_n C 6 dX6_rewind_5 rfl rfl ?_
  refine mr_callV C (c_step E a b t tk sr vl S 0 hS (Nat.zero_le _)) [0, 1] 0 6 9 dX6_rewind_6 rfl mk_X6_step mi_X6_step ml_X6_22 rfl rfl rfl rfl rfl (Nat.le_of_ble_eq_true rfl) (by decide) (by decide) (by decide) rfl rfl (fun r w1 hpost => ?_)
  obtain ⟨vl2, rfl, rfl, hv⟩ := hpost
  refine mr_w (ws' := wT E a b t (nI S) (nI (tkS t S 0)) (nI (stS t S 0)) (nI (nxS t S 0)) vl2) rfl ?_
  refine mr_vret C dX6_rewind_9 rfl (by decide) (by decide) hlen ?_
  rw [hO]
  exact ⟨_, rfl, rfl, hv⟩

