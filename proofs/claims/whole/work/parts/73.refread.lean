/-! the reference: the tape is read, small ones -/
/-- the reference's own numbers of the tokens -/
def tkM (k : Nat) : Nat := if k = 4 then 0 else k + 1
theorem tkM_lt (t : FN) (S p : Nat) : tkM (tkS t S p) < 5 := by
  have := tkS_lt t S p
  unfold tkM; split <;> omega
theorem tkM_is {k j : Nat} (hj : 0 < j) (hj4 : j < 5) : tkM k = j ↔ k + 1 = j := by
  unfold tkM; split <;> omega
def bA (t : FN) (S k : Nat) : Int32 := if k < S then t k else -1000000
theorem bA_in {t : FN} {S k b : Nat} (h : bA t S k = nI b) (hb : b < 256) : k < S ∧ t k = nI b := by
  unfold bA at h
  by_cases e : k < S
  · rw [if_pos e] at h; exact ⟨e, h⟩
  · rw [if_neg e] at h
    have h2 := congrArg Int32.toInt h
    rw [tI_n (by omega)] at h2
    have h3 : (-1000000 : Int32).toInt = -1000000 := rfl
    omega
theorem bA_end {t : FN} {S k : Nat} (hby : ∀ j, j < S → ∃ b, b < 256 ∧ t j = nI b) : bA t S k = -1000000 ↔ S ≤ k := by
  unfold bA
  by_cases e : k < S
  · rw [if_pos e]
    obtain ⟨b, hb, e2⟩ := hby k e
    refine ⟨fun h => ?_, fun h => by omega⟩
    have h2 := congrArg Int32.toInt (e2.symm.trans h)
    rw [tI_n (by omega)] at h2
    have h3 : (-1000000 : Int32).toInt = -1000000 := rfl
    omega
  · rw [if_neg e]; exact ⟨fun _ => by omega, fun _ => rfl⟩
theorem bA_L {t : FN} {S k : Nat} : pL (bA t S k) ↔ k < S ∧ pL (t k) := by
  unfold bA
  by_cases e : k < S
  · rw [if_pos e]; exact ⟨fun h => ⟨e, h⟩, fun h => h.2⟩
  · rw [if_neg e]; exact ⟨fun h => absurd h.1 (by decide), fun h => absurd h.1 e⟩
theorem bA_F {t : FN} {S k : Nat} : pF (bA t S k) ↔ k < S ∧ pF (t k) := by
  unfold bA
  by_cases e : k < S
  · rw [if_pos e]; exact ⟨fun h => ⟨e, h⟩, fun h => h.2⟩
  · rw [if_neg e]; exact ⟨fun h => absurd h.1 (by decide), fun h => absurd h.1 e⟩
theorem scn_no {t : FN} {S k : Nat} (h1 : ¬ bA t S k = nI 32) (h2 : ¬ bA t S k = nI 10) : scn pB t (S - k) k = k := by
  by_cases e : k < S
  · have e2 : bA t S k = t k := if_pos e
    rw [e2] at h1 h2
    exact scn_f e (fun h => h.elim h1 h2)
  · exact scn_e (by omega)
theorem scnL_no {t : FN} {S k : Nat} (h : ¬ pL (bA t S k)) : scn pL t (S - k) k = k := by
  by_cases e : k < S
  · exact scn_f e (fun h2 => h (bA_L.mpr ⟨e, h2⟩))
  · exact scn_e (by omega)
theorem scnF_no {t : FN} {S k : Nat} (h : ¬ pF (bA t S k)) : scn pF t (S - k) k = k := by
  by_cases e : k < S
  · exact scn_f e (fun h2 => h (bA_F.mpr ⟨e, h2⟩))
  · exact scn_e (by omega)
/-- letters as one long -/
def pk8 (t : FN) (s : Nat) : Nat → Int64
  | 0 => 0
  | n + 1 => (pk8 t s n <<< ((nI 8).toInt64 &&& 63)) ||| (t (s + n)).toInt64
def nmS (t : FN) (S p : Nat) : Int64 := if tkS t S p = 1 ∧ nxS t S p - stS t S p < 8 then pk8 t (stS t S p) (nxS t S p - stS t S p) else 0
set_option maxRecDepth 20000 in
set_option maxHeartbeats 4000000 in
theorem c_byteAt (E : EG) (a : Nat → Nat) (tn st ac td lt cu tk sr tl fa fp gn gi gm tr : Int32) (la mn im ho fr wa tp wh go se no al be ik ke tc : FN) (t : FN) (S : Nat) (hS : S ≤ 400) (htp : ∀ j, j < S → tp j = t j) (hby : ∀ j, j < S → ∃ b, b < 256 ∧ t j = nI b) (k : Nat) (hk : k < 2 ^ 30) : Ctr E mX8_byteAt (1, 0, 0) [.ref (a 0), .int (nI k)] (wM E a tn st la mn im ho fr wa ac tp td lt ((nI S)) cu tk sr tl fa fp wh go se no al be gn gi gm ik ke tc tr) (fun v w => v = some (.int (bA t S k)) ∧ w = wM E a tn st la mn im ho fr wa ac tp td lt ((nI S)) cu tk sr tl fa fp wh go se no al be gn gi gm ik ke tc tr) := by
  refine Ctr.of (by decide) (Nat.le_of_ble_eq_true rfl) ?_
  intro Z hO hn C
  have hlen : zn Z ≤ 17 := by rw [hn]; exact Nat.le_of_ble_eq_true rfl
  refine mr_iload_n C 1 dX8_byteAt_0 rfl rfl ?_
  refine mr_aload_n C 2 dX8_byteAt_1 rfl rfl ?_
  refine mr_get C 0 5 dX8_byteAt_2 rfl fl_X8_92 rfl rfl ?_
  refine mr_icmpge C 17 8 dX8_byteAt_5 (by decide) rfl (fun c_5 => ?_) (fun c_5 => ?_)
  · rw [nI_leI (by omega) (by omega)] at c_5
    refine mr_ldc C 19 dX8_byteAt_17 rfl kc_X8_95 ?_
    refine mr_iret C dX8_byteAt_19 rfl rfl (by decide) (by decide) hlen ?_
    rw [hO]
    exact ⟨congrArg (fun z => some (Value.int z)) ((if_neg (by omega)).symm), rfl⟩
  · rw [nI_leI (by omega) (by omega)] at c_5
    refine mr_aload_n C 9 dX8_byteAt_8 rfl rfl ?_
    refine mr_get C 0 12 dX8_byteAt_9 rfl fl_X8_28 rfl rfl ?_
    refine mr_iload_n C 13 dX8_byteAt_12 rfl rfl ?_
    refine mr_iale C 7 k ((t k)) 14 dX8_byteAt_13 rfl rfl rfl (by omega) (by decide) (htp k (by omega)) ?_
    refine mr_goto C 19 dX8_byteAt_14 (by decide) ?_
    refine mr_iret C dX8_byteAt_19 rfl rfl (by decide) (by decide) hlen ?_
    rw [hO]
    exact ⟨congrArg (fun z => some (Value.int z)) ((if_pos (by omega)).symm), rfl⟩

set_option maxRecDepth 20000 in
set_option maxHeartbeats 4000000 in
theorem c_m_next (E : EG) (a : Nat → Nat) (tn st ac td lt tk sr tl fa fp gn gi gm tr : Int32) (la mn im ho fr wa tp wh go se no al be ik ke tc : FN) (t : FN) (S : Nat) (hS : S ≤ 400) (htp : ∀ j, j < S → tp j = t j) (hby : ∀ j, j < S → ∃ b, b < 256 ∧ t j = nI b) (p0 : Nat) (hp0 : p0 ≤ S) : Ctr E mX8_next (3, 0, 0) [.ref (a 0)] (wM E a tn st la mn im ho fr wa ac tp td lt ((nI S)) ((nI p0)) tk sr tl fa fp wh go se no al be gn gi gm ik ke tc tr) (fun v w => v = none ∧ w = wM E a tn st la mn im ho fr wa ac tp td lt ((nI S)) ((nI (nxS t S p0))) ((nI (tkM (tkS t S p0)))) ((nI (stS t S p0))) ((nI (nxS t S p0))) fa fp wh go se no al be gn gi gm ik ke tc tr) := by
  refine Ctr.of (by decide) (Nat.le_of_ble_eq_true rfl) ?_
  intro Z hO hn C
  have hlen : zn Z ≤ 17 := by rw [hn]; exact Nat.le_of_ble_eq_true rfl
  generalize he0 : stS t S p0 = s at hO
  have hs : s ≤ S := by rw [← he0]; exact (stS_le hp0).2
  have LE : s ≤ S → V E mX8_next (3, 0, 0) Z 0 0 (wM E a tn st la mn im ho fr wa ac tp td lt ((nI S)) ((nI s)) tk sr tl fa fp wh go se no al be gn gi gm ik ke tc tr) [(0, .ref (a 0))] [] 39 := by
    intro _
    refine mr_aload_n C 40 dX8_next_39 rfl rfl ?_
    refine mr_aload_n C 41 dX8_next_40 rfl rfl ?_
    refine mr_get C 0 44 dX8_next_41 rfl fl_X8_96 rfl rfl ?_
    refine mr_put C 0 47 dX8_next_44 rfl fs_X8_102 rfl rfl rfl (Nat.le_of_ble_eq_true rfl) ?_
    refine mr_w (ws' := wM E a tn st la mn im ho fr wa ac tp td lt (nI S) (nI s) tk (nI s) tl fa fp wh go se no al be gn gi gm ik ke tc tr) rfl ?_
    refine mr_aload_n C 48 dX8_next_47 rfl rfl ?_
    refine mr_aload_n C 49 dX8_next_48 rfl rfl ?_
    refine mr_get C 0 52 dX8_next_49 rfl fl_X8_96 rfl rfl ?_
    refine mr_callV C (c_byteAt E a tn st ac td lt (nI s) tk (nI s) tl fa fp gn gi gm tr la mn im ho fr wa tp wh go se no al be ik ke tc t S hS htp hby s (by omega)) [0, 1, 2, 3, 4, 5, 6, 7, 8, 9, 10, 11, 12, 13, 14, 15, 16] 0 8 55 dX8_next_52 rfl mk_X8_byteAt mi_X8_byteAt ml_X8_99 rfl rfl rfl rfl rfl (Nat.le_of_ble_eq_true rfl) (by decide) (by decide) (by decide) rfl rfl (fun r w1 hpost => ?_)
    obtain ⟨rfl, rfl⟩ := hpost
    refine mr_w (wput_all _ _ 17 rfl rfl) ?_
    refine mr_istore_n C 56 dX8_next_55 rfl rfl (by decide) ?_
    refine mr_iload_n C 57 dX8_next_56 rfl rfl ?_
    refine mr_ldc C 59 dX8_next_57 rfl kc_X8_95 ?_
    refine mr_icmpne C 70 62 dX8_next_59 (by decide) rfl (fun c_59 => ?_) (fun c_59 => ?_)
    · refine mr_iload_n C 71 dX8_next_70 rfl rfl ?_
      refine mr_callS C (c_m_isLetter E (bA t S s)) [] 74 dX8_next_71 rfl mk_X8_isLetter ms_X8_isLetter ml_X8_108 rfl rfl rfl rfl (Nat.le_of_ble_eq_true rfl) (by decide) (by decide) (by decide) (fun r w1 hpost => ?_)
      obtain ⟨rfl, rfl⟩ := hpost
      refine mr_w (ws' := wM E a tn st la mn im ho fr wa ac tp td lt (nI S) (nI s) tk (nI s) tl fa fp wh go se no al be gn gi gm ik ke tc tr) rfl ?_
      refine mr_ifeq C 112 77 dX8_next_74 (by decide) rfl (fun c_74 => ?_) (fun c_74 => ?_)
      · rw [bI_eq] at c_74
        refine mr_iload_n C 113 dX8_next_112 rfl rfl ?_
        refine mr_callS C (c_m_isFigure E (bA t S s)) [] 116 dX8_next_113 rfl mk_X8_isFigure ms_X8_isFigure ml_X8_111 rfl rfl rfl rfl (Nat.le_of_ble_eq_true rfl) (by decide) (by decide) (by decide) (fun r w1 hpost => ?_)
        obtain ⟨rfl, rfl⟩ := hpost
        refine mr_w (ws' := wM E a tn st la mn im ho fr wa ac tp td lt (nI S) (nI s) tk (nI s) tl fa fp wh go se no al be gn gi gm ik ke tc tr) rfl ?_
        refine mr_ifeq C 171 119 dX8_next_116 (by decide) rfl (fun c_116 => ?_) (fun c_116 => ?_)
        · rw [bI_eq] at c_116
          refine mr_aload_n C 172 dX8_next_171 rfl rfl ?_
          refine mr_dup C 173 dX8_next_172 rfl rfl ?_
          refine mr_get C 0 176 dX8_next_173 rfl fl_X8_96 rfl rfl ?_
          refine mr_iconst C (nI 1) 177 dX8_next_176 rfl rfl ?_
          refine mr_iadd C (nI (s + 1)) 178 dX8_next_177 rfl (nI_add _ _) ?_
          refine mr_put C 0 181 dX8_next_178 rfl fs_X8_96 rfl rfl rfl (Nat.le_of_ble_eq_true rfl) ?_
          refine mr_w (ws' := wM E a tn st la mn im ho fr wa ac tp td lt (nI S) (nI (s + 1)) tk (nI s) tl fa fp wh go se no al be gn gi gm ik ke tc tr) rfl ?_
          refine mr_aload_n C 182 dX8_next_181 rfl rfl ?_
          refine mr_iload_n C 183 dX8_next_182 rfl rfl ?_
          refine mr_bipush C (nI 59) 185 dX8_next_183 rfl rfl ?_
          refine mr_icmpne C 192 188 dX8_next_185 (by decide) rfl (fun c_185 => ?_) (fun c_185 => ?_)
          · refine mr_iconst C (nI 0) 193 dX8_next_192 rfl rfl ?_
            refine mr_put C 0 196 dX8_next_193 rfl fs_X8_105 rfl rfl rfl (Nat.le_of_ble_eq_true rfl) ?_
            refine mr_aload_n C 197 dX8_next_196 rfl rfl ?_
            refine mr_aload_n C 198 dX8_next_197 rfl rfl ?_
            refine mr_get C 0 201 dX8_next_198 rfl fl_X8_96 rfl rfl ?_
            refine mr_put C 0 204 dX8_next_201 rfl fs_X8_114 rfl rfl rfl (Nat.le_of_ble_eq_true rfl) ?_
            refine mr_vret C dX8_next_204 rfl (by decide) (by decide) hlen ?_
            rw [hO]
            have hsS : s < S := Nat.lt_of_not_le (fun h => c_59 ((bA_end hby).mpr h))
            have e3 : bA t S s = t s := if_pos hsS
            have h1 : ¬ pL (t s) := fun h => c_74 (bA_L.mpr ⟨hsS, h⟩)
            have h2 : ¬ pF (t s) := fun h => c_116 (bA_F.mpr ⟨hsS, h⟩)
            have ht : tkS t S p0 = 4 := by unfold tkS; rw [he0]; exact (if_neg (by omega)).trans ((if_neg h1).trans ((if_neg h2).trans (if_neg (fun h => c_185 (e3.trans h)))))
            have hnx : nxS t S p0 = s + 1 := by unfold nxS; rw [he0]; exact (if_neg (by omega)).trans ((if_neg h1).trans (if_neg h2))
            rw [ht, hnx]
            exact ⟨rfl, rfl⟩
          · refine mr_iconst C (nI 4) 189 dX8_next_188 rfl rfl ?_
            refine mr_goto C 193 dX8_next_189 (by decide) ?_
            refine mr_put C 0 196 dX8_next_193 rfl fs_X8_105 rfl rfl rfl (Nat.le_of_ble_eq_true rfl) ?_
            refine mr_aload_n C 197 dX8_next_196 rfl rfl ?_
            refine mr_aload_n C 198 dX8_next_197 rfl rfl ?_
            refine mr_get C 0 201 dX8_next_198 rfl fl_X8_96 rfl rfl ?_
            refine mr_put C 0 204 dX8_next_201 rfl fs_X8_114 rfl rfl rfl (Nat.le_of_ble_eq_true rfl) ?_
            refine mr_vret C dX8_next_204 rfl (by decide) (by decide) hlen ?_
            rw [hO]
            have hsS : s < S := Nat.lt_of_not_le (fun h => c_59 ((bA_end hby).mpr h))
            have e3 : bA t S s = t s := if_pos hsS
            have h1 : ¬ pL (t s) := fun h => c_74 (bA_L.mpr ⟨hsS, h⟩)
            have h2 : ¬ pF (t s) := fun h => c_116 (bA_F.mpr ⟨hsS, h⟩)
            have ht : tkS t S p0 = 3 := by unfold tkS; rw [he0]; exact (if_neg (by omega)).trans ((if_neg h1).trans ((if_neg h2).trans (if_pos (e3.symm.trans c_185))))
            have hnx : nxS t S p0 = s + 1 := by unfold nxS; rw [he0]; exact (if_neg (by omega)).trans ((if_neg h1).trans (if_neg h2))
            rw [ht, hnx]
            exact ⟨rfl, rfl⟩
        · rw [← Ne, bI_ne] at c_116
          have hcl := c_74
          have hcf := bA_F.mp c_116
          obtain ⟨e, hee⟩ : ∃ e, scn pF t (S - s) s = e := ⟨_, rfl⟩
          have LP : ∀ p, p ≤ S → s ≤ p → scn pF t (S - p) p = e → V E mX8_next (3, 0, 0) Z 0 0 (wM E a tn st la mn im ho fr wa ac tp td lt ((nI S)) ((nI p)) tk ((nI s)) tl fa fp wh go se no al be gn gi gm ik ke tc tr) [(0, .ref (a 0))] [] 119 := by
            refine lp_up S ?_
            intro p hp ihp hsp hep
            refine mr_aload_n C 120 dX8_next_119 rfl rfl ?_
            refine mr_aload_n C 121 dX8_next_120 rfl rfl ?_
            refine mr_get C 0 124 dX8_next_121 rfl fl_X8_96 rfl rfl ?_
            refine mr_callV C (c_byteAt E a tn st ac td lt (nI p) tk (nI s) tl fa fp gn gi gm tr la mn im ho fr wa tp wh go se no al be ik ke tc t S hS htp hby p (by omega)) [0, 1, 2, 3, 4, 5, 6, 7, 8, 9, 10, 11, 12, 13, 14, 15, 16] 0 8 127 dX8_next_124 rfl mk_X8_byteAt mi_X8_byteAt ml_X8_99 rfl rfl rfl rfl rfl (Nat.le_of_ble_eq_true rfl) (by decide) (by decide) (by decide) rfl rfl (fun r w1 hpost => ?_)
            obtain ⟨rfl, rfl⟩ := hpost
            refine mr_w (wput_all _ _ 17 rfl rfl) ?_
            refine mr_callS C (c_m_isFigure E (bA t S p)) [] 130 dX8_next_127 rfl mk_X8_isFigure ms_X8_isFigure ml_X8_111 rfl rfl rfl rfl (Nat.le_of_ble_eq_true rfl) (by decide) (by decide) (by decide) (fun r w1 hpost => ?_)
            obtain ⟨rfl, rfl⟩ := hpost
            refine mr_w (ws' := wM E a tn st la mn im ho fr wa ac tp td lt (nI S) (nI p) tk (nI s) tl fa fp wh go se no al be gn gi gm ik ke tc tr) rfl ?_
            refine mr_ifeq C 146 133 dX8_next_130 (by decide) rfl (fun c_130 => ?_) (fun c_130 => ?_)
            · rw [bI_eq] at c_130
              rw [scnF_no c_130] at hep
              rw [hep]
              rw [hep] at hsp hp
              refine mr_aload_n C 147 dX8_next_146 rfl rfl ?_
              refine mr_aload_n C 148 dX8_next_147 rfl rfl ?_
              refine mr_get C 0 151 dX8_next_148 rfl fl_X8_96 rfl rfl ?_
              refine mr_aload_n C 152 dX8_next_151 rfl rfl ?_
              refine mr_get C 0 155 dX8_next_152 rfl fl_X8_102 rfl rfl ?_
              refine mr_isub C (nI (e - s)) 156 dX8_next_155 rfl (pk_sub (by omega)) ?_
              refine mr_iconst C (nI 3) 157 dX8_next_156 rfl rfl ?_
              refine mr_icmple C 164 160 dX8_next_157 (by decide) rfl (fun c_157 => ?_) (fun c_157 => ?_)
              · rw [nI_leI (by omega) (by omega)] at c_157
                refine mr_iconst C (nI 3) 165 dX8_next_164 rfl rfl ?_
                refine mr_put C 0 168 dX8_next_165 rfl fs_X8_105 rfl rfl rfl (Nat.le_of_ble_eq_true rfl) ?_
                refine mr_goto C 196 dX8_next_168 (by decide) ?_
                refine mr_aload_n C 197 dX8_next_196 rfl rfl ?_
                refine mr_aload_n C 198 dX8_next_197 rfl rfl ?_
                refine mr_get C 0 201 dX8_next_198 rfl fl_X8_96 rfl rfl ?_
                refine mr_put C 0 204 dX8_next_201 rfl fs_X8_114 rfl rfl rfl (Nat.le_of_ble_eq_true rfl) ?_
                refine mr_vret C dX8_next_204 rfl (by decide) (by decide) hlen ?_
                rw [hO]
                have ht : tkS t S p0 = 2 := by unfold tkS; rw [he0]; exact (if_neg (by omega)).trans ((if_neg (fun h => hcl (bA_L.mpr ⟨by omega, h⟩))).trans ((if_pos hcf.2).trans (if_pos (by rw [hee]; omega))))
                have hnx : nxS t S p0 = e := by unfold nxS; rw [he0]; exact ((if_neg (by omega)).trans ((if_neg (fun h => hcl (bA_L.mpr ⟨by omega, h⟩))).trans (if_pos hcf.2))).trans hee
                rw [ht, hnx]
                exact ⟨rfl, rfl⟩
              · rw [nI_leI (by omega) (by omega)] at c_157
                refine mr_iconst C (nI 0) 161 dX8_next_160 rfl rfl ?_
                refine mr_goto C 165 dX8_next_161 (by decide) ?_
                refine mr_put C 0 168 dX8_next_165 rfl fs_X8_105 rfl rfl rfl (Nat.le_of_ble_eq_true rfl) ?_
                refine mr_goto C 196 dX8_next_168 (by decide) ?_
                refine mr_aload_n C 197 dX8_next_196 rfl rfl ?_
                refine mr_aload_n C 198 dX8_next_197 rfl rfl ?_
                refine mr_get C 0 201 dX8_next_198 rfl fl_X8_96 rfl rfl ?_
                refine mr_put C 0 204 dX8_next_201 rfl fs_X8_114 rfl rfl rfl (Nat.le_of_ble_eq_true rfl) ?_
                refine mr_vret C dX8_next_204 rfl (by decide) (by decide) hlen ?_
                rw [hO]
                have ht : tkS t S p0 = 4 := by unfold tkS; rw [he0]; exact (if_neg (by omega)).trans ((if_neg (fun h => hcl (bA_L.mpr ⟨by omega, h⟩))).trans ((if_pos hcf.2).trans (if_neg (by rw [hee]; omega))))
                have hnx : nxS t S p0 = e := by unfold nxS; rw [he0]; exact ((if_neg (by omega)).trans ((if_neg (fun h => hcl (bA_L.mpr ⟨by omega, h⟩))).trans (if_pos hcf.2))).trans hee
                rw [ht, hnx]
                exact ⟨rfl, rfl⟩
            · rw [← Ne, bI_ne] at c_130
              refine mr_aload_n C 134 dX8_next_133 rfl rfl ?_
              refine mr_dup C 135 dX8_next_134 rfl rfl ?_
              refine mr_get C 0 138 dX8_next_135 rfl fl_X8_96 rfl rfl ?_
              refine mr_iconst C (nI 1) 139 dX8_next_138 rfl rfl ?_
              refine mr_iadd C (nI (p + 1)) 140 dX8_next_139 rfl (nI_add _ _) ?_
              refine mr_put C 0 143 dX8_next_140 rfl fs_X8_96 rfl rfl rfl (Nat.le_of_ble_eq_true rfl) ?_
              refine mr_w (ws' := wM E a tn st la mn im ho fr wa ac tp td lt (nI S) (nI (p + 1)) tk (nI s) tl fa fp wh go se no al be gn gi gm ik ke tc tr) rfl ?_
              refine mr_goto C 119 dX8_next_143 (by decide) ?_
              rw [bA_F] at c_130
              rw [scn_t c_130.1 c_130.2] at hep
              exact mr_at (ihp c_130.1 (by omega) hep) rfl rfl rfl
          exact mr_at (LP s hs (Nat.le_refl s) hee) rfl rfl rfl
      · rw [← Ne, bI_ne] at c_74
        have hcl := bA_L.mp c_74
        obtain ⟨e, hee⟩ : ∃ e, scn pL t (S - s) s = e := ⟨_, rfl⟩
        have LP : ∀ p, p ≤ S → s ≤ p → scn pL t (S - p) p = e → V E mX8_next (3, 0, 0) Z 0 0 (wM E a tn st la mn im ho fr wa ac tp td lt ((nI S)) ((nI p)) tk ((nI s)) tl fa fp wh go se no al be gn gi gm ik ke tc tr) [(0, .ref (a 0))] [] 77 := by
          refine lp_up S ?_
          intro p hp ihp hsp hep
          refine mr_aload_n C 78 dX8_next_77 rfl rfl ?_
          refine mr_aload_n C 79 dX8_next_78 rfl rfl ?_
          refine mr_get C 0 82 dX8_next_79 rfl fl_X8_96 rfl rfl ?_
          refine mr_callV C (c_byteAt E a tn st ac td lt (nI p) tk (nI s) tl fa fp gn gi gm tr la mn im ho fr wa tp wh go se no al be ik ke tc t S hS htp hby p (by omega)) [0, 1, 2, 3, 4, 5, 6, 7, 8, 9, 10, 11, 12, 13, 14, 15, 16] 0 8 85 dX8_next_82 rfl mk_X8_byteAt mi_X8_byteAt ml_X8_99 rfl rfl rfl rfl rfl (Nat.le_of_ble_eq_true rfl) (by decide) (by decide) (by decide) rfl rfl (fun r w1 hpost => ?_)
          obtain ⟨rfl, rfl⟩ := hpost
          refine mr_w (wput_all _ _ 17 rfl rfl) ?_
          refine mr_callS C (c_m_isLetter E (bA t S p)) [] 88 dX8_next_85 rfl mk_X8_isLetter ms_X8_isLetter ml_X8_108 rfl rfl rfl rfl (Nat.le_of_ble_eq_true rfl) (by decide) (by decide) (by decide) (fun r w1 hpost => ?_)
          obtain ⟨rfl, rfl⟩ := hpost
          refine mr_w (ws' := wM E a tn st la mn im ho fr wa ac tp td lt (nI S) (nI p) tk (nI s) tl fa fp wh go se no al be gn gi gm ik ke tc tr) rfl ?_
          refine mr_ifeq C 104 91 dX8_next_88 (by decide) rfl (fun c_88 => ?_) (fun c_88 => ?_)
          · rw [bI_eq] at c_88
            rw [scnL_no c_88] at hep
            rw [hep]
            rw [hep] at hsp hp
            refine mr_aload_n C 105 dX8_next_104 rfl rfl ?_
            refine mr_iconst C (nI 2) 106 dX8_next_105 rfl rfl ?_
            refine mr_put C 0 109 dX8_next_106 rfl fs_X8_105 rfl rfl rfl (Nat.le_of_ble_eq_true rfl) ?_
            refine mr_goto C 196 dX8_next_109 (by decide) ?_
            refine mr_aload_n C 197 dX8_next_196 rfl rfl ?_
            refine mr_aload_n C 198 dX8_next_197 rfl rfl ?_
            refine mr_get C 0 201 dX8_next_198 rfl fl_X8_96 rfl rfl ?_
            refine mr_put C 0 204 dX8_next_201 rfl fs_X8_114 rfl rfl rfl (Nat.le_of_ble_eq_true rfl) ?_
            refine mr_vret C dX8_next_204 rfl (by decide) (by decide) hlen ?_
            rw [hO]
            have ht : tkS t S p0 = 1 := by unfold tkS; rw [he0]; exact (if_neg (by omega)).trans (if_pos hcl.2)
            have hnx : nxS t S p0 = e := by unfold nxS; rw [he0]; exact ((if_neg (by omega)).trans (if_pos hcl.2)).trans hee
            rw [ht, hnx]
            exact ⟨rfl, rfl⟩
          · rw [← Ne, bI_ne] at c_88
            refine mr_aload_n C 92 dX8_next_91 rfl rfl ?_
            refine mr_dup C 93 dX8_next_92 rfl rfl ?_
            refine mr_get C 0 96 dX8_next_93 rfl fl_X8_96 rfl rfl ?_
            refine mr_iconst C (nI 1) 97 dX8_next_96 rfl rfl ?_
            refine mr_iadd C (nI (p + 1)) 98 dX8_next_97 rfl (nI_add _ _) ?_
            refine mr_put C 0 101 dX8_next_98 rfl fs_X8_96 rfl rfl rfl (Nat.le_of_ble_eq_true rfl) ?_
            refine mr_w (ws' := wM E a tn st la mn im ho fr wa ac tp td lt (nI S) (nI (p + 1)) tk (nI s) tl fa fp wh go se no al be gn gi gm ik ke tc tr) rfl ?_
            refine mr_goto C 77 dX8_next_101 (by decide) ?_
            rw [bA_L] at c_88
            rw [scn_t c_88.1 c_88.2] at hep
            exact mr_at (ihp c_88.1 (by omega) hep) rfl rfl rfl
        exact mr_at (LP s hs (Nat.le_refl s) hee) rfl rfl rfl
    · refine mr_aload_n C 63 dX8_next_62 rfl rfl ?_
      refine mr_iconst C (nI 1) 64 dX8_next_63 rfl rfl ?_
      refine mr_put C 0 67 dX8_next_64 rfl fs_X8_105 rfl rfl rfl (Nat.le_of_ble_eq_true rfl) ?_
      refine mr_goto C 196 dX8_next_67 (by decide) ?_
      refine mr_aload_n C 197 dX8_next_196 rfl rfl ?_
      refine mr_aload_n C 198 dX8_next_197 rfl rfl ?_
      refine mr_get C 0 201 dX8_next_198 rfl fl_X8_96 rfl rfl ?_
      refine mr_put C 0 204 dX8_next_201 rfl fs_X8_114 rfl rfl rfl (Nat.le_of_ble_eq_true rfl) ?_
      refine mr_vret C dX8_next_204 rfl (by decide) (by decide) hlen ?_
      rw [hO]
      have hsS := (bA_end hby).mp c_59
      have ht : tkS t S p0 = 0 := by unfold tkS; rw [he0]; exact if_pos (by omega)
      have hnx : nxS t S p0 = s := by unfold nxS; rw [he0]; exact if_pos (by omega)
      rw [ht, hnx]
      exact ⟨rfl, rfl⟩
  have L : ∀ p, p ≤ S → scn pB t (S - p) p = s → V E mX8_next (3, 0, 0) Z 0 0 (wM E a tn st la mn im ho fr wa ac tp td lt ((nI S)) ((nI p)) tk sr tl fa fp wh go se no al be gn gi gm ik ke tc tr) [(0, .ref (a 0))] [] 0 := by
    refine lp_up S ?_
    intro p hp ih he
    refine mr_aload_n C 1 dX8_next_0 rfl rfl ?_
    refine mr_aload_n C 2 dX8_next_1 rfl rfl ?_
    refine mr_get C 0 5 dX8_next_2 rfl fl_X8_96 rfl rfl ?_
    refine mr_callV C (c_byteAt E a tn st ac td lt (nI p) tk sr tl fa fp gn gi gm tr la mn im ho fr wa tp wh go se no al be ik ke tc t S hS htp hby p (by omega)) [0, 1, 2, 3, 4, 5, 6, 7, 8, 9, 10, 11, 12, 13, 14, 15, 16] 0 8 8 dX8_next_5 rfl mk_X8_byteAt mi_X8_byteAt ml_X8_99 rfl rfl rfl rfl rfl (Nat.le_of_ble_eq_true rfl) (by decide) (by decide) (by decide) rfl rfl (fun r w1 hpost => ?_)
    obtain ⟨rfl, rfl⟩ := hpost
    refine mr_w (wput_all _ _ 17 rfl rfl) ?_
    refine mr_bipush C (nI 32) 10 dX8_next_8 rfl rfl ?_
    refine mr_icmpeq C 26 13 dX8_next_10 (by decide) rfl (fun c_10 => ?_) (fun c_10 => ?_)
    · refine mr_aload_n C 27 dX8_next_26 rfl rfl ?_
      refine mr_dup C 28 dX8_next_27 rfl rfl ?_
      refine mr_get C 0 31 dX8_next_28 rfl fl_X8_96 rfl rfl ?_
      refine mr_iconst C (nI 1) 32 dX8_next_31 rfl rfl ?_
      refine mr_iadd C (nI (p + 1)) 33 dX8_next_32 rfl (nI_add _ _) ?_
      refine mr_put C 0 36 dX8_next_33 rfl fs_X8_96 rfl rfl rfl (Nat.le_of_ble_eq_true rfl) ?_
      refine mr_w (ws' := wM E a tn st la mn im ho fr wa ac tp td lt (nI S) (nI (p + 1)) tk sr tl fa fp wh go se no al be gn gi gm ik ke tc tr) rfl ?_
      refine mr_goto C 0 dX8_next_36 (by decide) ?_
      have hp2 := bA_in c_10 (by decide)
      rw [scn_t hp2.1 (Or.inl hp2.2)] at he
      exact mr_at (ih hp2.1 he) rfl rfl rfl
    · refine mr_aload_n C 14 dX8_next_13 rfl rfl ?_
      refine mr_aload_n C 15 dX8_next_14 rfl rfl ?_
      refine mr_get C 0 18 dX8_next_15 rfl fl_X8_96 rfl rfl ?_
      refine mr_callV C (c_byteAt E a tn st ac td lt (nI p) tk sr tl fa fp gn gi gm tr la mn im ho fr wa tp wh go se no al be ik ke tc t S hS htp hby p (by omega)) [0, 1, 2, 3, 4, 5, 6, 7, 8, 9, 10, 11, 12, 13, 14, 15, 16] 0 8 21 dX8_next_18 rfl mk_X8_byteAt mi_X8_byteAt ml_X8_99 rfl rfl rfl rfl rfl (Nat.le_of_ble_eq_true rfl) (by decide) (by decide) (by decide) rfl rfl (fun r w1 hpost => ?_)
      obtain ⟨rfl, rfl⟩ := hpost
      refine mr_w (wput_all _ _ 17 rfl rfl) ?_
      refine mr_bipush C (nI 10) 23 dX8_next_21 rfl rfl ?_
      refine mr_icmpne C 39 26 dX8_next_23 (by decide) rfl (fun c_23 => ?_) (fun c_23 => ?_)
      · rw [scn_no c_10 c_23] at he
        subst he
        exact LE (by omega)
      · refine mr_aload_n C 27 dX8_next_26 rfl rfl ?_
        refine mr_dup C 28 dX8_next_27 rfl rfl ?_
        refine mr_get C 0 31 dX8_next_28 rfl fl_X8_96 rfl rfl ?_
        refine mr_iconst C (nI 1) 32 dX8_next_31 rfl rfl ?_
        refine mr_iadd C (nI (p + 1)) 33 dX8_next_32 rfl (nI_add _ _) ?_
        refine mr_put C 0 36 dX8_next_33 rfl fs_X8_96 rfl rfl rfl (Nat.le_of_ble_eq_true rfl) ?_
        refine mr_w (ws' := wM E a tn st la mn im ho fr wa ac tp td lt (nI S) (nI (p + 1)) tk sr tl fa fp wh go se no al be gn gi gm ik ke tc tr) rfl ?_
        refine mr_goto C 0 dX8_next_36 (by decide) ?_
        have hp2 := bA_in c_23 (by decide)
        rw [scn_t hp2.1 (Or.inr hp2.2)] at he
        exact mr_at (ih hp2.1 he) rfl rfl rfl
  exact mr_at (L p0 hp0 he0) rfl rfl rfl

set_option maxRecDepth 20000 in
set_option maxHeartbeats 4000000 in
theorem c_m_begin (E : EG) (a : Nat → Nat) (tn st ac lt lg cu tk sr tl fa fp gn gi gm tr : Int32) (la mn im ho fr wa tp wh go se no al be ik ke tc : FN) (t : FN) (S : Nat) (hS : S ≤ 400) (htp : ∀ j, j < S → tp j = t j) (hby : ∀ j, j < S → ∃ b, b < 256 ∧ t j = nI b) : Ctr E mX8_begin (4, 0, 0) [.ref (a 0)] (wM E a tn st la mn im ho fr wa ac tp ((nI S)) lt lg cu tk sr tl fa fp wh go se no al be gn gi gm ik ke tc tr) (fun v w => v = none ∧ w = wM E a tn st la mn im ho fr wa ac tp ((nI 0)) lt ((nI S)) ((nI (nxS t S 0))) ((nI (tkM (tkS t S 0)))) ((nI (stS t S 0))) ((nI (nxS t S 0))) ((nI 0)) fp wh go se no al be gn gi gm ik ke tc tr) := by
  refine Ctr.of (by decide) (Nat.le_of_ble_eq_true rfl) ?_
  intro Z hO hn C
  have hlen : zn Z ≤ 17 := by rw [hn]; exact Nat.le_of_ble_eq_true rfl
  refine mr_aload_n C 1 dX8_begin_0 rfl rfl ?_
  refine mr_aload_n C 2 dX8_begin_1 rfl rfl ?_
  refine mr_get C 0 5 dX8_begin_2 rfl fl_X8_86 rfl rfl ?_
  refine mr_put C 0 8 dX8_begin_5 rfl fs_X8_92 rfl rfl rfl (Nat.le_of_ble_eq_true rfl) ?_
  refine mr_aload_n C 9 dX8_begin_8 rfl rfl ?_
  refine mr_iconst C (nI 0) 10 dX8_begin_9 rfl rfl ?_
  refine mr_put C 0 13 dX8_begin_10 rfl fs_X8_86 rfl rfl rfl (Nat.le_of_ble_eq_true rfl) ?_
  refine mr_aload_n C 14 dX8_begin_13 rfl rfl ?_
  refine mr_iconst C (nI 0) 15 dX8_begin_14 rfl rfl ?_
  refine mr_put C 0 18 dX8_begin_15 rfl fs_X8_96 rfl rfl rfl (Nat.le_of_ble_eq_true rfl) ?_
  refine mr_aload_n C 19 dX8_begin_18 rfl rfl ?_
  refine mr_iconst C (nI 0) 20 dX8_begin_19 rfl rfl ?_
  refine mr_put C 0 23 dX8_begin_20 rfl fs_X8_117 rfl rfl rfl (Nat.le_of_ble_eq_true rfl) ?_
  refine mr_w (ws' := wM E a tn st la mn im ho fr wa ac tp (nI 0) lt (nI S) (nI 0) tk sr tl (nI 0) fp wh go se no al be gn gi gm ik ke tc tr) rfl ?_
  refine mr_aload_n C 24 dX8_begin_23 rfl rfl ?_
  refine mr_callV C (c_m_next E a tn st ac (nI 0) lt tk sr tl (nI 0) fp gn gi gm tr la mn im ho fr wa tp wh go se no al be ik ke tc t S hS htp hby 0 (Nat.zero_le _)) [0, 1, 2, 3, 4, 5, 6, 7, 8, 9, 10, 11, 12, 13, 14, 15, 16] 0 8 27 dX8_begin_24 rfl mk_X8_next mi_X8_next ml_X8_120 rfl rfl rfl rfl rfl (Nat.le_of_ble_eq_true rfl) (by decide) (by decide) (by decide) rfl rfl (fun r w1 hpost => ?_)
  obtain ⟨rfl, rfl⟩ := hpost
  refine mr_w (wput_all _ _ 17 rfl rfl) ?_
  refine mr_vret C dX8_begin_27 rfl (by decide) (by decide) hlen ?_
  rw [hO]
  exact ⟨rfl, rfl⟩

set_option maxRecDepth 20000 in
set_option maxHeartbeats 4000000 in
theorem c_m_bad (E : EG) (a : Nat → Nat) (tn st ac td lt lg cu tk sr tl fp gn gi gm tr : Int32) (la mn im ho fr wa tp wh go se no al be ik ke tc : FN) (k : Nat) : Ctr E mX8_bad (1, 0, 0) [.ref (a 0), .int (nI k)] (wM E a tn st la mn im ho fr wa ac tp td lt lg cu tk sr tl ((nI 0)) fp wh go se no al be gn gi gm ik ke tc tr) (fun v w => v = none ∧ w = wM E a tn st la mn im ho fr wa ac tp td lt lg cu tk sr tl ((nI k)) sr wh go se no al be gn gi gm ik ke tc tr) := by
  refine Ctr.of (by decide) (Nat.le_of_ble_eq_true rfl) ?_
  intro Z hO hn C
  have hlen : zn Z ≤ 17 := by rw [hn]; exact Nat.le_of_ble_eq_true rfl
  refine mr_aload_n C 1 dX8_bad_0 rfl rfl ?_
  refine mr_get C 0 4 dX8_bad_1 rfl fl_X8_117 rfl rfl ?_
  refine mr_ifne C 20 7 dX8_bad_4 (by decide) rfl (fun c_ => absurd (by decide) c_) (fun _ => ?_)
  refine mr_aload_n C 8 dX8_bad_7 rfl rfl ?_
  refine mr_iload_n C 9 dX8_bad_8 rfl rfl ?_
  refine mr_put C 0 12 dX8_bad_9 rfl fs_X8_117 rfl rfl rfl (Nat.le_of_ble_eq_true rfl) ?_
  refine mr_aload_n C 13 dX8_bad_12 rfl rfl ?_
  refine mr_aload_n C 14 dX8_bad_13 rfl rfl ?_
  refine mr_get C 0 17 dX8_bad_14 rfl fl_X8_102 rfl rfl ?_
  refine mr_put C 0 20 dX8_bad_17 rfl fs_X8_123 rfl rfl rfl (Nat.le_of_ble_eq_true rfl) ?_
  refine mr_vret C dX8_bad_20 rfl (by decide) (by decide) hlen ?_
  rw [hO]
  exact ⟨rfl, rfl⟩

set_option maxRecDepth 20000 in
set_option maxHeartbeats 4000000 in
theorem c_must1 (E : EG) (a : Nat → Nat) (tn st ac td lt fp gn gi gm tr : Int32) (la mn im ho fr wa tp wh go se no al be ik ke tc : FN) (t : FN) (S : Nat) (hS : S ≤ 400) (htp : ∀ j, j < S → tp j = t j) (hby : ∀ j, j < S → ∃ b, b < 256 ∧ t j = nI b) (p : Nat) (hp : p ≤ S) : Ctr E mX8_must (4, 0, 0) [.ref (a 0), .int (nI 1)] (wM E a tn st la mn im ho fr wa ac tp td lt ((nI S)) ((nI (nxS t S p))) ((nI (tkM (tkS t S p)))) ((nI (stS t S p))) ((nI (nxS t S p))) ((nI 0)) fp wh go se no al be gn gi gm ik ke tc tr) (fun v w => v = none ∧ w = wM E a tn st la mn im ho fr wa ac tp td lt ((nI S)) ((nI (nxS t S (nxS t S p)))) ((nI (tkM (tkS t S (nxS t S p))))) ((nI (stS t S (nxS t S p)))) ((nI (nxS t S (nxS t S p)))) ((nI 0)) fp wh go se no al be gn gi gm ik ke tc tr) := by
  refine Ctr.of (by decide) (Nat.le_of_ble_eq_true rfl) ?_
  intro Z hO hn C
  have hlen : zn Z ≤ 17 := by rw [hn]; exact Nat.le_of_ble_eq_true rfl
  have hnp : nxS t S p ≤ S := (nxS_le hp).2
  refine mr_iload_n C 1 dX8_must_0 rfl rfl ?_
  refine mr_ifne C 9 4 dX8_must_1 (by decide) rfl (fun _ => ?_) (fun c_ => absurd c_ (by decide))
  refine mr_aload_n C 10 dX8_must_9 rfl rfl ?_
  refine mr_get C 0 13 dX8_must_10 rfl fl_X8_117 rfl rfl ?_
  refine mr_ifne C 20 16 dX8_must_13 (by decide) rfl (fun c_ => absurd (by decide) c_) (fun _ => ?_)
  refine mr_aload_n C 17 dX8_must_16 rfl rfl ?_
  refine mr_callV C (c_m_next E a tn st ac td lt (nI (tkM (tkS t S p))) (nI (stS t S p)) (nI (nxS t S p)) (nI 0) fp gn gi gm tr la mn im ho fr wa tp wh go se no al be ik ke tc t S hS htp hby (nxS t S p) hnp) [0, 1, 2, 3, 4, 5, 6, 7, 8, 9, 10, 11, 12, 13, 14, 15, 16] 0 8 20 dX8_must_17 rfl mk_X8_next mi_X8_next ml_X8_120 rfl rfl rfl rfl rfl (Nat.le_of_ble_eq_true rfl) (by decide) (by decide) (by decide) rfl rfl (fun r w1 hpost => ?_)
  obtain ⟨rfl, rfl⟩ := hpost
  refine mr_w (wput_all _ _ 17 rfl rfl) ?_
  refine mr_vret C dX8_must_20 rfl (by decide) (by decide) hlen ?_
  rw [hO]
  exact ⟨rfl, rfl⟩

set_option maxRecDepth 20000 in
set_option maxHeartbeats 4000000 in
theorem c_must0 (E : EG) (a : Nat → Nat) (tn st ac td lt fp gn gi gm tr : Int32) (la mn im ho fr wa tp wh go se no al be ik ke tc : FN) (t : FN) (S : Nat) (hS : S ≤ 400) (htp : ∀ j, j < S → tp j = t j) (hby : ∀ j, j < S → ∃ b, b < 256 ∧ t j = nI b) (p : Nat) (hp : p ≤ S) : Ctr E mX8_must (4, 0, 0) [.ref (a 0), .int (nI 0)] (wM E a tn st la mn im ho fr wa ac tp td lt ((nI S)) ((nI (nxS t S p))) ((nI (tkM (tkS t S p)))) ((nI (stS t S p))) ((nI (nxS t S p))) ((nI 0)) fp wh go se no al be gn gi gm ik ke tc tr) (fun v w => v = none ∧ w = wM E a tn st la mn im ho fr wa ac tp td lt ((nI S)) ((nI (nxS t S p))) ((nI (tkM (tkS t S p)))) ((nI (stS t S p))) ((nI (nxS t S p))) ((nI 1)) ((nI (stS t S p))) wh go se no al be gn gi gm ik ke tc tr) := by
  refine Ctr.of (by decide) (Nat.le_of_ble_eq_true rfl) ?_
  intro Z hO hn C
  have hlen : zn Z ≤ 17 := by rw [hn]; exact Nat.le_of_ble_eq_true rfl
  refine mr_iload_n C 1 dX8_must_0 rfl rfl ?_
  refine mr_ifne C 9 4 dX8_must_1 (by decide) rfl (fun c_ => absurd (by decide) c_) (fun _ => ?_)
  refine mr_aload_n C 5 dX8_must_4 rfl rfl ?_
  refine mr_iconst C (nI 1) 6 dX8_must_5 rfl rfl ?_
  refine mr_callV C (c_m_bad E a tn st ac td lt (nI S) (nI (nxS t S p)) (nI (tkM (tkS t S p))) (nI (stS t S p)) (nI (nxS t S p)) fp gn gi gm tr la mn im ho fr wa tp wh go se no al be ik ke tc 1) [0, 1, 2, 3, 4, 5, 6, 7, 8, 9, 10, 11, 12, 13, 14, 15, 16] 0 8 9 dX8_must_6 rfl mk_X8_bad mi_X8_bad ml_X8_126 rfl rfl rfl rfl rfl (Nat.le_of_ble_eq_true rfl) (by decide) (by decide) (by decide) rfl rfl (fun r w1 hpost => ?_)
  obtain ⟨rfl, rfl⟩ := hpost
  refine mr_w (wput_all _ _ 17 rfl rfl) ?_
  refine mr_aload_n C 10 dX8_must_9 rfl rfl ?_
  refine mr_get C 0 13 dX8_must_10 rfl fl_X8_117 rfl rfl ?_
  refine mr_ifne C 20 16 dX8_must_13 (by decide) rfl (fun _ => ?_) (fun c_ => absurd c_ (by decide))
  refine mr_vret C dX8_must_20 rfl (by decide) (by decide) hlen ?_
  rw [hO]
  exact ⟨rfl, rfl⟩

set_option maxRecDepth 20000 in
set_option maxHeartbeats 4000000 in
theorem c_mustF (E : EG) (a : Nat → Nat) (tn st ac td lt fp gn gi gm tr : Int32) (la mn im ho fr wa tp wh go se no al be ik ke tc : FN) (t : FN) (S p f : Nat) (hf0 : 0 < f) (hf : f < 4) : Ctr E mX8_must (4, 0, 0) [.ref (a 0), .int (nI 1)] (wM E a tn st la mn im ho fr wa ac tp td lt ((nI S)) ((nI (nxS t S p))) ((nI (tkM (tkS t S p)))) ((nI (stS t S p))) ((nI (nxS t S p))) ((nI f)) fp wh go se no al be gn gi gm ik ke tc tr) (fun v w => v = none ∧ w = wM E a tn st la mn im ho fr wa ac tp td lt ((nI S)) ((nI (nxS t S p))) ((nI (tkM (tkS t S p)))) ((nI (stS t S p))) ((nI (nxS t S p))) ((nI f)) fp wh go se no al be gn gi gm ik ke tc tr) := by
  refine Ctr.of (by decide) (Nat.le_of_ble_eq_true rfl) ?_
  intro Z hO hn C
  have hlen : zn Z ≤ 17 := by rw [hn]; exact Nat.le_of_ble_eq_true rfl
  refine mr_iload_n C 1 dX8_must_0 rfl rfl ?_
  refine mr_ifne C 9 4 dX8_must_1 (by decide) rfl (fun _ => ?_) (fun c_ => absurd c_ (by decide))
  refine mr_aload_n C 10 dX8_must_9 rfl rfl ?_
  refine mr_get C 0 13 dX8_must_10 rfl fl_X8_117 rfl rfl ?_
  refine mr_ifne C 20 16 dX8_must_13 (by decide) rfl (fun c_13 => ?_) (fun c_13 => ?_)
  · refine mr_vret C dX8_must_20 rfl (by decide) (by decide) hlen ?_
    rw [hO]
    exact ⟨rfl, rfl⟩
  · exact absurd c_13 (nI_ne0 (by omega) (by omega))


set_option maxRecDepth 20000 in
set_option maxHeartbeats 4000000 in
theorem c_m_name (E : EG) (a : Nat → Nat) (tn st ac td lt fp gn gi gm tr : Int32) (la mn im ho fr wa tp wh go se no al be ik ke tc : FN) (t : FN) (S : Nat) (hS : S ≤ 400) (htp : ∀ j, j < S → tp j = t j) (hby : ∀ j, j < S → ∃ b, b < 256 ∧ t j = nI b) (p : Nat) (hp : p ≤ S) (f : Nat) (hf4 : f < 4) : Ctr E mX8_name (1, 0, 0) [.ref (a 0)] (wM E a tn st la mn im ho fr wa ac tp td lt ((nI S)) ((nI (nxS t S p))) ((nI (tkM (tkS t S p)))) ((nI (stS t S p))) ((nI (nxS t S p))) ((nI f)) fp wh go se no al be gn gi gm ik ke tc tr) (fun v w => v = some (.long (if f = 0 then nmS t S p else 0)) ∧ w = wM E a tn st la mn im ho fr wa ac tp td lt ((nI S)) ((nI (nxS t S p))) ((nI (tkM (tkS t S p)))) ((nI (stS t S p))) ((nI (nxS t S p))) ((nI f)) fp wh go se no al be gn gi gm ik ke tc tr) := by
  refine Ctr.of (by decide) (Nat.le_of_ble_eq_true rfl) ?_
  intro Z hO hn C
  have hlen : zn Z ≤ 17 := by rw [hn]; exact Nat.le_of_ble_eq_true rfl
  have htk := tkM_lt t S p
  have hst := stS_le (t := t) hp
  have hnx := nxS_le (t := t) hp
  have L : ∀ k, k ≤ nxS t S p - stS t S p → (¬ (tkS t S p = 1 ∧ nxS t S p - stS t S p < 8) → k = 0) → V E mX8_name (1, 0, 0) Z 0 0 (wM E a tn st la mn im ho fr wa ac tp td lt ((nI S)) ((nI (nxS t S p))) ((nI (tkM (tkS t S p)))) ((nI (stS t S p))) ((nI (nxS t S p))) ((nI f)) fp wh go se no al be gn gi gm ik ke tc tr) [(0, .ref (a 0)), (1, .long (pk8 t (stS t S p) k)), (3, .int (nI (stS t S p + k)))] [] 7 := by
    refine lp_up (nxS t S p - stS t S p) ?_
    intro k hk ih hk3
    refine mr_iload_n C 8 dX8_name_7 rfl rfl ?_
    refine mr_aload_n C 9 dX8_name_8 rfl rfl ?_
    refine mr_get C 0 12 dX8_name_9 rfl fl_X8_114 rfl rfl ?_
    refine mr_icmpge C 56 15 dX8_name_12 (by decide) rfl (fun c_12 => ?_) (fun c_12 => ?_)
    · rw [nI_leI (by omega) (by omega)] at c_12
      refine mr_aload_n C 57 dX8_name_56 rfl rfl ?_
      refine mr_get C 0 60 dX8_name_57 rfl fl_X8_117 rfl rfl ?_
      refine mr_ifne C 67 63 dX8_name_60 (by decide) rfl (fun c_60 => ?_) (fun c_60 => ?_)
      · have c_60 : f ≠ 0 := fun e => c_60 (by rw [e]; rfl)
        refine mr_lconst C 0 68 dX8_name_67 rfl rfl ?_
        refine mr_lret C dX8_name_68 rfl (by decide) (by decide) hlen ?_
        rw [hO]
        exact ⟨congrArg (fun z => some (Value.long z)) (if_neg c_60).symm, rfl⟩
      · have c_60 : f = 0 := (nI_eq (b := 0) (by omega) (by omega)).mp c_60
        refine mr_lload_n C 64 dX8_name_63 rfl rfl ?_
        refine mr_goto C 68 dX8_name_64 (by decide) ?_
        refine mr_lret C dX8_name_68 rfl (by decide) (by decide) hlen ?_
        rw [hO]
        have e9 : nmS t S p = pk8 t (stS t S p) k := by
          unfold nmS
          rw [show nxS t S p - stS t S p = k by omega] at hk3 ⊢
          by_cases e : tkS t S p = 1 ∧ k < 8
          · rw [if_pos e]
          · have e7 := hk3 e
            rw [if_neg e, e7]; rfl
        rw [← e9]
        exact ⟨congrArg (fun z => some (Value.long z)) (if_pos c_60).symm, rfl⟩
    · rw [nI_leI (by omega) (by omega)] at c_12
      refine mr_aload_n C 16 dX8_name_15 rfl rfl ?_
      refine mr_get C 0 19 dX8_name_16 rfl fl_X8_105 rfl rfl ?_
      refine mr_iconst C (nI 2) 20 dX8_name_19 rfl rfl ?_
      refine mr_icmpne C 56 23 dX8_name_20 (by decide) rfl (fun c_20 => ?_) (fun c_20 => ?_)
      · rw [Ne, nI_eq (by omega) (by omega)] at c_20
        refine mr_aload_n C 57 dX8_name_56 rfl rfl ?_
        refine mr_get C 0 60 dX8_name_57 rfl fl_X8_117 rfl rfl ?_
        refine mr_ifne C 67 63 dX8_name_60 (by decide) rfl (fun c_60 => ?_) (fun c_60 => ?_)
        · have c_60 : f ≠ 0 := fun e => c_60 (by rw [e]; rfl)
          refine mr_lconst C 0 68 dX8_name_67 rfl rfl ?_
          refine mr_lret C dX8_name_68 rfl (by decide) (by decide) hlen ?_
          rw [hO]
          exact ⟨congrArg (fun z => some (Value.long z)) (if_neg c_60).symm, rfl⟩
        · have c_60 : f = 0 := (nI_eq (b := 0) (by omega) (by omega)).mp c_60
          refine mr_lload_n C 64 dX8_name_63 rfl rfl ?_
          refine mr_goto C 68 dX8_name_64 (by decide) ?_
          refine mr_lret C dX8_name_68 rfl (by decide) (by decide) hlen ?_
          rw [hO]
          have e9 : nmS t S p = pk8 t (stS t S p) k := by
            unfold nmS
            have e8 : ¬ (tkS t S p = 1 ∧ nxS t S p - stS t S p < 8) := by
              rintro ⟨h1, h2⟩; exact c_20 (by rw [h1]; rfl)
            have e7 := hk3 e8
            rw [if_neg e8, e7]; rfl
          rw [← e9]
          exact ⟨congrArg (fun z => some (Value.long z)) (if_pos c_60).symm, rfl⟩
      · rw [nI_eq (by omega) (by omega)] at c_20
        refine mr_aload_n C 24 dX8_name_23 rfl rfl ?_
        refine mr_get C 0 27 dX8_name_24 rfl fl_X8_114 rfl rfl ?_
        refine mr_aload_n C 28 dX8_name_27 rfl rfl ?_
        refine mr_get C 0 31 dX8_name_28 rfl fl_X8_102 rfl rfl ?_
        refine mr_isub C (nI (nxS t S p - stS t S p)) 32 dX8_name_31 rfl (pk_sub (by omega)) ?_
        refine mr_bipush C (nI 8) 34 dX8_name_32 rfl rfl ?_
        refine mr_icmpge C 56 37 dX8_name_34 (by decide) rfl (fun c_34 => ?_) (fun c_34 => ?_)
        · rw [nI_leI (by omega) (by omega)] at c_34
          refine mr_aload_n C 57 dX8_name_56 rfl rfl ?_
          refine mr_get C 0 60 dX8_name_57 rfl fl_X8_117 rfl rfl ?_
          refine mr_ifne C 67 63 dX8_name_60 (by decide) rfl (fun c_60 => ?_) (fun c_60 => ?_)
          · have c_60 : f ≠ 0 := fun e => c_60 (by rw [e]; rfl)
            refine mr_lconst C 0 68 dX8_name_67 rfl rfl ?_
            refine mr_lret C dX8_name_68 rfl (by decide) (by decide) hlen ?_
            rw [hO]
            exact ⟨congrArg (fun z => some (Value.long z)) (if_neg c_60).symm, rfl⟩
          · have c_60 : f = 0 := (nI_eq (b := 0) (by omega) (by omega)).mp c_60
            refine mr_lload_n C 64 dX8_name_63 rfl rfl ?_
            refine mr_goto C 68 dX8_name_64 (by decide) ?_
            refine mr_lret C dX8_name_68 rfl (by decide) (by decide) hlen ?_
            rw [hO]
            have e9 : nmS t S p = pk8 t (stS t S p) k := by
              unfold nmS
              have e8 : ¬ (tkS t S p = 1 ∧ nxS t S p - stS t S p < 8) := by
                rintro ⟨h1, h2⟩; omega
              have e7 := hk3 e8
              rw [if_neg e8, e7]; rfl
            rw [← e9]
            exact ⟨congrArg (fun z => some (Value.long z)) (if_pos c_60).symm, rfl⟩
        · rw [nI_leI (by omega) (by omega)] at c_34
          refine mr_lload_n C 38 dX8_name_37 rfl rfl ?_
          refine mr_bipush C (nI 8) 40 dX8_name_38 rfl rfl ?_
          refine mr_lshl C _ 41 dX8_name_40 rfl rfl ?_
          refine mr_aload_n C 42 dX8_name_41 rfl rfl ?_
          refine mr_get C 0 45 dX8_name_42 rfl fl_X8_28 rfl rfl ?_
          refine mr_iload_n C 46 dX8_name_45 rfl rfl ?_
          refine mr_iale C 7 (stS t S p + k) ((t (stS t S p + k))) 47 dX8_name_46 rfl rfl rfl (by omega) (by decide) (htp _ (by omega)) ?_
          refine mr_i2l C _ 48 dX8_name_47 rfl rfl ?_
          refine mr_lor C _ 49 dX8_name_48 rfl rfl ?_
          refine mr_lstore_n C 50 dX8_name_49 rfl rfl (by decide) ?_
          refine mr_iinc C (nI (stS t S p + k + 1)) 53 dX8_name_50 rfl rfl (by decide) (nI_add (stS t S p + k) 1) ?_
          refine mr_goto C 7 dX8_name_53 (by decide) ?_
          have c_20 : tkS t S p = 1 := by have := (tkM_is (by decide) (by decide)).mp c_20; omega
          exact mr_at (ih (by omega) (fun e => absurd ⟨c_20, by omega⟩ e)) rfl rfl rfl
  refine mr_lconst C 0 1 dX8_name_0 rfl rfl ?_
  refine mr_lstore_n C 2 dX8_name_1 rfl rfl (by decide) ?_
  refine mr_aload_n C 3 dX8_name_2 rfl rfl ?_
  refine mr_get C 0 6 dX8_name_3 rfl fl_X8_102 rfl rfl ?_
  refine mr_istore_n C 7 dX8_name_6 rfl rfl (by decide) ?_
  exact mr_at (L 0 (Nat.zero_le _) (fun _ => rfl)) rfl rfl rfl

set_option maxRecDepth 20000 in
set_option maxHeartbeats 4000000 in
theorem c_m_figures (E : EG) (a : Nat → Nat) (tn st ac td lt fp gn gi gm tr : Int32) (la mn im ho fr wa tp wh go se no al be ik ke tc : FN) (t : FN) (S : Nat) (hS : S ≤ 400) (htp : ∀ j, j < S → tp j = t j) (hby : ∀ j, j < S → ∃ b, b < 256 ∧ t j = nI b) (p : Nat) (hp : p ≤ S) (f : Nat) : Ctr E mX8_figures (1, 0, 0) [.ref (a 0)] (wM E a tn st la mn im ho fr wa ac tp td lt ((nI S)) ((nI (nxS t S p))) ((nI (tkM (tkS t S p)))) ((nI (stS t S p))) ((nI (nxS t S p))) ((nI f)) fp wh go se no al be gn gi gm ik ke tc tr) (fun v w => v = some (.int (if tkS t S p = 2 then vlS t S p else nI 0)) ∧ w = wM E a tn st la mn im ho fr wa ac tp td lt ((nI S)) ((nI (nxS t S p))) ((nI (tkM (tkS t S p)))) ((nI (stS t S p))) ((nI (nxS t S p))) ((nI f)) fp wh go se no al be gn gi gm ik ke tc tr) := by
  refine Ctr.of (by decide) (Nat.le_of_ble_eq_true rfl) ?_
  intro Z hO hn C
  have hlen : zn Z ≤ 17 := by rw [hn]; exact Nat.le_of_ble_eq_true rfl
  have htk := tkM_lt t S p
  have hst := stS_le (t := t) hp
  have hnx := nxS_le (t := t) hp
  have L : ∀ k, k ≤ nxS t S p - stS t S p → (¬ tkS t S p = 2 → k = 0) → V E mX8_figures (1, 0, 0) Z 0 0 (wM E a tn st la mn im ho fr wa ac tp td lt ((nI S)) ((nI (nxS t S p))) ((nI (tkM (tkS t S p)))) ((nI (stS t S p))) ((nI (nxS t S p))) ((nI f)) fp wh go se no al be gn gi gm ik ke tc tr) [(0, .ref (a 0)), (1, .int (valS t (stS t S p) k)), (2, .int (nI (stS t S p + k)))] [] 7 := by
    refine lp_up (nxS t S p - stS t S p) ?_
    intro k hk ih hk3
    refine mr_iload_n C 8 dX8_figures_7 rfl rfl ?_
    refine mr_aload_n C 9 dX8_figures_8 rfl rfl ?_
    refine mr_get C 0 12 dX8_figures_9 rfl fl_X8_114 rfl rfl ?_
    refine mr_icmpge C 44 15 dX8_figures_12 (by decide) rfl (fun c_12 => ?_) (fun c_12 => ?_)
    · rw [nI_leI (by omega) (by omega)] at c_12
      refine mr_iload_n C 45 dX8_figures_44 rfl rfl ?_
      refine mr_iret C dX8_figures_45 rfl rfl (by decide) (by decide) hlen ?_
      rw [hO]
      have e9 : (if tkS t S p = 2 then vlS t S p else nI 0) = valS t (stS t S p) k := by
        unfold vlS
        rw [show nxS t S p - stS t S p = k by omega]
        by_cases e : tkS t S p = 2
        · rw [if_pos e]
        · rw [if_neg e, hk3 e]; rfl
      rw [← e9]
      exact ⟨rfl, rfl⟩
    · rw [nI_leI (by omega) (by omega)] at c_12
      refine mr_aload_n C 16 dX8_figures_15 rfl rfl ?_
      refine mr_get C 0 19 dX8_figures_16 rfl fl_X8_105 rfl rfl ?_
      refine mr_iconst C (nI 3) 20 dX8_figures_19 rfl rfl ?_
      refine mr_icmpne C 44 23 dX8_figures_20 (by decide) rfl (fun c_20 => ?_) (fun c_20 => ?_)
      · rw [Ne, nI_eq (by omega) (by omega)] at c_20
        refine mr_iload_n C 45 dX8_figures_44 rfl rfl ?_
        refine mr_iret C dX8_figures_45 rfl rfl (by decide) (by decide) hlen ?_
        rw [hO]
        have e9 : (if tkS t S p = 2 then vlS t S p else nI 0) = valS t (stS t S p) k := by
          unfold vlS
          have e : ¬ tkS t S p = 2 := fun h1 => c_20 (by rw [h1]; rfl)
          rw [if_neg e, hk3 e]; rfl
        rw [← e9]
        exact ⟨rfl, rfl⟩
      · rw [nI_eq (by omega) (by omega)] at c_20
        refine mr_bipush C (nI 10) 25 dX8_figures_23 rfl rfl ?_
        refine mr_iload_n C 26 dX8_figures_25 rfl rfl ?_
        refine mr_imul C _ 27 dX8_figures_26 rfl rfl ?_
        refine mr_aload_n C 28 dX8_figures_27 rfl rfl ?_
        refine mr_get C 0 31 dX8_figures_28 rfl fl_X8_28 rfl rfl ?_
        refine mr_iload_n C 32 dX8_figures_31 rfl rfl ?_
        refine mr_iale C 7 (stS t S p + k) ((t (stS t S p + k))) 33 dX8_figures_32 rfl rfl rfl (by omega) (by decide) (htp _ (by omega)) ?_
        refine mr_iadd C _ 34 dX8_figures_33 rfl rfl ?_
        refine mr_bipush C (nI 48) 36 dX8_figures_34 rfl rfl ?_
        refine mr_isub C _ 37 dX8_figures_36 rfl rfl ?_
        refine mr_istore_n C 38 dX8_figures_37 rfl rfl (by decide) ?_
        refine mr_iinc C (nI (stS t S p + k + 1)) 41 dX8_figures_38 rfl rfl (by decide) (nI_add (stS t S p + k) 1) ?_
        refine mr_goto C 7 dX8_figures_41 (by decide) ?_
        have c_20 : tkS t S p = 2 := by have := (tkM_is (by decide) (by decide)).mp c_20; omega
        have ih2 := ih (by omega) (fun e => absurd c_20 e)
        rw [show valS t (stS t S p) (k + 1) = nI 10 * valS t (stS t S p) k + t (stS t S p + k) - nI 48 by rw [Int32.mul_comm]; rfl] at ih2
        exact mr_at ih2 rfl rfl rfl
  refine mr_iconst C (nI 0) 1 dX8_figures_0 rfl rfl ?_
  refine mr_istore_n C 2 dX8_figures_1 rfl rfl (by decide) ?_
  refine mr_aload_n C 3 dX8_figures_2 rfl rfl ?_
  refine mr_get C 0 6 dX8_figures_3 rfl fl_X8_102 rfl rfl ?_
  refine mr_istore_n C 7 dX8_figures_6 rfl rfl (by decide) ?_
  exact mr_at (L 0 (Nat.zero_le _) (fun _ => rfl)) rfl rfl rfl

