/-! Tape.isWord -/
/-- the text's bytes from s to n are word w -/
def wordS (t : FN) (s n w : Nat) : Prop := n - s = lenS.getD w 0 ∧ ∀ k, k < lenS.getD w 0 → t (s + k) = (bytS.getD w []).getD k 0
/-- 1 or 0, by any proposition -/
noncomputable def bP (p : Prop) : Int32 := @bI p (Classical.propDecidable p)
theorem bP_t {p : Prop} (h : p) : nI 1 = bP p := @bI_t p (Classical.propDecidable p) h
theorem bP_f {p : Prop} (h : ¬ p) : nI 0 = bP p := @bI_f p (Classical.propDecidable p) h
theorem bP_ne {p : Prop} : bP p ≠ 0 ↔ p := @bI_ne p (Classical.propDecidable p)
theorem bP_eq {p : Prop} : bP p = 0 ↔ ¬ p := @bI_eq p (Classical.propDecidable p)
set_option maxRecDepth 20000 in
set_option maxHeartbeats 4000000 in
theorem c_isWord (E : EG) (a : Nat → Nat) (b : Nat) (t : FN) (vl : Int32) (S k0 s e w : Nat) (hS : S ≤ 400) (hk0 : k0 < 9) (hse : s ≤ e) (he : e ≤ S) (hw : w < 8) : Ctr E mX6_isWord (5, 0, 0) [.ref (a b), .ref (E.2.1 (10 + w))] (wT E a b t (nI S) (nI k0) (nI s) (nI e) vl) (fun v x => v = some (.int (bP (k0 = 1 ∧ wordS t s e w))) ∧ x = wT E a b t (nI S) (nI k0) (nI s) (nI e) vl) := by
  refine Ctr.of (by decide) (Nat.le_of_ble_eq_true rfl) ?_
  intro Z hO hn C
  have hlen : zn Z ≤ 2 := by rw [hn]; exact Nat.le_of_ble_eq_true rfl
  have hl6 := (sLen w hw).2
  have L : k0 = 1 → e - s = lenS.getD w 0 → ∀ i, i ≤ lenS.getD w 0 → (∀ j, j < i → t (s + j) = (bytS.getD w []).getD j 0) → V E mX6_isWord (5, 0, 0) Z 0 0 (wT E a b t (nI S) (nI k0) (nI s) (nI e) vl) [(0, .ref (a b)), (1, .ref (E.2.1 (10 + w))), (2, .int (nI i))] [] 28 := by
    intro h1 h2
    refine lp_up _ ?_
    intro i hi ih hf
    refine mr_iload_n C 29 dX6_isWord_28 rfl rfl ?_
    refine mr_aload_n C 30 dX6_isWord_29 rfl rfl ?_
    refine mr_callT C w hw (c_slen E w hw) [] 33 dX6_isWord_30 rfl mk_J0_length_8abf5 mi_J0_length_8abf5 ml_X6_47 rfl rfl rfl rfl rfl rfl (Nat.le_of_ble_eq_true rfl) (by decide) (by decide) (by decide) (fun r w1 hpost => ?_)
    obtain ⟨rfl, rfl⟩ := hpost
    refine mr_w (ws' := wT E a b t (nI S) (nI k0) (nI s) (nI e) vl) rfl ?_
    refine mr_icmpge C 63 36 dX6_isWord_33 (by decide) rfl (fun c_33 => ?_) (fun c_33 => ?_)
    · rw [nI_leI (by omega) (by omega)] at c_33
      refine mr_iconst C (nI 1) 64 dX6_isWord_63 rfl rfl ?_
      refine mr_iret C dX6_isWord_64 rfl rfl (by decide) (by decide) hlen ?_
      rw [hO]
      obtain rfl : i = lenS.getD w 0 := by omega
      exact ⟨congrArg (fun z => some (Value.int z)) (bP_t ⟨h1, h2, hf⟩), rfl⟩
    · rw [nI_leI (by omega) (by omega)] at c_33
      refine mr_aload_n C 37 dX6_isWord_36 rfl rfl ?_
      refine mr_get C 0 40 dX6_isWord_37 rfl fl_X6_9 rfl rfl ?_
      refine mr_aload_n C 41 dX6_isWord_40 rfl rfl ?_
      refine mr_get C 0 44 dX6_isWord_41 rfl fl_X6_29 rfl rfl ?_
      refine mr_iload_n C 45 dX6_isWord_44 rfl rfl ?_
      refine mr_iadd C (nI (s + i)) 46 dX6_isWord_45 rfl (nI_add _ _) ?_
      refine mr_iald C 1 (s + i) 47 dX6_isWord_46 rfl rfl rfl (by omega) (by decide) ?_
      refine mr_aload_n C 48 dX6_isWord_47 rfl rfl ?_
      refine mr_iload_n C 49 dX6_isWord_48 rfl rfl ?_
      refine mr_callT C w hw (c_sch E w i hw (by omega)) [] 52 dX6_isWord_49 rfl mk_J0_charAt_5068e mi_J0_charAt_5068e ml_X6_53 rfl rfl rfl rfl rfl rfl (Nat.le_of_ble_eq_true rfl) (by decide) (by decide) (by decide) (fun r w1 hpost => ?_)
      obtain ⟨rfl, rfl⟩ := hpost
      refine mr_w (ws' := wT E a b t (nI S) (nI k0) (nI s) (nI e) vl) rfl ?_
      refine mr_icmpeq C 57 55 dX6_isWord_52 (by decide) rfl (fun c_52 => ?_) (fun c_52 => ?_)
      · refine mr_iinc C (nI (i + 1)) 60 dX6_isWord_57 rfl rfl (by decide) (nI_add i 1) ?_
        refine mr_goto C 28 dX6_isWord_60 (by decide) ?_
        refine mr_at (ih (by omega) ?_) rfl rfl rfl
        intro j hj
        by_cases e2 : j = i
        · rw [e2]; exact c_52
        · exact hf j (by omega)
      · refine mr_iconst C (nI 0) 56 dX6_isWord_55 rfl rfl ?_
        refine mr_iret C dX6_isWord_56 rfl rfl (by decide) (by decide) hlen ?_
        rw [hO]
        exact ⟨congrArg (fun z => some (Value.int z)) (bP_f (fun h => c_52 (h.2.2 i (by omega)))), rfl⟩
  refine mr_aload_n C 1 dX6_isWord_0 rfl rfl ?_
  refine mr_get C 0 4 dX6_isWord_1 rfl fl_X6_32 rfl rfl ?_
  refine mr_iconst C (nI 1) 5 dX6_isWord_4 rfl rfl ?_
  refine mr_icmpne C 24 8 dX6_isWord_5 (by decide) rfl (fun c_5 => ?_) (fun c_5 => ?_)
  · rw [Ne, nI_eq (by omega) (by omega)] at c_5
    refine mr_iconst C (nI 0) 25 dX6_isWord_24 rfl rfl ?_
    refine mr_iret C dX6_isWord_25 rfl rfl (by decide) (by decide) hlen ?_
    rw [hO]
    exact ⟨congrArg (fun z => some (Value.int z)) (bP_f (fun h => c_5 h.1)), rfl⟩
  · rw [nI_eq (by omega) (by omega)] at c_5
    refine mr_aload_n C 9 dX6_isWord_8 rfl rfl ?_
    refine mr_get C 0 12 dX6_isWord_9 rfl fl_X6_19 rfl rfl ?_
    refine mr_aload_n C 13 dX6_isWord_12 rfl rfl ?_
    refine mr_get C 0 16 dX6_isWord_13 rfl fl_X6_29 rfl rfl ?_
    refine mr_isub C (nI (e - s)) 17 dX6_isWord_16 rfl (pk_sub (by omega)) ?_
    refine mr_aload_n C 18 dX6_isWord_17 rfl rfl ?_
    refine mr_callT C w hw (c_slen E w hw) [] 21 dX6_isWord_18 rfl mk_J0_length_8abf5 mi_J0_length_8abf5 ml_X6_47 rfl rfl rfl rfl rfl rfl (Nat.le_of_ble_eq_true rfl) (by decide) (by decide) (by decide) (fun r w1 hpost => ?_)
    obtain ⟨rfl, rfl⟩ := hpost
    refine mr_w (ws' := wT E a b t (nI S) (nI k0) (nI s) (nI e) vl) rfl ?_
    refine mr_icmpeq C 26 24 dX6_isWord_21 (by decide) rfl (fun c_21 => ?_) (fun c_21 => ?_)
    · rw [nI_eq (by omega) (by omega)] at c_21
      refine mr_iconst C (nI 0) 27 dX6_isWord_26 rfl rfl ?_
      refine mr_istore_n C 28 dX6_isWord_27 rfl rfl (by decide) ?_
      exact mr_at (L c_5 c_21 0 (Nat.zero_le _) (fun j h => absurd h (Nat.not_lt_zero j))) rfl rfl rfl
    · rw [nI_eq (by omega) (by omega)] at c_21
      refine mr_iconst C (nI 0) 25 dX6_isWord_24 rfl rfl ?_
      refine mr_iret C dX6_isWord_25 rfl rfl (by decide) (by decide) hlen ?_
      rw [hO]
      exact ⟨congrArg (fun z => some (Value.int z)) (bP_f (fun h => c_21 h.2.1)), rfl⟩

