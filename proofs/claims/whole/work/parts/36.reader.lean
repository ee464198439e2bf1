/-! Reader: the whole tape -/
set_option maxRecDepth 20000 in
set_option maxHeartbeats 4000000 in
theorem c_readTape (E : EG) (a : Nat → Nat) (b b2 b3 : Nat) (pt dc fn : Int32) (t : FN) (S : Nat) (tk sr nx vl : Int32) (se sn be so lo he inn al go : FN) (ro cr gn gu gr : Int32) (hS : S ≤ 400) : Ctr E mX4_readTape (9, 0, 0) [.ref (a b)] (((a b, .inr (4, [.ref (a b2), .ref (a b3), .int pt, .int dc, .int fn])) :: wT E a b2 t (nI S) tk sr nx vl) ++ wH E a b3 se sn be so lo he inn al go ro cr gn gu gr) (fun v w => ∃ sn0 : FN, (∀ j, j < 6 → sn0 j = nI 0) ∧ RPT E a b b2 b3 fn t S be inn al go gn gu gr (rdTape t S se sn0 so lo he) v w) := by
  refine Ctr.of (by decide) (Nat.le_of_ble_eq_true rfl) ?_
  intro Z hO hn C
  have hlen : zn Z ≤ 13 := by rw [hn]; exact Nat.le_of_ble_eq_true rfl
  have LF : ∀ (i pf f : Nat) (vl pt : Int32) (x : PLN), i ≤ 400 → (∀ v w, RPT E a b b2 b3 fn t S be inn al go gn gu gr (.inl (pf, f)) v w → zO Z v w) → V E mX4_readTape (9, 0, 0) Z 0 0 (wRt E a b b2 b3 pt (nI x.1.2.2) (nI f) t S pf vl ++ wH E a b3 x.2.1 x.2.2.1 be x.2.2.2.1 x.2.2.2.2.1 x.2.2.2.2.2 inn al go (nI x.1.1) (nI x.1.2.1) gn gu gr) [(0, .ref (a b)), (1, .int (nI 0)), (2, .int (nI i))] [] 31 := by
    intro i pf f vl pt x hi hO
    refine mr_iload_n C 32 dX4_readTape_31 rfl rfl ?_
    refine mr_sipush C (nI 400) 35 dX4_readTape_32 rfl rfl ?_
    refine mr_icmpge C 63 38 dX4_readTape_35 (by decide) rfl (fun c_35 => ?_) (fun c_35 => ?_)
    · rw [nI_leI (by omega) (by omega)] at c_35
      refine mr_iload_n C 64 dX4_readTape_63 rfl rfl ?_
      refine mr_iret C dX4_readTape_64 rfl rfl (by decide) (by decide) hlen ?_
      refine hO _ _ ?_
      exact And.intro rfl ⟨_, _, _, rfl⟩
    · rw [nI_leI (by omega) (by omega)] at c_35
      refine mr_iload_n C 39 dX4_readTape_38 rfl rfl ?_
      refine mr_ifeq C 63 42 dX4_readTape_39 (by decide) rfl (fun _ => ?_) (fun c_ => absurd (by decide) c_)
      refine mr_iload_n C 64 dX4_readTape_63 rfl rfl ?_
      refine mr_iret C dX4_readTape_64 rfl rfl (by decide) (by decide) hlen ?_
      refine hO _ _ ?_
      exact And.intro rfl ⟨_, _, _, rfl⟩
  have LL : ∀ i, i ≤ 400 → ∀ (p P : Nat) (vl : Int32) (x : PLN), p ≤ S → vOK t S p vl → P ≤ 2 → (x.1.1 ≤ 6 ∧ x.1.2.1 ≤ 5 ∧ x.1.2.2 ≤ 12) → (∀ v w, RPT E a b b2 b3 fn t S be inn al go gn gu gr (rdLoop t S (400 - i) P p x) v w → zO Z v w) → V E mX4_readTape (9, 0, 0) Z 0 0 (wRt E a b b2 b3 (nI P) (nI x.1.2.2) fn t S p vl ++ wH E a b3 x.2.1 x.2.2.1 be x.2.2.2.1 x.2.2.2.2.1 x.2.2.2.2.2 inn al go (nI x.1.1) (nI x.1.2.1) gn gu gr) [(0, .ref (a b)), (1, .int (nI 1)), (2, .int (nI i))] [] 31 := by
    refine lp_up 400 ?_
    intro i hi ih p P vl x hp hv hP hx hO
    have htk := tkS_lt t S p
    refine mr_iload_n C 32 dX4_readTape_31 rfl rfl ?_
    refine mr_sipush C (nI 400) 35 dX4_readTape_32 rfl rfl ?_
    refine mr_icmpge C 63 38 dX4_readTape_35 (by decide) rfl (fun c_35 => ?_) (fun c_35 => ?_)
    · rw [nI_leI (by omega) (by omega)] at c_35
      refine mr_iload_n C 64 dX4_readTape_63 rfl rfl ?_
      refine mr_iret C dX4_readTape_64 rfl rfl (by decide) (by decide) hlen ?_
      refine hO _ _ ?_
      have hlp : rdLoop t S (400 - i) P p x = .inr (p, x) := by
        obtain rfl : i = 400 := by omega
        rfl
      rw [hlp]
      exact And.intro rfl ⟨_, _, rfl⟩
    · rw [nI_leI (by omega) (by omega)] at c_35
      refine mr_iload_n C 39 dX4_readTape_38 rfl rfl ?_
      refine mr_ifeq C 63 42 dX4_readTape_39 (by decide) rfl (fun c_ => absurd c_ (by decide)) (fun _ => ?_)
      refine mr_aload_n C 43 dX4_readTape_42 rfl rfl ?_
      refine mr_get C 0 46 dX4_readTape_43 rfl fl_X4_18 rfl rfl ?_
      refine mr_get C 1 49 dX4_readTape_46 rfl fl_X4_41 rfl rfl ?_
      refine mr_ifeq C 63 52 dX4_readTape_49 (by decide) rfl (fun c_49 => ?_) (fun c_49 => ?_)
      · have c_49 : tkS t S p = 0 := (nI_eq (by omega) (by decide)).mp (c_49.trans nI_0.symm)
        refine mr_iload_n C 64 dX4_readTape_63 rfl rfl ?_
        refine mr_iret C dX4_readTape_64 rfl rfl (by decide) (by decide) hlen ?_
        refine hO _ _ ?_
        have hlp : rdLoop t S (400 - i) P p x = .inr (p, x) := by
          rw [show 400 - i = (400 - (i + 1)) + 1 by omega]
          exact if_pos c_49
        rw [hlp]
        exact And.intro rfl ⟨_, _, rfl⟩
      · have c_49 : ¬ tkS t S p = 0 := fun h => c_49 (by rw [h]; rfl)
        refine mr_aload_n C 53 dX4_readTape_52 rfl rfl ?_
        refine mr_callV C (c_readPart E a b b2 b3 fn t S p P x.1.1 x.1.2.1 x.1.2.2 vl x.2.1 x.2.2.1 be x.2.2.2.1 x.2.2.2.2.1 x.2.2.2.2.2 inn al go gn gu gr hS hp hv hP hx.1 hx.2.1 hx.2.2) [0, 1, 2, 3, 4, 5, 6, 7, 8, 9, 10, 11, 12] 0 4 56 dX4_readTape_53 rfl mk_X4_readPart mi_X4_readPart ml_X4_44 rfl rfl rfl rfl rfl (Nat.le_of_ble_eq_true rfl) (by decide) (by decide) (by decide) rfl rfl (fun r w1 hpost => ?_)
        have hlp : rdLoop t S (400 - i) P p x = rbind (rdPart t S p P x.1.1 x.1.2.1 x.1.2.2 x.2.1 x.2.2.1 x.2.2.2.1 x.2.2.2.2.1 x.2.2.2.2.2) fun y => rdLoop t S (400 - (i + 1)) (nptS t S p P) y.1 y.2 := by
          rw [show 400 - i = (400 - (i + 1)) + 1 by omega]
          exact if_neg c_49
        cases hr : rdPart t S p P x.1.1 x.1.2.1 x.1.2.2 x.2.1 x.2.2.1 x.2.2.2.1 x.2.2.2.2.1 x.2.2.2.2.2 with
        | inl e =>
          obtain ⟨pf, f⟩ := e
          rw [hr] at hpost hlp
          obtain ⟨rfl, vl9, hv9, rfl⟩ := hpost
          refine mr_w (wput_all _ _ 13 rfl rfl) ?_
          rw [hlp] at hO
          refine mr_istore_n C 57 dX4_readTape_56 rfl rfl (by decide) ?_
          refine mr_iinc C (nI (i + 1)) 60 dX4_readTape_57 rfl rfl (by decide) (nI_add i 1) ?_
          refine mr_goto C 31 dX4_readTape_60 (by decide) ?_
          exact mr_at (LF (i + 1) pf f vl9 _ x (by omega) hO) rfl rfl rfl
        | inr e =>
          obtain ⟨p2, x2⟩ := e
          have hok := rdPart_ok hp hx.1 hx.2.1 hx.2.2 hr
          rw [hr] at hpost hlp
          obtain ⟨rfl, vl9, hv9, rfl⟩ := hpost
          refine mr_w (wput_all _ _ 13 rfl rfl) ?_
          rw [hlp] at hO
          refine mr_istore_n C 57 dX4_readTape_56 rfl rfl (by decide) ?_
          refine mr_iinc C (nI (i + 1)) 60 dX4_readTape_57 rfl rfl (by decide) (nI_add i 1) ?_
          refine mr_goto C 31 dX4_readTape_60 (by decide) ?_
          exact mr_at (ih (by omega) p2 (nptS t S p P) vl9 x2 hok.2.1 hv9 (nptS_le t S p P) hok.2.2 hO) rfl rfl rfl
  refine mr_aload_n C 1 dX4_readTape_0 rfl rfl ?_
  refine mr_get C 0 4 dX4_readTape_1 rfl fl_X4_12 rfl rfl ?_
  refine mr_callV C (c_clear E a b3 se sn be so lo he inn al go ro cr gn gu gr) [3, 4, 5, 6, 7, 8, 9, 10, 11, 12] 3 3 7 dX4_readTape_4 rfl mk_X3_clear mi_X3_clear ml_X4_22 rfl rfl rfl rfl rfl (Nat.le_of_ble_eq_true rfl) (by decide) (by decide) (by decide) rfl rfl (fun r w1 hpost => ?_)
  obtain ⟨sn0, rfl, rfl, hsn0⟩ := hpost
  refine mr_w (ws' := ((a b, .inr (4, [.ref (a b2), .ref (a b3), .int pt, .int dc, .int fn])) :: wT E a b2 t (nI S) tk sr nx vl) ++ wH E a b3 se sn0 be so lo he inn al go (nI 0) (nI 0) gn gu gr) rfl ?_
  refine mr_aload_n C 8 dX4_readTape_7 rfl rfl ?_
  refine mr_iconst C (nI 0) 9 dX4_readTape_8 rfl rfl ?_
  refine mr_put C 0 12 dX4_readTape_9 rfl fs_X4_25 rfl rfl rfl (Nat.le_of_ble_eq_true rfl) ?_
  refine mr_aload_n C 13 dX4_readTape_12 rfl rfl ?_
  refine mr_iconst C (nI 0) 14 dX4_readTape_13 rfl rfl ?_
  refine mr_put C 0 17 dX4_readTape_14 rfl fs_X4_29 rfl rfl rfl (Nat.le_of_ble_eq_true rfl) ?_
  refine mr_aload_n C 18 dX4_readTape_17 rfl rfl ?_
  refine mr_get C 0 21 dX4_readTape_18 rfl fl_X4_18 rfl rfl ?_
  refine mr_callV C (c_rewind E a b2 t tk sr nx vl S hS) [1, 2] 1 6 24 dX4_readTape_21 rfl mk_X6_rewind mi_X6_rewind ml_X4_32 rfl rfl rfl rfl rfl (Nat.le_of_ble_eq_true rfl) (by decide) (by decide) (by decide) rfl rfl (fun r w1 hpost => ?_)
  obtain ⟨vl1, rfl, rfl, hv1⟩ := hpost
  refine mr_w (ws' := wRt E a b b2 b3 (nI 0) (nI 0) fn t S 0 vl1 ++ wH E a b3 se sn0 be so lo he inn al go (nI 0) (nI 0) gn gu gr) rfl ?_
  refine mr_aload_n C 25 dX4_readTape_24 rfl rfl ?_
  refine mr_callV C (c_readRoom E a b b2 b3 (nI 0) fn t S 0 0 0 0 vl1 se sn0 be so lo he inn al go gn gu gr hS (Nat.zero_le _) hv1 (by decide) (by decide) (by decide)) [0, 1, 2, 3, 4, 5, 6, 7, 8, 9, 10, 11, 12] 0 4 28 dX4_readTape_25 rfl mk_X4_readRoom mi_X4_readRoom ml_X4_37 rfl rfl rfl rfl rfl (Nat.le_of_ble_eq_true rfl) (by decide) (by decide) (by decide) rfl rfl (fun r w1 hpost => ?_)
  have hO : ∀ v w, RPT E a b b2 b3 fn t S be inn al go gn gu gr (rdTape t S se sn0 so lo he) v w → zO Z v w := fun v w h => by rw [hO]; exact ⟨sn0, hsn0, h⟩
  cases hr : rdRoom t S 0 0 0 0 se sn0 so lo he with
  | inl e =>
    obtain ⟨e1, e2⟩ := e
    rw [hr] at hpost
    obtain ⟨rfl, vl9, hv9, rfl⟩ := hpost
    refine mr_w (wput_all _ _ 13 rfl rfl) ?_
    simp only [rdTape, hr, rbind] at hO
    refine mr_istore_n C 29 dX4_readTape_28 rfl rfl (by decide) ?_
    refine mr_iconst C (nI 0) 30 dX4_readTape_29 rfl rfl ?_
    refine mr_istore_n C 31 dX4_readTape_30 rfl rfl (by decide) ?_
    exact mr_at (LF 0 e1 e2 vl9 _ ((0, 0, 0), se, sn0, so, lo, he) (Nat.zero_le _) hO) rfl rfl rfl
  | inr e =>
    obtain ⟨e1, e2⟩ := e
    have hok := rdRoom_ok (Nat.zero_le _) (by decide) (by decide) (by decide) hr
    rw [hr] at hpost
    obtain ⟨rfl, vl9, hv9, rfl⟩ := hpost
    refine mr_w (wput_all _ _ 13 rfl rfl) ?_
    simp only [rdTape, hr, rbind] at hO
    refine mr_istore_n C 29 dX4_readTape_28 rfl rfl (by decide) ?_
    refine mr_iconst C (nI 0) 30 dX4_readTape_29 rfl rfl ?_
    refine mr_istore_n C 31 dX4_readTape_30 rfl rfl (by decide) ?_
    exact mr_at (LL 0 (Nat.zero_le _) e1 0 vl9 e2 hok.2.1 hv9 (by decide) hok.2.2 hO) rfl rfl rfl

