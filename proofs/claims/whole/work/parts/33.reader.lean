/-! Reader: room, door, crowd -/
set_option maxRecDepth 20000 in
set_option maxHeartbeats 4000000 in
theorem c_readRoom (E : EG) (a : Nat → Nat) (b b2 b3 : Nat) (pt fn : Int32) (t : FN) (S p R K D : Nat) (vl : Int32) (se sn be so lo he inn al go : FN) (gn gu gr : Int32) (hS : S ≤ 400) (hp : p ≤ S) (hv : vOK t S p vl) (hR : R ≤ 6) (hK : K ≤ 5) (hD : D ≤ 12) : Ctr E mX4_readRoom (7, 0, 0) [.ref (a b)] (wRt E a b b2 b3 pt (nI D) fn t S p vl ++ wH E a b3 se sn be so lo he inn al go (nI R) (nI K) gn gu gr) (RPP E a b b2 b3 pt fn t S ((R, K, D), se, sn, so, lo, he) be inn al go gn gu gr (rdRoom t S p R K D se sn so lo he)) := by
  refine Ctr.of (by decide) (Nat.le_of_ble_eq_true rfl) ?_
  intro Z hO hn C
  have hlen : zn Z ≤ 13 := by rw [hn]; exact Nat.le_of_ble_eq_true rfl
  have L1 : ∀ (r : Option Value) (w1 : va_W), RP E a b b2 b3 pt (nI D) fn t S (rdWord t S p 0 (R < 6)) r w1 → V E mX4_readRoom (7, 0, 0) Z (0 + 0) (0 + 0) (wput (wRt E a b b2 b3 pt (nI D) fn t S p vl ++ wH E a b3 se sn be so lo he inn al go (nI R) (nI K) gn gu gr) [0, 1, 2] w1) [(0, .ref (a b))] (r.toList ++ []) 23 := by
    intro r w1 hpost
    cases hr1 : rdWord t S p 0 (R < 6) with
    | inl e =>
      obtain ⟨pf, f⟩ := e
      rw [hr1] at hpost
      obtain ⟨rfl, vlf, hvf, rfl⟩ := hpost
      refine mr_w (ws' := wRt E a b b2 b3 pt (nI D) (nI f) t S pf vlf ++ wH E a b3 se sn be so lo he inn al go (nI R) (nI K) gn gu gr) rfl ?_
      refine mr_ifne C 28 26 dX4_readRoom_23 (by decide) rfl (fun c_ => absurd (by decide) c_) (fun _ => ?_)
      refine mr_iconst C (nI 0) 27 dX4_readRoom_26 rfl rfl ?_
      refine mr_iret C dX4_readRoom_27 rfl rfl (by decide) (by decide) hlen ?_
      rw [hO]
      rw [show rdRoom t S p R K D se sn so lo he = .inl (pf, f) from by simp only [rdRoom, hr1, rbind]]
      exact And.intro rfl ⟨_, hvf, rfl⟩
    | inr p1 =>
      rw [hr1] at hpost
      obtain ⟨rfl, vl1, hv1, rfl⟩ := hpost
      refine mr_w (ws' := wRt E a b b2 b3 pt (nI D) fn t S p1 vl1 ++ wH E a b3 se sn be so lo he inn al go (nI R) (nI K) gn gu gr) rfl ?_
      have ok1 := rdWord_ok hr1
      have hp1 : p1 ≤ S := by rw [ok1.1]; exact (nxS_le hp).2
      refine mr_ifne C 28 26 dX4_readRoom_23 (by decide) rfl (fun _ => ?_) (fun c_ => absurd c_ (by decide))
      refine mr_aload_n C 29 dX4_readRoom_28 rfl rfl ?_
      refine mr_get C 0 32 dX4_readRoom_29 rfl fl_X4_18 rfl rfl ?_
      refine mr_get C 1 35 dX4_readRoom_32 rfl fl_X4_68 rfl rfl ?_
      refine mr_istore_n C 36 dX4_readRoom_35 rfl rfl (by decide) ?_
      refine mr_aload_n C 37 dX4_readRoom_36 rfl rfl ?_
      refine mr_iconst C (nI 0) 38 dX4_readRoom_37 rfl rfl ?_
      refine mr_bipush C (nI 99) 40 dX4_readRoom_38 rfl rfl ?_
      refine mr_iconst C (-1) 41 dX4_readRoom_40 rfl rfl ?_
      refine mr_callV C (c_readNumber E a b b2 b3 pt (nI D) fn t S p1 vl1 (nI 0) (nI 99) (-1) hS hp1 hv1) [0, 1, 2] 0 4 44 dX4_readRoom_41 rfl mk_X4_readNumber mi_X4_readNumber ml_X4_71 rfl rfl rfl rfl rfl (Nat.le_of_ble_eq_true rfl) (by decide) (by decide) (by decide) rfl rfl (fun r w1 hpost => ?_)
      cases hr2 : rdNum t S p1 (nI 0) (nI 99) (-1) with
      | inl e =>
        obtain ⟨pf, f⟩ := e
        rw [hr2] at hpost
        obtain ⟨rfl, vlf, hvf, rfl⟩ := hpost
        refine mr_w (ws' := wRt E a b b2 b3 pt (nI D) (nI f) t S pf vlf ++ wH E a b3 se sn be so lo he inn al go (nI R) (nI K) gn gu gr) rfl ?_
        refine mr_ifeq C 54 47 dX4_readRoom_44 (by decide) rfl (fun _ => ?_) (fun c_ => absurd (by decide) c_)
        refine mr_iconst C (nI 0) 55 dX4_readRoom_54 rfl rfl ?_
        refine mr_iret C dX4_readRoom_55 rfl rfl (by decide) (by decide) hlen ?_
        rw [hO]
        rw [show rdRoom t S p R K D se sn so lo he = .inl (pf, f) from by simp only [rdRoom, hr1, hr2, rbind]]
        exact And.intro rfl ⟨_, hvf, rfl⟩
      | inr p2 =>
        rw [hr2] at hpost
        obtain ⟨rfl, vl2, hv2, rfl⟩ := hpost
        refine mr_w (ws' := wRt E a b b2 b3 pt (nI D) fn t S p2 vl2 ++ wH E a b3 se sn be so lo he inn al go (nI R) (nI K) gn gu gr) rfl ?_
        have ok2 := rdNum_ok hr2
        have hp2 : p2 ≤ S := by rw [ok2.1]; exact (nxS_le hp1).2
        obtain rfl : vl1 = vlS t S p1 := hv1 ok2.2.1
        refine mr_ifeq C 54 47 dX4_readRoom_44 (by decide) rfl (fun c_ => absurd c_ (by decide)) (fun _ => ?_)
        refine mr_aload_n C 48 dX4_readRoom_47 rfl rfl ?_
        refine mr_callV C (c_readEnd E a b b2 b3 pt (nI D) fn t S p2 vl2  hS hp2 hv2) [0, 1, 2] 0 4 51 dX4_readRoom_48 rfl mk_X4_readEnd mi_X4_readEnd ml_X4_75 rfl rfl rfl rfl rfl (Nat.le_of_ble_eq_true rfl) (by decide) (by decide) (by decide) rfl rfl (fun r w1 hpost => ?_)
        cases hr3 : rdEnd t S p2 with
        | inl e =>
          obtain ⟨pf, f⟩ := e
          rw [hr3] at hpost
          obtain ⟨rfl, vlf, hvf, rfl⟩ := hpost
          refine mr_w (ws' := wRt E a b b2 b3 pt (nI D) (nI f) t S pf vlf ++ wH E a b3 se sn be so lo he inn al go (nI R) (nI K) gn gu gr) rfl ?_
          refine mr_ifne C 56 54 dX4_readRoom_51 (by decide) rfl (fun c_ => absurd (by decide) c_) (fun _ => ?_)
          refine mr_iconst C (nI 0) 55 dX4_readRoom_54 rfl rfl ?_
          refine mr_iret C dX4_readRoom_55 rfl rfl (by decide) (by decide) hlen ?_
          rw [hO]
          rw [show rdRoom t S p R K D se sn so lo he = .inl (pf, f) from by simp only [rdRoom, hr1, hr2, hr3, rbind]]
          exact And.intro rfl ⟨_, hvf, rfl⟩
        | inr p3 =>
          rw [hr3] at hpost
          obtain ⟨rfl, vl3, hv3, rfl⟩ := hpost
          refine mr_w (ws' := wRt E a b b2 b3 pt (nI D) fn t S p3 vl3 ++ wH E a b3 se sn be so lo he inn al go (nI R) (nI K) gn gu gr) rfl ?_
          have ok3 := rdEnd_ok hr3
          have hp3 : p3 ≤ S := by rw [ok3.1]; exact (nxS_le hp2).2
          refine mr_ifne C 56 54 dX4_readRoom_51 (by decide) rfl (fun _ => ?_) (fun c_ => absurd c_ (by decide))
          have hR6 := ok1.2.2
          refine mr_aload_n C 57 dX4_readRoom_56 rfl rfl ?_
          refine mr_get C 0 60 dX4_readRoom_57 rfl fl_X4_12 rfl rfl ?_
          refine mr_get C 3 63 dX4_readRoom_60 rfl fl_X4_78 rfl rfl ?_
          refine mr_aload_n C 64 dX4_readRoom_63 rfl rfl ?_
          refine mr_get C 0 67 dX4_readRoom_64 rfl fl_X4_12 rfl rfl ?_
          refine mr_get C 3 70 dX4_readRoom_67 rfl fl_X4_61 rfl rfl ?_
          refine mr_iload_n C 71 dX4_readRoom_70 rfl rfl ?_
          refine mr_iast C 4 R 72 dX4_readRoom_71 rfl rfl rfl (by omega) (by decide) ?_
          refine mr_aload_n C 73 dX4_readRoom_72 rfl rfl ?_
          refine mr_get C 0 76 dX4_readRoom_73 rfl fl_X4_12 rfl rfl ?_
          refine mr_dup C 77 dX4_readRoom_76 rfl rfl ?_
          refine mr_get C 3 80 dX4_readRoom_77 rfl fl_X4_61 rfl rfl ?_
          refine mr_iconst C (nI 1) 81 dX4_readRoom_80 rfl rfl ?_
          refine mr_iadd C (nI (R + 1)) 82 dX4_readRoom_81 rfl (nI_add _ _) ?_
          refine mr_put C 3 85 dX4_readRoom_82 rfl fs_X4_61 rfl rfl rfl (Nat.le_of_ble_eq_true rfl) ?_
          refine mr_iconst C (nI 1) 86 dX4_readRoom_85 rfl rfl ?_
          refine mr_iret C dX4_readRoom_86 rfl rfl (by decide) (by decide) hlen ?_
          rw [hO]
          rw [show rdRoom t S p R K D se sn so lo he = .inr (p3, ((R + 1, K, D), upd se R (vlS t S p1), sn, so, lo, he)) from by simp only [rdRoom, hr1, hr2, hr3, rbind]]
          exact And.intro rfl ⟨_, hv3, rfl⟩
  refine mr_aload_n C 1 dX4_readRoom_0 rfl rfl ?_
  refine mr_str C 0 (by decide) 3 dX4_readRoom_1 rfl rfl rfl ?_
  refine mr_aload_n C 4 dX4_readRoom_3 rfl rfl ?_
  refine mr_get C 0 7 dX4_readRoom_4 rfl fl_X4_12 rfl rfl ?_
  refine mr_get C 3 10 dX4_readRoom_7 rfl fl_X4_61 rfl rfl ?_
  refine mr_bipush C (nI 6) 12 dX4_readRoom_10 rfl rfl ?_
  refine mr_icmpge C 19 15 dX4_readRoom_12 (by decide) rfl (fun c_12 => ?_) (fun c_12 => ?_)
  · rw [nI_leI (by omega) (by omega)] at c_12
    refine mr_iconst C (nI 0) 20 dX4_readRoom_19 rfl rfl ?_
    refine mr_callV C (c_readWord E a b b2 b3 pt (nI D) fn t S p vl 0 (R < 6) (nI 0) (bP_f (by omega)) (by decide) hS hp hv) [0, 1, 2] 0 4 23 dX4_readRoom_20 rfl mk_X4_readWord mi_X4_readWord ml_X4_64 rfl rfl rfl rfl rfl (Nat.le_of_ble_eq_true rfl) (by decide) (by decide) (by decide) rfl rfl (fun r w1 hpost => ?_)
    exact L1 r w1 hpost
  · rw [nI_leI (by omega) (by omega)] at c_12
    refine mr_iconst C (nI 1) 16 dX4_readRoom_15 rfl rfl ?_
    refine mr_goto C 20 dX4_readRoom_16 (by decide) ?_
    refine mr_callV C (c_readWord E a b b2 b3 pt (nI D) fn t S p vl 0 (R < 6) (nI 1) (bP_t (by omega)) (by decide) hS hp hv) [0, 1, 2] 0 4 23 dX4_readRoom_20 rfl mk_X4_readWord mi_X4_readWord ml_X4_64 rfl rfl rfl rfl rfl (Nat.le_of_ble_eq_true rfl) (by decide) (by decide) (by decide) rfl rfl (fun r w1 hpost => ?_)
    exact L1 r w1 hpost

