/-! Reader: room, door, crowd -/
set_option maxRecDepth 20000 in
set_option maxHeartbeats 4000000 in
theorem c_readRoom (E : EG) (a : Nat → Nat) (b b2 b3 : Nat) (pt fn : Int32) (t : FN) (S p R K D : Nat) (vl : Int32) (se sn be so lo he inn al go : FN) (gn gu gr : Int32) (hS : S ≤ 400) (hp : p ≤ S) (hv : vOK t S p vl) (hR : R ≤ 6) (hK : K ≤ 5) (hD : D ≤ 12) : Ctr E mX4_readRoom (7, 0, 0) [.ref (a b)] (wRt E a b b2 b3 pt (nI D) fn t S p vl ++ wH E a b3 se sn be so lo he inn al go (nI R) (nI K) gn gu gr) (RPP E a b b2 b3 pt fn t S ((R, K, D), se, sn, so, lo, he) be inn al go gn gu gr (rdRoom t S p R K D se sn so lo he)) := by
  refine Ctr.of (by decide) (Nat.le_of_ble_eq_true rfl) ?_
  intro Z hO hn C
  have hlen : zn Z ≤ 13 := by rw [hn]; exact Nat.le_of_ble_eq_true rfl
  have L1 : ∀ (r : Option Value) (w1 : va_W), RP E a b b2 b3 pt (nI D) fn t S (rdWord t S p 0 (R < 6)) r w1 → V E mX4_readRoom (7, 0, 0) Z (0 + 0) (0 + 0) (wput (wRt E a b b2 b3 pt (nI D) fn t S p vl ++ wH E a b3 se sn be so lo he inn al go (nI R) (nI K) gn gu gr) [0, 1, 2] w1) [(0, .ref (a b))] (r.toList ++ []) 23 := by
    intro r w1 hpost
    cases hr1 : rdWord t S p 0 (R < 6) with
    | inl e =>
      obtain ⟨pf, f⟩ := e
      rw [hr1] at hpost
      obtain ⟨rfl, vlf, hvf, rfl⟩ := hpost
      refine mr_w (ws' := wRt E a b b2 b3 pt (nI D) (nI f) t S pf vlf ++ wH E a b3 se sn be so lo he inn al go (nI R) (nI K) gn gu gr) rfl ?_
      refine mr_ifne C 28 26 dX4_readRoom_23 (by decide) rfl (fun c_ => absurd (by decide) c_) (fun _ => ?_)
      refine mr_iconst C (nI 0) 27 dX4_readRoom_26 rfl rfl ?_
      refine mr_iret C dX4_readRoom_27 rfl rfl (by decide) (by decide) hlen ?_
      rw [hO]
      rw [show rdRoom t S p R K D se sn so lo he = .inl (pf, f) from by simp only [rdRoom, hr1, rbind]]
      exact And.intro rfl ⟨_, hvf, rfl⟩
    | inr p1 =>
      rw [hr1] at hpost
      obtain ⟨rfl, vl1, hv1, rfl⟩ := hpost
      refine mr_w (ws' := wRt E a b b2 b3 pt (nI D) fn t S p1 vl1 ++ wH E a b3 se sn be so lo he inn al go (nI R) (nI K) gn gu gr) rfl ?_
      have ok1 := rdWord_ok hr1
      have hp1 : p1 ≤ S := by rw [ok1.1]; exact (nxS_le hp).2
      refine mr_ifne C 28 26 dX4_readRoom_23 (by decide) rfl (fun _ => ?_) (fun c_ => absurd c_ (by decide))
      refine mr_aload_n C 29 dX4_readRoom_28 rfl rfl ?_
      refine mr_get C 0 32 dX4_readRoom_29 rfl fl_X4_18 rfl rfl ?_
      refine mr_get C 1 35 dX4_readRoom_32 rfl fl_X4_68 rfl rfl ?_
      refine mr_istore_n C 36 dX4_readRoom_35 rfl rfl (by decide) ?_
      refine mr_aload_n C 37 dX4_readRoom_36 rfl rfl ?_
      refine mr_iconst C (nI 0) 38 dX4_readRoom_37 rfl rfl ?_
      refine mr_bipush C (nI 99) 40 dX4_readRoom_38 rfl rfl ?_
      refine mr_iconst C (-1) 41 dX4_readRoom_40 rfl rfl ?_
      refine mr_callV C (c_readNumber E a b b2 b3 pt (nI D) fn t S p1 vl1 (nI 0) (nI 99) (-1) hS hp1 hv1) [0, 1, 2] 0 4 44 dX4_readRoom_41 rfl mk_X4_readNumber mi_X4_readNumber ml_X4_71 rfl rfl rfl rfl rfl (Nat.le_of_ble_eq_true rfl) (by decide) (by decide) (by decide) rfl rfl (fun r w1 hpost => ?_)
      cases hr2 : rdNum t S p1 (nI 0) (nI 99) (-1) with
      | inl e =>
        obtain ⟨pf, f⟩ := e
        rw [hr2] at hpost
        obtain ⟨rfl, vlf, hvf, rfl⟩ := hpost
        refine mr_w (ws' := wRt E a b b2 b3 pt (nI D) (nI f) t S pf vlf ++ wH E a b3 se sn be so lo he inn al go (nI R) (nI K) gn gu gr) rfl ?_
        refine mr_ifeq C 54 47 dX4_readRoom_44 (by decide) rfl (fun _ => ?_) (fun c_ => absurd (by decide) c_)
        refine mr_iconst C (nI 0) 55 dX4_readRoom_54 rfl rfl ?_
        refine mr_iret C dX4_readRoom_55 rfl rfl (by decide) (by decide) hlen ?_
        rw [hO]
        rw [show rdRoom t S p R K D se sn so lo he = .inl (pf, f) from by simp only [rdRoom, hr1, hr2, rbind]]
        exact And.intro rfl ⟨_, hvf, rfl⟩
      | inr p2 =>
        rw [hr2] at hpost
        obtain ⟨rfl, vl2, hv2, rfl⟩ := hpost
        refine mr_w (ws' := wRt E a b b2 b3 pt (nI D) fn t S p2 vl2 ++ wH E a b3 se sn be so lo he inn al go (nI R) (nI K) gn gu gr) rfl ?_
        have ok2 := rdNum_ok hr2
        have hp2 : p2 ≤ S := by rw [ok2.1]; exact (nxS_le hp1).2
        obtain rfl : vl1 = vlS t S p1 := hv1 ok2.2.1
        refine mr_ifeq C 54 47 dX4_readRoom_44 (by decide) rfl (fun c_ => absurd c_ (by decide)) (fun _ => ?_)
        refine mr_aload_n C 48 dX4_readRoom_47 rfl rfl ?_
        refine mr_callV C (c_readEnd E a b b2 b3 pt (nI D) fn t S p2 vl2  hS hp2 hv2) [0, 1, 2] 0 4 51 dX4_readRoom_48 rfl mk_X4_readEnd mi_X4_readEnd ml_X4_75 rfl rfl rfl rfl rfl (Nat.le_of_ble_eq_true rfl) (by decide) (by decide) (by decide) rfl rfl (fun r w1 hpost => ?_)
        cases hr3 : rdEnd t S p2 with
        | inl e =>
          obtain ⟨pf, f⟩ := e
          rw [hr3] at hpost
          obtain ⟨rfl, vlf, hvf, rfl⟩ := hpost
          refine mr_w (ws' := wRt E a b b2 b3 pt (nI D) (nI f) t S pf vlf ++ wH E a b3 se sn be so lo he inn al go (nI R) (nI K) gn gu gr) rfl ?_
          refine mr_ifne C 56 54 dX4_readRoom_51 (by decide) rfl (fun c_ => absurd (by decide) c_) (fun _ => ?_)
          refine mr_iconst C (nI 0) 55 dX4_readRoom_54 rfl rfl ?_
          refine mr_iret C dX4_readRoom_55 rfl rfl (by decide) (by decide) hlen ?_
          rw [hO]
          rw [show rdRoom t S p R K D se sn so lo he = .inl (pf, f) from by simp only [rdRoom, hr1, hr2, hr3, rbind]]
          exact And.intro rfl ⟨_, hvf, rfl⟩
        | inr p3 =>
          rw [hr3] at hpost
          obtain ⟨rfl, vl3, hv3, rfl⟩ := hpost
          refine mr_w (ws' := wRt E a b b2 b3 pt (nI D) fn t S p3 vl3 ++ wH E a b3 se sn be so lo he inn al go (nI R) (nI K) gn gu gr) rfl ?_
          have ok3 := rdEnd_ok hr3
          have hp3 : p3 ≤ S := by rw [ok3.1]; exact (nxS_le hp2).2
          refine mr_ifne C 56 54 dX4_readRoom_51 (by decide) rfl (fun _ => ?_) (fun c_ => absurd c_ (by decide))
          have hR6 := ok1.2.2
          refine mr_aload_n C 57 dX4_readRoom_56 rfl rfl ?_
          refine mr_get C 0 60 dX4_readRoom_57 rfl fl_X4_12 rfl rfl ?_
          refine mr_get C 3 63 dX4_readRoom_60 rfl fl_X4_78 rfl rfl ?_
          refine mr_aload_n C 64 dX4_readRoom_63 rfl rfl ?_
          refine mr_get C 0 67 dX4_readRoom_64 rfl fl_X4_12 rfl rfl ?_
          refine mr_get C 3 70 dX4_readRoom_67 rfl fl_X4_61 rfl rfl ?_
          refine mr_iload_n C 71 dX4_readRoom_70 rfl rfl ?_
          refine mr_iast C 4 R 72 dX4_readRoom_71 rfl rfl rfl (by omega) (by decide) ?_
          refine mr_aload_n C 73 dX4_readRoom_72 rfl rfl ?_
          refine mr_get C 0 76 dX4_readRoom_73 rfl fl_X4_12 rfl rfl ?_
          refine mr_dup C 77 dX4_readRoom_76 rfl rfl ?_
          refine mr_get C 3 80 dX4_readRoom_77 rfl fl_X4_61 rfl rfl ?_
          refine mr_iconst C (nI 1) 81 dX4_readRoom_80 rfl rfl ?_
          refine mr_iadd C (nI (R + 1)) 82 dX4_readRoom_81 rfl (nI_add _ _) ?_
          refine mr_put C 3 85 dX4_readRoom_82 rfl fs_X4_61 rfl rfl rfl (Nat.le_of_ble_eq_true rfl) ?_
          refine mr_iconst C (nI 1) 86 dX4_readRoom_85 rfl rfl ?_
          refine mr_iret C dX4_readRoom_86 rfl rfl (by decide) (by decide) hlen ?_
          rw [hO]
          rw [show rdRoom t S p R K D se sn so lo he = .inr (p3, ((R + 1, K, D), upd se R (vlS t S p1), sn, so, lo, he)) from by simp only [rdRoom, hr1, hr2, hr3, rbind]]
          exact And.intro rfl ⟨_, hv3, rfl⟩
  refine mr_aload_n C 1 dX4_readRoom_0 rfl rfl ?_
  refine mr_str C 0 (by decide) 3 dX4_readRoom_1 rfl rfl rfl ?_
  refine mr_aload_n C 4 dX4_readRoom_3 rfl rfl ?_
  refine mr_get C 0 7 dX4_readRoom_4 rfl fl_X4_12 rfl rfl ?_
  refine mr_get C 3 10 dX4_readRoom_7 rfl fl_X4_61 rfl rfl ?_
  refine mr_bipush C (nI 6) 12 dX4_readRoom_10 rfl rfl ?_
  refine mr_icmpge C 19 15 dX4_readRoom_12 (by decide) rfl (fun c_12 => ?_) (fun c_12 => ?_)
  · rw [nI_leI (by omega) (by omega)] at c_12
    refine mr_iconst C (nI 0) 20 dX4_readRoom_19 rfl rfl ?_
    refine mr_callV C (c_readWord E a b b2 b3 pt (nI D) fn t S p vl 0 (R < 6) (nI 0) (bP_f (by omega)) (by decide) hS hp hv) [0, 1, 2] 0 4 23 dX4_readRoom_20 rfl mk_X4_readWord mi_X4_readWord ml_X4_64 rfl rfl rfl rfl rfl (Nat.le_of_ble_eq_true rfl) (by decide) (by decide) (by decide) rfl rfl (fun r w1 hpost => ?_)
    exact L1 r w1 hpost
  · rw [nI_leI (by omega) (by omega)] at c_12
    refine mr_iconst C (nI 1) 16 dX4_readRoom_15 rfl rfl ?_
    refine mr_goto C 20 dX4_readRoom_16 (by decide) ?_
    refine mr_callV C (c_readWord E a b b2 b3 pt (nI D) fn t S p vl 0 (R < 6) (nI 1) (bP_t (by omega)) (by decide) hS hp hv) [0, 1, 2] 0 4 23 dX4_readRoom_20 rfl mk_X4_readWord mi_X4_readWord ml_X4_64 rfl rfl rfl rfl rfl (Nat.le_of_ble_eq_true rfl) (by decide) (by decide) (by decide) rfl rfl (fun r w1 hpost => ?_)
    exact L1 r w1 hpost

set_option maxRecDepth 20000 in
set_option maxHeartbeats 4000000 in
theorem c_readDoor (E : EG) (a : Nat → Nat) (b b2 b3 : Nat) (pt fn : Int32) (t : FN) (S p R K D : Nat) (vl : Int32) (se sn be so lo he inn al go : FN) (gn gu gr : Int32) (hS : S ≤ 400) (hp : p ≤ S) (hv : vOK t S p vl) (hR : R ≤ 6) (hK : K ≤ 5) (hD : D ≤ 12) : Ctr E mX4_readDoor (7, 0, 0) [.ref (a b)] (wRt E a b b2 b3 pt (nI D) fn t S p vl ++ wH E a b3 se sn be so lo he inn al go (nI R) (nI K) gn gu gr) (RPP E a b b2 b3 pt fn t S ((R, K, D), se, sn, so, lo, he) be inn al go gn gu gr (rdDoor t S p R K D se sn so lo he)) := by
  refine Ctr.of (by decide) (Nat.le_of_ble_eq_true rfl) ?_
  intro Z hO hn C
  have hlen : zn Z ≤ 13 := by rw [hn]; exact Nat.le_of_ble_eq_true rfl
  have L1 : ∀ (r : Option Value) (w1 : va_W), RP E a b b2 b3 pt (nI D) fn t S (rdWord t S p 1 (D < 12)) r w1 → V E mX4_readDoor (7, 0, 0) Z (0 + 0) (0 + 0) (wput (wRt E a b b2 b3 pt (nI D) fn t S p vl ++ wH E a b3 se sn be so lo he inn al go (nI R) (nI K) gn gu gr) [0, 1, 2] w1) [(0, .ref (a b))] (r.toList ++ []) 20 := by
    intro r w1 hpost
    cases hr1 : rdWord t S p 1 (D < 12) with
    | inl e =>
      obtain ⟨pf, f⟩ := e
      rw [hr1] at hpost
      obtain ⟨rfl, vlf, hvf, rfl⟩ := hpost
      refine mr_w (ws' := wRt E a b b2 b3 pt (nI D) (nI f) t S pf vlf ++ wH E a b3 se sn be so lo he inn al go (nI R) (nI K) gn gu gr) rfl ?_
      refine mr_ifne C 25 23 dX4_readDoor_20 (by decide) rfl (fun c_ => absurd (by decide) c_) (fun _ => ?_)
      refine mr_iconst C (nI 0) 24 dX4_readDoor_23 rfl rfl ?_
      refine mr_iret C dX4_readDoor_24 rfl rfl (by decide) (by decide) hlen ?_
      rw [hO]
      rw [show rdDoor t S p R K D se sn so lo he = .inl (pf, f) from by simp only [rdDoor, hr1, rbind]]
      exact And.intro rfl ⟨_, hvf, rfl⟩
    | inr p1 =>
      rw [hr1] at hpost
      obtain ⟨rfl, vl1, hv1, rfl⟩ := hpost
      refine mr_w (ws' := wRt E a b b2 b3 pt (nI D) fn t S p1 vl1 ++ wH E a b3 se sn be so lo he inn al go (nI R) (nI K) gn gu gr) rfl ?_
      have ok1 := rdWord_ok hr1
      have hp1 : p1 ≤ S := by rw [ok1.1]; exact (nxS_le hp).2
      refine mr_ifne C 25 23 dX4_readDoor_20 (by decide) rfl (fun _ => ?_) (fun c_ => absurd c_ (by decide))
      refine mr_aload_n C 26 dX4_readDoor_25 rfl rfl ?_
      refine mr_get C 0 29 dX4_readDoor_26 rfl fl_X4_18 rfl rfl ?_
      refine mr_get C 1 32 dX4_readDoor_29 rfl fl_X4_68 rfl rfl ?_
      refine mr_istore_n C 33 dX4_readDoor_32 rfl rfl (by decide) ?_
      refine mr_aload_n C 34 dX4_readDoor_33 rfl rfl ?_
      refine mr_iconst C (nI 0) 35 dX4_readDoor_34 rfl rfl ?_
      refine mr_aload_n C 36 dX4_readDoor_35 rfl rfl ?_
      refine mr_get C 0 39 dX4_readDoor_36 rfl fl_X4_12 rfl rfl ?_
      refine mr_get C 3 42 dX4_readDoor_39 rfl fl_X4_61 rfl rfl ?_
      refine mr_iconst C (nI 1) 43 dX4_readDoor_42 rfl rfl ?_
      refine mr_isub C _ 44 dX4_readDoor_43 rfl rfl ?_
      refine mr_iconst C (-1) 45 dX4_readDoor_44 rfl rfl ?_
      refine mr_callV C (c_readNumber E a b b2 b3 pt (nI D) fn t S p1 vl1 (nI 0) (nI R - nI 1) (-1) hS hp1 hv1) [0, 1, 2] 0 4 48 dX4_readDoor_45 rfl mk_X4_readNumber mi_X4_readNumber ml_X4_71 rfl rfl rfl rfl rfl (Nat.le_of_ble_eq_true rfl) (by decide) (by decide) (by decide) rfl rfl (fun r w1 hpost => ?_)
      cases hr2 : rdNum t S p1 (nI 0) (nI R - nI 1) (-1) with
      | inl e =>
        obtain ⟨pf, f⟩ := e
        rw [hr2] at hpost
        obtain ⟨rfl, vlf, hvf, rfl⟩ := hpost
        refine mr_w (ws' := wRt E a b b2 b3 pt (nI D) (nI f) t S pf vlf ++ wH E a b3 se sn be so lo he inn al go (nI R) (nI K) gn gu gr) rfl ?_
        refine mr_ifne C 53 51 dX4_readDoor_48 (by decide) rfl (fun c_ => absurd (by decide) c_) (fun _ => ?_)
        refine mr_iconst C (nI 0) 52 dX4_readDoor_51 rfl rfl ?_
        refine mr_iret C dX4_readDoor_52 rfl rfl (by decide) (by decide) hlen ?_
        rw [hO]
        rw [show rdDoor t S p R K D se sn so lo he = .inl (pf, f) from by simp only [rdDoor, hr1, hr2, rbind]]
        exact And.intro rfl ⟨_, hvf, rfl⟩
      | inr p2 =>
        rw [hr2] at hpost
        obtain ⟨rfl, vl2, hv2, rfl⟩ := hpost
        refine mr_w (ws' := wRt E a b b2 b3 pt (nI D) fn t S p2 vl2 ++ wH E a b3 se sn be so lo he inn al go (nI R) (nI K) gn gu gr) rfl ?_
        have ok2 := rdNum_ok hr2
        have hp2 : p2 ≤ S := by rw [ok2.1]; exact (nxS_le hp1).2
        obtain rfl : vl1 = vlS t S p1 := hv1 ok2.2.1
        refine mr_ifne C 53 51 dX4_readDoor_48 (by decide) rfl (fun _ => ?_) (fun c_ => absurd c_ (by decide))
        refine mr_aload_n C 54 dX4_readDoor_53 rfl rfl ?_
        refine mr_get C 0 57 dX4_readDoor_54 rfl fl_X4_18 rfl rfl ?_
        refine mr_get C 1 60 dX4_readDoor_57 rfl fl_X4_68 rfl rfl ?_
        refine mr_istore_n C 61 dX4_readDoor_60 rfl rfl (by decide) ?_
        refine mr_aload_n C 62 dX4_readDoor_61 rfl rfl ?_
        refine mr_iconst C (nI 0) 63 dX4_readDoor_62 rfl rfl ?_
        refine mr_aload_n C 64 dX4_readDoor_63 rfl rfl ?_
        refine mr_get C 0 67 dX4_readDoor_64 rfl fl_X4_12 rfl rfl ?_
        refine mr_get C 3 70 dX4_readDoor_67 rfl fl_X4_61 rfl rfl ?_
        refine mr_iconst C (nI 1) 71 dX4_readDoor_70 rfl rfl ?_
        refine mr_isub C _ 72 dX4_readDoor_71 rfl rfl ?_
        refine mr_iload_n C 73 dX4_readDoor_72 rfl rfl ?_
        refine mr_callV C (c_readNumber E a b b2 b3 pt (nI D) fn t S p2 vl2 (nI 0) (nI R - nI 1) (vlS t S p1) hS hp2 hv2) [0, 1, 2] 0 4 76 dX4_readDoor_73 rfl mk_X4_readNumber mi_X4_readNumber ml_X4_71 rfl rfl rfl rfl rfl (Nat.le_of_ble_eq_true rfl) (by decide) (by decide) (by decide) rfl rfl (fun r w1 hpost => ?_)
        cases hr3 : rdNum t S p2 (nI 0) (nI R - nI 1) (vlS t S p1) with
        | inl e =>
          obtain ⟨pf, f⟩ := e
          rw [hr3] at hpost
          obtain ⟨rfl, vlf, hvf, rfl⟩ := hpost
          refine mr_w (ws' := wRt E a b b2 b3 pt (nI D) (nI f) t S pf vlf ++ wH E a b3 se sn be so lo he inn al go (nI R) (nI K) gn gu gr) rfl ?_
          refine mr_ifeq C 86 79 dX4_readDoor_76 (by decide) rfl (fun _ => ?_) (fun c_ => absurd (by decide) c_)
          refine mr_iconst C (nI 0) 87 dX4_readDoor_86 rfl rfl ?_
          refine mr_iret C dX4_readDoor_87 rfl rfl (by decide) (by decide) hlen ?_
          rw [hO]
          rw [show rdDoor t S p R K D se sn so lo he = .inl (pf, f) from by simp only [rdDoor, hr1, hr2, hr3, rbind]]
          exact And.intro rfl ⟨_, hvf, rfl⟩
        | inr p3 =>
          rw [hr3] at hpost
          obtain ⟨rfl, vl3, hv3, rfl⟩ := hpost
          refine mr_w (ws' := wRt E a b b2 b3 pt (nI D) fn t S p3 vl3 ++ wH E a b3 se sn be so lo he inn al go (nI R) (nI K) gn gu gr) rfl ?_
          have ok3 := rdNum_ok hr3
          have hp3 : p3 ≤ S := by rw [ok3.1]; exact (nxS_le hp2).2
          obtain rfl : vl2 = vlS t S p2 := hv2 ok3.2.1
          refine mr_ifeq C 86 79 dX4_readDoor_76 (by decide) rfl (fun c_ => absurd c_ (by decide)) (fun _ => ?_)
          refine mr_aload_n C 80 dX4_readDoor_79 rfl rfl ?_
          refine mr_callV C (c_readEnd E a b b2 b3 pt (nI D) fn t S p3 vl3  hS hp3 hv3) [0, 1, 2] 0 4 83 dX4_readDoor_80 rfl mk_X4_readEnd mi_X4_readEnd ml_X4_75 rfl rfl rfl rfl rfl (Nat.le_of_ble_eq_true rfl) (by decide) (by decide) (by decide) rfl rfl (fun r w1 hpost => ?_)
          cases hr4 : rdEnd t S p3 with
          | inl e =>
            obtain ⟨pf, f⟩ := e
            rw [hr4] at hpost
            obtain ⟨rfl, vlf, hvf, rfl⟩ := hpost
            refine mr_w (ws' := wRt E a b b2 b3 pt (nI D) (nI f) t S pf vlf ++ wH E a b3 se sn be so lo he inn al go (nI R) (nI K) gn gu gr) rfl ?_
            refine mr_ifne C 88 86 dX4_readDoor_83 (by decide) rfl (fun c_ => absurd (by decide) c_) (fun _ => ?_)
            refine mr_iconst C (nI 0) 87 dX4_readDoor_86 rfl rfl ?_
            refine mr_iret C dX4_readDoor_87 rfl rfl (by decide) (by decide) hlen ?_
            rw [hO]
            rw [show rdDoor t S p R K D se sn so lo he = .inl (pf, f) from by simp only [rdDoor, hr1, hr2, hr3, hr4, rbind]]
            exact And.intro rfl ⟨_, hvf, rfl⟩
          | inr p4 =>
            rw [hr4] at hpost
            obtain ⟨rfl, vl4, hv4, rfl⟩ := hpost
            refine mr_w (ws' := wRt E a b b2 b3 pt (nI D) fn t S p4 vl4 ++ wH E a b3 se sn be so lo he inn al go (nI R) (nI K) gn gu gr) rfl ?_
            have ok4 := rdEnd_ok hr4
            have hp4 : p4 ≤ S := by rw [ok4.1]; exact (nxS_le hp3).2
            refine mr_ifne C 88 86 dX4_readDoor_83 (by decide) rfl (fun _ => ?_) (fun c_ => absurd c_ (by decide))
            obtain ⟨x, hx, ex⟩ := room_of ok2.2.2.1 ok2.2.2.2.1 hR
            obtain ⟨y, hy, ey⟩ := room_of ok3.2.2.1 ok3.2.2.2.1 hR
            rw [ex, ey]
            refine mr_aload_n C 89 dX4_readDoor_88 rfl rfl ?_
            refine mr_get C 0 92 dX4_readDoor_89 rfl fl_X4_12 rfl rfl ?_
            refine mr_iload_n C 93 dX4_readDoor_92 rfl rfl ?_
            refine mr_iload_n C 94 dX4_readDoor_93 rfl rfl ?_
            refine mr_iconst C (nI 1) 95 dX4_readDoor_94 rfl rfl ?_
            refine mr_callV C (c_putDoor E a b3 se sn be so lo he inn al go (nI R) (nI K) gn gu gr x y (nI 1) (by omega) (by omega)) [3, 4, 5, 6, 7, 8, 9, 10, 11, 12] 3 3 98 dX4_readDoor_95 rfl mk_X3_putDoor mi_X3_putDoor ml_X4_82 rfl rfl rfl rfl rfl (Nat.le_of_ble_eq_true rfl) (by decide) (by decide) (by decide) rfl rfl (fun r w1 hpost => ?_)
            obtain ⟨rfl, rfl⟩ := hpost
            refine mr_w (ws' := wRt E a b b2 b3 pt (nI D) fn t S p4 vl4 ++ wH E a b3 se (drS sn x y (nI 1)) be so lo he inn al go (nI R) (nI K) gn gu gr) rfl ?_
            refine mr_aload_n C 99 dX4_readDoor_98 rfl rfl ?_
            refine mr_dup C 100 dX4_readDoor_99 rfl rfl ?_
            refine mr_get C 0 103 dX4_readDoor_100 rfl fl_X4_29 rfl rfl ?_
            refine mr_iconst C (nI 1) 104 dX4_readDoor_103 rfl rfl ?_
            refine mr_iadd C (nI (D + 1)) 105 dX4_readDoor_104 rfl (nI_add _ _) ?_
            refine mr_put C 0 108 dX4_readDoor_105 rfl fs_X4_29 rfl rfl rfl (Nat.le_of_ble_eq_true rfl) ?_
            refine mr_iconst C (nI 1) 109 dX4_readDoor_108 rfl rfl ?_
            refine mr_iret C dX4_readDoor_109 rfl rfl (by decide) (by decide) hlen ?_
            rw [hO]
            rw [show rdDoor t S p R K D se sn so lo he = .inr (p4, ((R, K, D + 1), se, drS sn x y (nI 1), so, lo, he)) from by
              simp only [rdDoor, hr1, hr2, hr3, hr4, rbind]
              rw [ex, ey, nI_cl (N := 6) (by omega) (by decide), nI_cl (N := 6) (by omega) (by decide)]]
            exact And.intro rfl ⟨_, hv4, rfl⟩
  refine mr_aload_n C 1 dX4_readDoor_0 rfl rfl ?_
  refine mr_str C 1 (by decide) 3 dX4_readDoor_1 rfl rfl rfl ?_
  refine mr_aload_n C 4 dX4_readDoor_3 rfl rfl ?_
  refine mr_get C 0 7 dX4_readDoor_4 rfl fl_X4_29 rfl rfl ?_
  refine mr_bipush C (nI 12) 9 dX4_readDoor_7 rfl rfl ?_
  refine mr_icmpge C 16 12 dX4_readDoor_9 (by decide) rfl (fun c_9 => ?_) (fun c_9 => ?_)
  · rw [nI_leI (by omega) (by omega)] at c_9
    refine mr_iconst C (nI 0) 17 dX4_readDoor_16 rfl rfl ?_
    refine mr_callV C (c_readWord E a b b2 b3 pt (nI D) fn t S p vl 1 (D < 12) (nI 0) (bP_f (by omega)) (by decide) hS hp hv) [0, 1, 2] 0 4 20 dX4_readDoor_17 rfl mk_X4_readWord mi_X4_readWord ml_X4_64 rfl rfl rfl rfl rfl (Nat.le_of_ble_eq_true rfl) (by decide) (by decide) (by decide) rfl rfl (fun r w1 hpost => ?_)
    exact L1 r w1 hpost
  · rw [nI_leI (by omega) (by omega)] at c_9
    refine mr_iconst C (nI 1) 13 dX4_readDoor_12 rfl rfl ?_
    refine mr_goto C 17 dX4_readDoor_13 (by decide) ?_
    refine mr_callV C (c_readWord E a b b2 b3 pt (nI D) fn t S p vl 1 (D < 12) (nI 1) (bP_t (by omega)) (by decide) hS hp hv) [0, 1, 2] 0 4 20 dX4_readDoor_17 rfl mk_X4_readWord mi_X4_readWord ml_X4_64 rfl rfl rfl rfl rfl (Nat.le_of_ble_eq_true rfl) (by decide) (by decide) (by decide) rfl rfl (fun r w1 hpost => ?_)
    exact L1 r w1 hpost

theorem rdSort_lt (t : FN) (S p : Nat) : rdSort t S p < 6 := by
  unfold rdSort
  by_cases h1 : isW t S p 3
  · rw [ifP_t h1]; omega
  · rw [ifP_f h1]
    by_cases h2 : isW t S p 4
    · rw [ifP_t h2]; omega
    · rw [ifP_f h2]
      by_cases h3 : isW t S p 5
      · rw [ifP_t h3]; omega
      · rw [ifP_f h3]
        by_cases h4 : isW t S p 6
        · rw [ifP_t h4]; omega
        · rw [ifP_f h4]
          by_cases h5 : isW t S p 7
          · rw [ifP_t h5]; omega
          · rw [ifP_f h5]; omega
set_option maxRecDepth 20000 in
set_option maxHeartbeats 4000000 in
theorem c_readCrowd (E : EG) (a : Nat → Nat) (b b2 b3 : Nat) (pt fn : Int32) (t : FN) (S p R K D : Nat) (vl : Int32) (se sn be so lo he inn al go : FN) (gn gu gr : Int32) (hS : S ≤ 400) (hp : p ≤ S) (hv : vOK t S p vl) (hR : R ≤ 6) (hK : K ≤ 5) (hD : D ≤ 12) : Ctr E mX4_readCrowd (7, 0, 0) [.ref (a b)] (wRt E a b b2 b3 pt (nI D) fn t S p vl ++ wH E a b3 se sn be so lo he inn al go (nI R) (nI K) gn gu gr) (RPP E a b b2 b3 pt fn t S ((R, K, D), se, sn, so, lo, he) be inn al go gn gu gr (rdCrowd t S p R K D se sn so lo he)) := by
  refine Ctr.of (by decide) (Nat.le_of_ble_eq_true rfl) ?_
  intro Z hO hn C
  have hlen : zn Z ≤ 13 := by rw [hn]; exact Nat.le_of_ble_eq_true rfl
  have L1 : ∀ (r : Option Value) (w1 : va_W), RP E a b b2 b3 pt (nI D) fn t S (rdWord t S p 2 (K < 5)) r w1 → V E mX4_readCrowd (7, 0, 0) Z (0 + 0) (0 + 0) (wput (wRt E a b b2 b3 pt (nI D) fn t S p vl ++ wH E a b3 se sn be so lo he inn al go (nI R) (nI K) gn gu gr) [0, 1, 2] w1) [(0, .ref (a b))] (r.toList ++ []) 22 := by
    intro r w1 hpost
    cases hr1 : rdWord t S p 2 (K < 5) with
    | inl e =>
      obtain ⟨pf, f⟩ := e
      rw [hr1] at hpost
      obtain ⟨rfl, vlf, hvf, rfl⟩ := hpost
      refine mr_w (ws' := wRt E a b b2 b3 pt (nI D) (nI f) t S pf vlf ++ wH E a b3 se sn be so lo he inn al go (nI R) (nI K) gn gu gr) rfl ?_
      refine mr_ifne C 27 25 dX4_readCrowd_22 (by decide) rfl (fun c_ => absurd (by decide) c_) (fun _ => ?_)
      refine mr_iconst C (nI 0) 26 dX4_readCrowd_25 rfl rfl ?_
      refine mr_iret C dX4_readCrowd_26 rfl rfl (by decide) (by decide) hlen ?_
      rw [hO]
      rw [show rdCrowd t S p R K D se sn so lo he = .inl (pf, f) from by simp only [rdCrowd, hr1, rbind]]
      exact And.intro rfl ⟨_, hvf, rfl⟩
    | inr p1 =>
      rw [hr1] at hpost
      obtain ⟨rfl, vl1, hv1, rfl⟩ := hpost
      refine mr_w (ws' := wRt E a b b2 b3 pt (nI D) fn t S p1 vl1 ++ wH E a b3 se sn be so lo he inn al go (nI R) (nI K) gn gu gr) rfl ?_
      have ok1 := rdWord_ok hr1
      have hp1 : p1 ≤ S := by rw [ok1.1]; exact (nxS_le hp).2
      refine mr_ifne C 27 25 dX4_readCrowd_22 (by decide) rfl (fun _ => ?_) (fun c_ => absurd c_ (by decide))
      refine mr_aload_n C 28 dX4_readCrowd_27 rfl rfl ?_
      refine mr_callV C (c_sortNamed E a b b2 b3 pt (nI D) fn t S p1 vl1 hS hp1 hv1) [0, 1, 2] 0 4 31 dX4_readCrowd_28 rfl mk_X4_sortNamed mi_X4_sortNamed ml_X4_91 rfl rfl rfl rfl rfl (Nat.le_of_ble_eq_true rfl) (by decide) (by decide) (by decide) rfl rfl (fun r w1 hpost => ?_)
      obtain ⟨rfl, rfl⟩ := hpost
      refine mr_w (ws' := wRt E a b b2 b3 pt (nI D) fn t S p1 vl1 ++ wH E a b3 se sn be so lo he inn al go (nI R) (nI K) gn gu gr) rfl ?_
      have hsl := rdSort_lt t S p1
      refine mr_istore_n C 32 dX4_readCrowd_31 rfl rfl (by decide) ?_
      refine mr_iload_n C 33 dX4_readCrowd_32 rfl rfl ?_
      refine mr_ifne C 42 36 dX4_readCrowd_33 (by decide) rfl (fun c_33 => ?_) (fun c_33 => ?_)
      · have c_33 : ¬ rdSort t S p1 = 0 := fun h => c_33 (by rw [h]; rfl)
        refine mr_aload_n C 43 dX4_readCrowd_42 rfl rfl ?_
        refine mr_get C 0 46 dX4_readCrowd_43 rfl fl_X4_18 rfl rfl ?_
        refine mr_callV C (c_step E a b2 t (nI (tkS t S p1)) (nI (stS t S p1)) vl1 S (nxS t S p1) hS (nxS_le hp1).2) [1, 2] 1 6 49 dX4_readCrowd_46 rfl mk_X6_step mi_X6_step ml_X4_99 rfl rfl rfl rfl rfl (Nat.le_of_ble_eq_true rfl) (by decide) (by decide) (by decide) rfl rfl (fun r w1 hpost => ?_)
        obtain ⟨vl2, rfl, rfl, hv2⟩ := hpost
        refine mr_w (ws' := wRt E a b b2 b3 pt (nI D) fn t S (nxS t S p1) vl2 ++ wH E a b3 se sn be so lo he inn al go (nI R) (nI K) gn gu gr) rfl ?_
        have hp2 : nxS t S p1 ≤ S := (nxS_le hp1).2
        have hv2 : vOK t S (nxS t S p1) vl2 := hv2
        obtain ⟨p2, hq2⟩ : ∃ z, nxS t S p1 = z := ⟨_, rfl⟩
        rw [hq2] at hp2 hv2 ⊢
        refine mr_aload_n C 50 dX4_readCrowd_49 rfl rfl ?_
        refine mr_get C 0 53 dX4_readCrowd_50 rfl fl_X4_18 rfl rfl ?_
        refine mr_get C 1 56 dX4_readCrowd_53 rfl fl_X4_68 rfl rfl ?_
        refine mr_istore_n C 57 dX4_readCrowd_56 rfl rfl (by decide) ?_
        refine mr_aload_n C 58 dX4_readCrowd_57 rfl rfl ?_
        refine mr_iconst C (nI 0) 59 dX4_readCrowd_58 rfl rfl ?_
        refine mr_aload_n C 60 dX4_readCrowd_59 rfl rfl ?_
        refine mr_get C 0 63 dX4_readCrowd_60 rfl fl_X4_12 rfl rfl ?_
        refine mr_get C 3 66 dX4_readCrowd_63 rfl fl_X4_61 rfl rfl ?_
        refine mr_iconst C (nI 1) 67 dX4_readCrowd_66 rfl rfl ?_
        refine mr_isub C _ 68 dX4_readCrowd_67 rfl rfl ?_
        refine mr_iconst C (-1) 69 dX4_readCrowd_68 rfl rfl ?_
        refine mr_callV C (c_readNumber E a b b2 b3 pt (nI D) fn t S p2 vl2 (nI 0) (nI R - nI 1) (-1) hS hp2 hv2) [0, 1, 2] 0 4 72 dX4_readCrowd_69 rfl mk_X4_readNumber mi_X4_readNumber ml_X4_71 rfl rfl rfl rfl rfl (Nat.le_of_ble_eq_true rfl) (by decide) (by decide) (by decide) rfl rfl (fun r w1 hpost => ?_)
        cases hr3 : rdNum t S p2 (nI 0) (nI R - nI 1) (-1) with
        | inl e =>
          obtain ⟨pf, f⟩ := e
          rw [hr3] at hpost
          obtain ⟨rfl, vlf, hvf, rfl⟩ := hpost
          refine mr_w (ws' := wRt E a b b2 b3 pt (nI D) (nI f) t S pf vlf ++ wH E a b3 se sn be so lo he inn al go (nI R) (nI K) gn gu gr) rfl ?_
          refine mr_ifne C 77 75 dX4_readCrowd_72 (by decide) rfl (fun c_ => absurd (by decide) c_) (fun _ => ?_)
          refine mr_iconst C (nI 0) 76 dX4_readCrowd_75 rfl rfl ?_
          refine mr_iret C dX4_readCrowd_76 rfl rfl (by decide) (by decide) hlen ?_
          rw [hO]
          rw [show rdCrowd t S p R K D se sn so lo he = .inl (pf, f) from by
            simp only [rdCrowd, hr1, hr3, rbind, hq2]
            exact if_neg c_33]
          exact And.intro rfl ⟨_, hvf, rfl⟩
        | inr p3 =>
          rw [hr3] at hpost
          obtain ⟨rfl, vl3, hv3, rfl⟩ := hpost
          refine mr_w (ws' := wRt E a b b2 b3 pt (nI D) fn t S p3 vl3 ++ wH E a b3 se sn be so lo he inn al go (nI R) (nI K) gn gu gr) rfl ?_
          have ok3 := rdNum_ok hr3
          have hp3 : p3 ≤ S := by rw [ok3.1]; exact (nxS_le hp2).2
          obtain rfl : vl2 = vlS t S p2 := hv2 ok3.2.1
          refine mr_ifne C 77 75 dX4_readCrowd_72 (by decide) rfl (fun _ => ?_) (fun c_ => absurd c_ (by decide))
          refine mr_aload_n C 78 dX4_readCrowd_77 rfl rfl ?_
          refine mr_get C 0 81 dX4_readCrowd_78 rfl fl_X4_18 rfl rfl ?_
          refine mr_get C 1 84 dX4_readCrowd_81 rfl fl_X4_68 rfl rfl ?_
          refine mr_istore_n C 85 dX4_readCrowd_84 rfl rfl (by decide) ?_
          refine mr_aload_n C 86 dX4_readCrowd_85 rfl rfl ?_
          refine mr_iconst C (nI 1) 87 dX4_readCrowd_86 rfl rfl ?_
          refine mr_bipush C (nI 50) 89 dX4_readCrowd_87 rfl rfl ?_
          refine mr_iconst C (-1) 90 dX4_readCrowd_89 rfl rfl ?_
          refine mr_callV C (c_readNumber E a b b2 b3 pt (nI D) fn t S p3 vl3 (nI 1) (nI 50) (-1) hS hp3 hv3) [0, 1, 2] 0 4 93 dX4_readCrowd_90 rfl mk_X4_readNumber mi_X4_readNumber ml_X4_71 rfl rfl rfl rfl rfl (Nat.le_of_ble_eq_true rfl) (by decide) (by decide) (by decide) rfl rfl (fun r w1 hpost => ?_)
          cases hr4 : rdNum t S p3 (nI 1) (nI 50) (-1) with
          | inl e =>
            obtain ⟨pf, f⟩ := e
            rw [hr4] at hpost
            obtain ⟨rfl, vlf, hvf, rfl⟩ := hpost
            refine mr_w (ws' := wRt E a b b2 b3 pt (nI D) (nI f) t S pf vlf ++ wH E a b3 se sn be so lo he inn al go (nI R) (nI K) gn gu gr) rfl ?_
            refine mr_ifeq C 103 96 dX4_readCrowd_93 (by decide) rfl (fun _ => ?_) (fun c_ => absurd (by decide) c_)
            refine mr_iconst C (nI 0) 104 dX4_readCrowd_103 rfl rfl ?_
            refine mr_iret C dX4_readCrowd_104 rfl rfl (by decide) (by decide) hlen ?_
            rw [hO]
            rw [show rdCrowd t S p R K D se sn so lo he = .inl (pf, f) from by
              simp only [rdCrowd, hr1, hr3, hr4, rbind, hq2]
              exact if_neg c_33]
            exact And.intro rfl ⟨_, hvf, rfl⟩
          | inr p4 =>
            rw [hr4] at hpost
            obtain ⟨rfl, vl4, hv4, rfl⟩ := hpost
            refine mr_w (ws' := wRt E a b b2 b3 pt (nI D) fn t S p4 vl4 ++ wH E a b3 se sn be so lo he inn al go (nI R) (nI K) gn gu gr) rfl ?_
            have ok4 := rdNum_ok hr4
            have hp4 : p4 ≤ S := by rw [ok4.1]; exact (nxS_le hp3).2
            obtain rfl : vl3 = vlS t S p3 := hv3 ok4.2.1
            refine mr_ifeq C 103 96 dX4_readCrowd_93 (by decide) rfl (fun c_ => absurd c_ (by decide)) (fun _ => ?_)
            refine mr_aload_n C 97 dX4_readCrowd_96 rfl rfl ?_
            refine mr_callV C (c_readEnd E a b b2 b3 pt (nI D) fn t S p4 vl4  hS hp4 hv4) [0, 1, 2] 0 4 100 dX4_readCrowd_97 rfl mk_X4_readEnd mi_X4_readEnd ml_X4_75 rfl rfl rfl rfl rfl (Nat.le_of_ble_eq_true rfl) (by decide) (by decide) (by decide) rfl rfl (fun r w1 hpost => ?_)
            cases hr5 : rdEnd t S p4 with
            | inl e =>
              obtain ⟨pf, f⟩ := e
              rw [hr5] at hpost
              obtain ⟨rfl, vlf, hvf, rfl⟩ := hpost
              refine mr_w (ws' := wRt E a b b2 b3 pt (nI D) (nI f) t S pf vlf ++ wH E a b3 se sn be so lo he inn al go (nI R) (nI K) gn gu gr) rfl ?_
              refine mr_ifne C 105 103 dX4_readCrowd_100 (by decide) rfl (fun c_ => absurd (by decide) c_) (fun _ => ?_)
              refine mr_iconst C (nI 0) 104 dX4_readCrowd_103 rfl rfl ?_
              refine mr_iret C dX4_readCrowd_104 rfl rfl (by decide) (by decide) hlen ?_
              rw [hO]
              rw [show rdCrowd t S p R K D se sn so lo he = .inl (pf, f) from by
                simp only [rdCrowd, hr1, hr3, hr4, hr5, rbind, hq2]
                exact if_neg c_33]
              exact And.intro rfl ⟨_, hvf, rfl⟩
            | inr p5 =>
              rw [hr5] at hpost
              obtain ⟨rfl, vl5, hv5, rfl⟩ := hpost
              refine mr_w (ws' := wRt E a b b2 b3 pt (nI D) fn t S p5 vl5 ++ wH E a b3 se sn be so lo he inn al go (nI R) (nI K) gn gu gr) rfl ?_
              have ok5 := rdEnd_ok hr5
              have hp5 : p5 ≤ S := by rw [ok5.1]; exact (nxS_le hp4).2
              refine mr_ifne C 105 103 dX4_readCrowd_100 (by decide) rfl (fun _ => ?_) (fun c_ => absurd c_ (by decide))
              have hK5 := ok1.2.2
              refine mr_aload_n C 106 dX4_readCrowd_105 rfl rfl ?_
              refine mr_get C 0 109 dX4_readCrowd_106 rfl fl_X4_12 rfl rfl ?_
              refine mr_get C 3 112 dX4_readCrowd_109 rfl fl_X4_102 rfl rfl ?_
              refine mr_aload_n C 113 dX4_readCrowd_112 rfl rfl ?_
              refine mr_get C 0 116 dX4_readCrowd_113 rfl fl_X4_12 rfl rfl ?_
              refine mr_get C 3 119 dX4_readCrowd_116 rfl fl_X4_88 rfl rfl ?_
              refine mr_iload_n C 120 dX4_readCrowd_119 rfl rfl ?_
              refine mr_iast C 7 K 121 dX4_readCrowd_120 rfl rfl rfl (by omega) (by decide) ?_
              refine mr_aload_n C 122 dX4_readCrowd_121 rfl rfl ?_
              refine mr_get C 0 125 dX4_readCrowd_122 rfl fl_X4_12 rfl rfl ?_
              refine mr_get C 3 128 dX4_readCrowd_125 rfl fl_X4_105 rfl rfl ?_
              refine mr_aload_n C 129 dX4_readCrowd_128 rfl rfl ?_
              refine mr_get C 0 132 dX4_readCrowd_129 rfl fl_X4_12 rfl rfl ?_
              refine mr_get C 3 135 dX4_readCrowd_132 rfl fl_X4_88 rfl rfl ?_
              refine mr_iload_n C 136 dX4_readCrowd_135 rfl rfl ?_
              refine mr_iast C 8 K 137 dX4_readCrowd_136 rfl rfl rfl (by omega) (by decide) ?_
              refine mr_aload_n C 138 dX4_readCrowd_137 rfl rfl ?_
              refine mr_get C 0 141 dX4_readCrowd_138 rfl fl_X4_12 rfl rfl ?_
              refine mr_get C 3 144 dX4_readCrowd_141 rfl fl_X4_108 rfl rfl ?_
              refine mr_aload_n C 145 dX4_readCrowd_144 rfl rfl ?_
              refine mr_get C 0 148 dX4_readCrowd_145 rfl fl_X4_12 rfl rfl ?_
              refine mr_get C 3 151 dX4_readCrowd_148 rfl fl_X4_88 rfl rfl ?_
              refine mr_iload_n C 152 dX4_readCrowd_151 rfl rfl ?_
              refine mr_iast C 9 K 153 dX4_readCrowd_152 rfl rfl rfl (by omega) (by decide) ?_
              refine mr_aload_n C 154 dX4_readCrowd_153 rfl rfl ?_
              refine mr_get C 0 157 dX4_readCrowd_154 rfl fl_X4_12 rfl rfl ?_
              refine mr_dup C 158 dX4_readCrowd_157 rfl rfl ?_
              refine mr_get C 3 161 dX4_readCrowd_158 rfl fl_X4_88 rfl rfl ?_
              refine mr_iconst C (nI 1) 162 dX4_readCrowd_161 rfl rfl ?_
              refine mr_iadd C (nI (K + 1)) 163 dX4_readCrowd_162 rfl (nI_add _ _) ?_
              refine mr_put C 3 166 dX4_readCrowd_163 rfl fs_X4_88 rfl rfl rfl (Nat.le_of_ble_eq_true rfl) ?_
              refine mr_iconst C (nI 1) 167 dX4_readCrowd_166 rfl rfl ?_
              refine mr_iret C dX4_readCrowd_167 rfl rfl (by decide) (by decide) hlen ?_
              rw [hO]
              rw [show rdCrowd t S p R K D se sn so lo he = .inr (p5, ((R, K + 1, D), se, sn, upd so K (nI (rdSort t S p1)), upd lo K (vlS t S p2), upd he K (vlS t S p3))) from by
                simp only [rdCrowd, hr1, rbind, hq2, hr3, hr4, hr5]
                exact if_neg c_33]
              exact And.intro rfl ⟨_, hv5, rfl⟩
      · have c_33 : rdSort t S p1 = 0 := (nI_eq (by omega) (by decide)).mp (c_33.trans nI_0.symm)
        refine mr_aload_n C 37 dX4_readCrowd_36 rfl rfl ?_
        refine mr_iconst C (nI 1) 38 dX4_readCrowd_37 rfl rfl ?_
        refine mr_callV C (c_failed E a b b2 b3 pt (nI D) fn (nI 1)) [0] 0 4 41 dX4_readCrowd_38 rfl mk_X4_failed mi_X4_failed ml_X4_95 rfl rfl rfl rfl rfl (Nat.le_of_ble_eq_true rfl) (by decide) (by decide) (by decide) rfl rfl (fun r w1 hpost => ?_)
        obtain ⟨rfl, rfl⟩ := hpost
        refine mr_w (ws' := wRt E a b b2 b3 pt (nI D) (nI 1) t S p1 vl1 ++ wH E a b3 se sn be so lo he inn al go (nI R) (nI K) gn gu gr) rfl ?_
        refine mr_iret C dX4_readCrowd_41 rfl rfl (by decide) (by decide) hlen ?_
        rw [hO]
        rw [show rdCrowd t S p R K D se sn so lo he = .inl (p1, 1) from by
          simp only [rdCrowd, hr1, rbind]
          exact if_pos c_33]
        exact And.intro rfl ⟨_, hv1, rfl⟩
  refine mr_aload_n C 1 dX4_readCrowd_0 rfl rfl ?_
  refine mr_str C 2 (by decide) 3 dX4_readCrowd_1 rfl rfl rfl ?_
  refine mr_aload_n C 4 dX4_readCrowd_3 rfl rfl ?_
  refine mr_get C 0 7 dX4_readCrowd_4 rfl fl_X4_12 rfl rfl ?_
  refine mr_get C 3 10 dX4_readCrowd_7 rfl fl_X4_88 rfl rfl ?_
  refine mr_iconst C (nI 5) 11 dX4_readCrowd_10 rfl rfl ?_
  refine mr_icmpge C 18 14 dX4_readCrowd_11 (by decide) rfl (fun c_11 => ?_) (fun c_11 => ?_)
  · rw [nI_leI (by omega) (by omega)] at c_11
    refine mr_iconst C (nI 0) 19 dX4_readCrowd_18 rfl rfl ?_
    refine mr_callV C (c_readWord E a b b2 b3 pt (nI D) fn t S p vl 2 (K < 5) (nI 0) (bP_f (by omega)) (by decide) hS hp hv) [0, 1, 2] 0 4 22 dX4_readCrowd_19 rfl mk_X4_readWord mi_X4_readWord ml_X4_64 rfl rfl rfl rfl rfl (Nat.le_of_ble_eq_true rfl) (by decide) (by decide) (by decide) rfl rfl (fun r w1 hpost => ?_)
    exact L1 r w1 hpost
  · rw [nI_leI (by omega) (by omega)] at c_11
    refine mr_iconst C (nI 1) 15 dX4_readCrowd_14 rfl rfl ?_
    refine mr_goto C 19 dX4_readCrowd_15 (by decide) ?_
    refine mr_callV C (c_readWord E a b b2 b3 pt (nI D) fn t S p vl 2 (K < 5) (nI 1) (bP_t (by omega)) (by decide) hS hp hv) [0, 1, 2] 0 4 22 dX4_readCrowd_19 rfl mk_X4_readWord mi_X4_readWord ml_X4_64 rfl rfl rfl rfl rfl (Nat.le_of_ble_eq_true rfl) (by decide) (by decide) (by decide) rfl rfl (fun r w1 hpost => ?_)
    exact L1 r w1 hpost

