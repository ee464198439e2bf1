/-! Reader: a piece, the tape -/
theorem nxS_gt {t : FN} {S p : Nat} (hp : p ≤ S) (h : tkS t S p ≠ 0) : p < nxS t S p := by
  have h1 := stS_le (t := t) hp
  have h2 : ¬ S ≤ stS t S p := fun k => h (by unfold tkS; exact if_pos k)
  have key : ∀ (P : Int32 → Prop) [DecidablePred P], P (t (stS t S p)) → stS t S p < scn P t (S - stS t S p) (stS t S p) := by
    intro P _ hP
    rw [scn_t (by omega) hP]
    have := scn_in (P := P) (t := t) (S - (stS t S p + 1)) (stS t S p + 1)
    omega
  unfold nxS
  rw [if_neg h2]
  by_cases hl : pL (t (stS t S p))
  · rw [if_pos hl]; have := key pL hl; omega
  · rw [if_neg hl]
    by_cases hf : pF (t (stS t S p))
    · rw [if_pos hf]; have := key pF hf; omega
    · rw [if_neg hf]; omega
theorem rbind_ok {α β : Type} {r : RS α} {f : α → RS β} {y : β} (h : rbind r f = .inr y) : ∃ x, r = .inr x ∧ f x = .inr y := by
  cases r with
  | inl e => cases h
  | inr x => exact ⟨x, rfl, h⟩
theorem rdRoom_ok {t : FN} {S p R K D : Nat} {se sn so lo he : FN} {y : Nat × PLN} (hp : p ≤ S) (hR : R ≤ 6) (hK : K ≤ 5) (hD : D ≤ 12) (h : rdRoom t S p R K D se sn so lo he = .inr y) : p < y.1 ∧ y.1 ≤ S ∧ y.2.1.1 ≤ 6 ∧ y.2.1.2.1 ≤ 5 ∧ y.2.1.2.2 ≤ 12 := by
  obtain ⟨p1, h1, h⟩ := rbind_ok h
  obtain ⟨p2, h2, h⟩ := rbind_ok h
  obtain ⟨p3, h3, h⟩ := rbind_ok h
  obtain ⟨rfl, k1, k2⟩ := rdWord_ok h1
  have g1 := (nxS_le (t := t) hp).2
  obtain ⟨rfl, l1, -⟩ := rdNum_ok h2
  have g2 := (nxS_le (t := t) g1).2
  obtain ⟨rfl, m1⟩ := rdEnd_ok h3
  have g3 := (nxS_le (t := t) g2).2
  have a1 := nxS_gt (t := t) hp (by omega)
  have a2 := nxS_gt (t := t) g1 (by omega)
  have a3 := nxS_gt (t := t) g2 (by omega)
  cases h
  exact ⟨by show p < _; omega, g3, by show R + 1 ≤ 6; omega, hK, hD⟩
theorem rdDoor_ok {t : FN} {S p R K D : Nat} {se sn so lo he : FN} {y : Nat × PLN} (hp : p ≤ S) (hR : R ≤ 6) (hK : K ≤ 5) (hD : D ≤ 12) (h : rdDoor t S p R K D se sn so lo he = .inr y) : p < y.1 ∧ y.1 ≤ S ∧ y.2.1.1 ≤ 6 ∧ y.2.1.2.1 ≤ 5 ∧ y.2.1.2.2 ≤ 12 := by
  obtain ⟨p1, h1, h⟩ := rbind_ok h
  obtain ⟨p2, h2, h⟩ := rbind_ok h
  obtain ⟨p3, h3, h⟩ := rbind_ok h
  obtain ⟨p4, h4, h⟩ := rbind_ok h
  obtain ⟨rfl, k1, k2⟩ := rdWord_ok h1
  have g1 := (nxS_le (t := t) hp).2
  obtain ⟨rfl, l1, -⟩ := rdNum_ok h2
  have g2 := (nxS_le (t := t) g1).2
  obtain ⟨rfl, l2, -⟩ := rdNum_ok h3
  have g3 := (nxS_le (t := t) g2).2
  obtain ⟨rfl, m1⟩ := rdEnd_ok h4
  have g4 := (nxS_le (t := t) g3).2
  have a1 := nxS_gt (t := t) hp (by omega)
  have a2 := nxS_gt (t := t) g1 (by omega)
  have a3 := nxS_gt (t := t) g2 (by omega)
  have a4 := nxS_gt (t := t) g3 (by omega)
  cases h
  exact ⟨by show p < _; omega, g4, hR, hK, by show D + 1 ≤ 12; omega⟩
theorem rdCrowd_ok {t : FN} {S p R K D : Nat} {se sn so lo he : FN} {y : Nat × PLN} (hp : p ≤ S) (hR : R ≤ 6) (hK : K ≤ 5) (hD : D ≤ 12) (h : rdCrowd t S p R K D se sn so lo he = .inr y) : p < y.1 ∧ y.1 ≤ S ∧ y.2.1.1 ≤ 6 ∧ y.2.1.2.1 ≤ 5 ∧ y.2.1.2.2 ≤ 12 := by
  obtain ⟨p1, h1, h⟩ := rbind_ok h
  obtain ⟨rfl, k1, k2⟩ := rdWord_ok h1
  have g1 := (nxS_le (t := t) hp).2
  by_cases hs : rdSort t S (nxS t S p) = 0
  · rw [if_pos hs] at h; cases h
  rw [if_neg hs] at h
  have g2 := nxS_le (t := t) g1
  obtain ⟨p3, h3, h⟩ := rbind_ok h
  obtain ⟨p4, h4, h⟩ := rbind_ok h
  obtain ⟨p5, h5, h⟩ := rbind_ok h
  obtain ⟨rfl, l1, -⟩ := rdNum_ok h3
  have g3 := (nxS_le (t := t) g2.2).2
  obtain ⟨rfl, l2, -⟩ := rdNum_ok h4
  have g4 := (nxS_le (t := t) g3).2
  obtain ⟨rfl, m1⟩ := rdEnd_ok h5
  have g5 := (nxS_le (t := t) g4).2
  have a1 := nxS_gt (t := t) hp (by omega)
  have a2 := stS_le (t := t) g1
  have a3 := nxS_gt (t := t) g2.2 (by omega)
  have a4 := nxS_gt (t := t) g3 (by omega)
  have a5 := nxS_gt (t := t) g4 (by omega)
  cases h
  exact ⟨by show p < _; omega, g5, hR, by show K + 1 ≤ 5; omega, hD⟩
/-- which piece comes at cursor p: 0 a room, 1 a door, 2 a crowd -/
noncomputable def nptS (t : FN) (S p P : Nat) : Nat := ifP (P = 0 ∧ isW t S p 0) 0 (ifP (P ≤ 1 ∧ isW t S p 1) 1 2)
noncomputable def rdPart (t : FN) (S p P : Nat) (R K D : Nat) (se sn so lo he : FN) : RS (Nat × PLN) :=
  if nptS t S p P = 0 then rdRoom t S p R K D se sn so lo he else if nptS t S p P = 1 then rdDoor t S p R K D se sn so lo he else rdCrowd t S p R K D se sn so lo he
theorem rdPart_ok {t : FN} {S p P R K D : Nat} {se sn so lo he : FN} {y : Nat × PLN} (hp : p ≤ S) (hR : R ≤ 6) (hK : K ≤ 5) (hD : D ≤ 12) (h : rdPart t S p P R K D se sn so lo he = .inr y) : p < y.1 ∧ y.1 ≤ S ∧ y.2.1.1 ≤ 6 ∧ y.2.1.2.1 ≤ 5 ∧ y.2.1.2.2 ≤ 12 := by
  unfold rdPart at h
  split at h
  · exact rdRoom_ok hp hR hK hD h
  · split at h
    · exact rdDoor_ok hp hR hK hD h
    · exact rdCrowd_ok hp hR hK hD h
theorem nptS_le (t : FN) (S p P : Nat) : nptS t S p P ≤ 2 := by
  unfold nptS
  by_cases h1 : P = 0 ∧ isW t S p 0
  · rw [ifP_t h1]; omega
  · rw [ifP_f h1]
    by_cases h2 : P ≤ 1 ∧ isW t S p 1
    · rw [ifP_t h2]; omega
    · rw [ifP_f h2]; omega
/-- piece by piece -/
noncomputable def rdLoop (t : FN) (S : Nat) : Nat → Nat → Nat → PLN → RS (Nat × PLN)
  | 0, _, p, x => .inr (p, x)
  | d + 1, P, p, x => if tkS t S p = 0 then .inr (p, x) else rbind (rdPart t S p P x.1.1 x.1.2.1 x.1.2.2 x.2.1 x.2.2.1 x.2.2.2.1 x.2.2.2.2.1 x.2.2.2.2.2) fun y => rdLoop t S d (nptS t S p P) y.1 y.2
noncomputable def rdTape (t : FN) (S : Nat) (se sn so lo he : FN) : RS (Nat × PLN) := rbind (rdRoom t S 0 0 0 0 se sn so lo he) fun y => rdLoop t S 400 0 y.1 y.2
/-- the answer of the whole -/
def RPT (E : EG) (a : Nat → Nat) (b b2 b3 : Nat) (fn : Int32) (t : FN) (S : Nat) (be inn al go : FN) (gn gu gr : Int32) (r : RS (Nat × PLN)) : PO := fun v w => match r with
  | .inl (p, f) => v = some (.int (nI 0)) ∧ ∃ (vl pt : Int32) (x : PLN), w = wRt E a b b2 b3 pt (nI x.1.2.2) (nI f) t S p vl ++ wH E a b3 x.2.1 x.2.2.1 be x.2.2.2.1 x.2.2.2.2.1 x.2.2.2.2.2 inn al go (nI x.1.1) (nI x.1.2.1) gn gu gr
  | .inr (p, x) => v = some (.int (nI 1)) ∧ ∃ (vl pt : Int32), w = wRt E a b b2 b3 pt (nI x.1.2.2) fn t S p vl ++ wH E a b3 x.2.1 x.2.2.1 be x.2.2.2.1 x.2.2.2.2.1 x.2.2.2.2.2 inn al go (nI x.1.1) (nI x.1.2.1) gn gu gr
set_option maxRecDepth 20000 in
set_option maxHeartbeats 4000000 in
theorem c_readPart (E : EG) (a : Nat → Nat) (b b2 b3 : Nat) (fn : Int32) (t : FN) (S p P R K D : Nat) (vl : Int32) (se sn be so lo he inn al go : FN) (gn gu gr : Int32) (hS : S ≤ 400) (hp : p ≤ S) (hv : vOK t S p vl) (hP : P ≤ 2) (hR : R ≤ 6) (hK : K ≤ 5) (hD : D ≤ 12) : Ctr E mX4_readPart (8, 0, 0) [.ref (a b)] (wRt E a b b2 b3 (nI P) (nI D) fn t S p vl ++ wH E a b3 se sn be so lo he inn al go (nI R) (nI K) gn gu gr) (RPP E a b b2 b3 (nI (nptS t S p P)) fn t S ((R, K, D), se, sn, so, lo, he) be inn al go gn gu gr (rdPart t S p P R K D se sn so lo he)) := by
  refine Ctr.of (by decide) (Nat.le_of_ble_eq_true rfl) ?_
  intro Z hO hn C
  have hlen : zn Z ≤ 13 := by rw [hn]; exact Nat.le_of_ble_eq_true rfl
  have htk := tkS_lt t S p
  have hst := stS_le (t := t) hp
  have hnx := nxS_le (t := t) hp
  refine mr_aload_n C 1 dX4_readPart_0 rfl rfl ?_
  refine mr_get C 0 4 dX4_readPart_1 rfl fl_X4_25 rfl rfl ?_
  refine mr_ifne C 24 7 dX4_readPart_4 (by decide) rfl (fun c_4 => ?_) (fun c_4 => ?_)
  · have hP0 : ¬ P = 0 := fun h => c_4 (by rw [h]; rfl)
    have hn0 : ¬ (P = 0 ∧ isW t S p 0) := fun h => hP0 h.1
    refine mr_aload_n C 25 dX4_readPart_24 rfl rfl ?_
    refine mr_get C 0 28 dX4_readPart_25 rfl fl_X4_25 rfl rfl ?_
    refine mr_iconst C (nI 1) 29 dX4_readPart_28 rfl rfl ?_
    refine mr_icmpgt C 54 32 dX4_readPart_29 (by decide) rfl (fun c_29 => ?_) (fun c_29 => ?_)
    · rw [nI_ltI (by omega) (by omega)] at c_29
      have hn1 : ¬ (P ≤ 1 ∧ isW t S p 1) := fun h => by omega
      refine mr_aload_n C 55 dX4_readPart_54 rfl rfl ?_
      refine mr_iconst C (nI 2) 56 dX4_readPart_55 rfl rfl ?_
      refine mr_put C 0 59 dX4_readPart_56 rfl fs_X4_25 rfl rfl rfl (Nat.le_of_ble_eq_true rfl) ?_
      refine mr_aload_n C 60 dX4_readPart_59 rfl rfl ?_
      refine mr_callV C (c_readCrowd E a b b2 b3 (nI 2) fn t S p R K D vl se sn be so lo he inn al go gn gu gr hS hp hv hR hK hD) [0, 1, 2, 3, 4, 5, 6, 7, 8, 9, 10, 11, 12] 0 4 63 dX4_readPart_60 rfl mk_X4_readCrowd mi_X4_readCrowd ml_X4_58 rfl rfl rfl rfl rfl (Nat.le_of_ble_eq_true rfl) (by decide) (by decide) (by decide) rfl rfl (fun r w1 hpost => ?_)
      have hnp : nptS t S p P = 2 := (ifP_f hn0).trans (ifP_f hn1)
      have hpt : rdPart t S p P R K D se sn so lo he = rdCrowd t S p R K D se sn so lo he := (if_neg (by omega)).trans (if_neg (by omega))
      rw [hnp, hpt] at hO
      cases hr : rdCrowd t S p R K D se sn so lo he with
      | inl e =>
        obtain ⟨e1, e2⟩ := e
        rw [hr] at hpost hO
        obtain ⟨rfl, vl9, hv9, rfl⟩ := hpost
        refine mr_w (wput_all _ _ 13 rfl rfl) ?_
        refine mr_iret C dX4_readPart_63 rfl rfl (by decide) (by decide) hlen ?_
        rw [hO]
        exact And.intro rfl ⟨vl9, hv9, rfl⟩
      | inr e =>
        obtain ⟨e1, e2⟩ := e
        rw [hr] at hpost hO
        obtain ⟨rfl, vl9, hv9, rfl⟩ := hpost
        refine mr_w (wput_all _ _ 13 rfl rfl) ?_
        refine mr_iret C dX4_readPart_63 rfl rfl (by decide) (by decide) hlen ?_
        rw [hO]
        exact And.intro rfl ⟨vl9, hv9, rfl⟩
    · rw [nI_ltI (by omega) (by omega)] at c_29
      refine mr_aload_n C 33 dX4_readPart_32 rfl rfl ?_
      refine mr_get C 0 36 dX4_readPart_33 rfl fl_X4_18 rfl rfl ?_
      refine mr_str C 1 (by decide) 38 dX4_readPart_36 rfl rfl rfl ?_
      refine mr_callV C (c_isWord E a b2 t vl S (tkS t S p) (stS t S p) (nxS t S p) 1 hS (by omega) hnx.1 hnx.2 (by omega)) [1, 2] 1 6 41 dX4_readPart_38 rfl mk_X6_isWord mi_X6_isWord ml_X4_49 rfl rfl rfl rfl rfl (Nat.le_of_ble_eq_true rfl) (by decide) (by decide) (by decide) rfl rfl (fun r w1 hpost => ?_)
      obtain ⟨rfl, rfl⟩ := hpost
      refine mr_w (ws' := wRt E a b b2 b3 (nI P) (nI D) fn t S p vl ++ wH E a b3 se sn be so lo he inn al go (nI R) (nI K) gn gu gr) rfl ?_
      refine mr_ifeq C 54 44 dX4_readPart_41 (by decide) rfl (fun c_41 => ?_) (fun c_41 => ?_)
      · rw [bP_eq] at c_41
        have hn1 : ¬ (P ≤ 1 ∧ isW t S p 1) := fun h => c_41 h.2
        refine mr_aload_n C 55 dX4_readPart_54 rfl rfl ?_
        refine mr_iconst C (nI 2) 56 dX4_readPart_55 rfl rfl ?_
        refine mr_put C 0 59 dX4_readPart_56 rfl fs_X4_25 rfl rfl rfl (Nat.le_of_ble_eq_true rfl) ?_
        refine mr_aload_n C 60 dX4_readPart_59 rfl rfl ?_
        refine mr_callV C (c_readCrowd E a b b2 b3 (nI 2) fn t S p R K D vl se sn be so lo he inn al go gn gu gr hS hp hv hR hK hD) [0, 1, 2, 3, 4, 5, 6, 7, 8, 9, 10, 11, 12] 0 4 63 dX4_readPart_60 rfl mk_X4_readCrowd mi_X4_readCrowd ml_X4_58 rfl rfl rfl rfl rfl (Nat.le_of_ble_eq_true rfl) (by decide) (by decide) (by decide) rfl rfl (fun r w1 hpost => ?_)
        have hnp : nptS t S p P = 2 := (ifP_f hn0).trans (ifP_f hn1)
        have hpt : rdPart t S p P R K D se sn so lo he = rdCrowd t S p R K D se sn so lo he := (if_neg (by omega)).trans (if_neg (by omega))
        rw [hnp, hpt] at hO
        cases hr : rdCrowd t S p R K D se sn so lo he with
        | inl e =>
          obtain ⟨e1, e2⟩ := e
          rw [hr] at hpost hO
          obtain ⟨rfl, vl9, hv9, rfl⟩ := hpost
          refine mr_w (wput_all _ _ 13 rfl rfl) ?_
          refine mr_iret C dX4_readPart_63 rfl rfl (by decide) (by decide) hlen ?_
          rw [hO]
          exact And.intro rfl ⟨vl9, hv9, rfl⟩
        | inr e =>
          obtain ⟨e1, e2⟩ := e
          rw [hr] at hpost hO
          obtain ⟨rfl, vl9, hv9, rfl⟩ := hpost
          refine mr_w (wput_all _ _ 13 rfl rfl) ?_
          refine mr_iret C dX4_readPart_63 rfl rfl (by decide) (by decide) hlen ?_
          rw [hO]
          exact And.intro rfl ⟨vl9, hv9, rfl⟩
      · rw [← Ne, bP_ne] at c_41
        have hw1 : isW t S p 1 := c_41
        refine mr_aload_n C 45 dX4_readPart_44 rfl rfl ?_
        refine mr_iconst C (nI 1) 46 dX4_readPart_45 rfl rfl ?_
        refine mr_put C 0 49 dX4_readPart_46 rfl fs_X4_25 rfl rfl rfl (Nat.le_of_ble_eq_true rfl) ?_
        refine mr_aload_n C 50 dX4_readPart_49 rfl rfl ?_
        refine mr_callV C (c_readDoor E a b b2 b3 (nI 1) fn t S p R K D vl se sn be so lo he inn al go gn gu gr hS hp hv hR hK hD) [0, 1, 2, 3, 4, 5, 6, 7, 8, 9, 10, 11, 12] 0 4 53 dX4_readPart_50 rfl mk_X4_readDoor mi_X4_readDoor ml_X4_55 rfl rfl rfl rfl rfl (Nat.le_of_ble_eq_true rfl) (by decide) (by decide) (by decide) rfl rfl (fun r w1 hpost => ?_)
        have hnp : nptS t S p P = 1 := (ifP_f hn0).trans (ifP_t ⟨by omega, hw1⟩)
        have hpt : rdPart t S p P R K D se sn so lo he = rdDoor t S p R K D se sn so lo he := (if_neg (by omega)).trans (if_pos hnp)
        rw [hnp, hpt] at hO
        cases hr : rdDoor t S p R K D se sn so lo he with
        | inl e =>
          obtain ⟨e1, e2⟩ := e
          rw [hr] at hpost hO
          obtain ⟨rfl, vl9, hv9, rfl⟩ := hpost
          refine mr_w (wput_all _ _ 13 rfl rfl) ?_
          refine mr_iret C dX4_readPart_53 rfl rfl (by decide) (by decide) hlen ?_
          rw [hO]
          exact And.intro rfl ⟨vl9, hv9, rfl⟩
        | inr e =>
          obtain ⟨e1, e2⟩ := e
          rw [hr] at hpost hO
          obtain ⟨rfl, vl9, hv9, rfl⟩ := hpost
          refine mr_w (wput_all _ _ 13 rfl rfl) ?_
          refine mr_iret C dX4_readPart_53 rfl rfl (by decide) (by decide) hlen ?_
          rw [hO]
          exact And.intro rfl ⟨vl9, hv9, rfl⟩
  · have hP0 : P = 0 := (nI_eq (by omega) (by decide)).mp (c_4.trans nI_0.symm)
    refine mr_aload_n C 8 dX4_readPart_7 rfl rfl ?_
    refine mr_get C 0 11 dX4_readPart_8 rfl fl_X4_18 rfl rfl ?_
    refine mr_str C 0 (by decide) 13 dX4_readPart_11 rfl rfl rfl ?_
    refine mr_callV C (c_isWord E a b2 t vl S (tkS t S p) (stS t S p) (nxS t S p) 0 hS (by omega) hnx.1 hnx.2 (by omega)) [1, 2] 1 6 16 dX4_readPart_13 rfl mk_X6_isWord mi_X6_isWord ml_X4_49 rfl rfl rfl rfl rfl (Nat.le_of_ble_eq_true rfl) (by decide) (by decide) (by decide) rfl rfl (fun r w1 hpost => ?_)
    obtain ⟨rfl, rfl⟩ := hpost
    refine mr_w (ws' := wRt E a b b2 b3 (nI P) (nI D) fn t S p vl ++ wH E a b3 se sn be so lo he inn al go (nI R) (nI K) gn gu gr) rfl ?_
    refine mr_ifeq C 24 19 dX4_readPart_16 (by decide) rfl (fun c_16 => ?_) (fun c_16 => ?_)
    · rw [bP_eq] at c_16
      have hn0 : ¬ (P = 0 ∧ isW t S p 0) := fun h => c_16 h.2
      refine mr_aload_n C 25 dX4_readPart_24 rfl rfl ?_
      refine mr_get C 0 28 dX4_readPart_25 rfl fl_X4_25 rfl rfl ?_
      refine mr_iconst C (nI 1) 29 dX4_readPart_28 rfl rfl ?_
      refine mr_icmpgt C 54 32 dX4_readPart_29 (by decide) rfl (fun c_29 => ?_) (fun c_29 => ?_)
      · rw [nI_ltI (by omega) (by omega)] at c_29
        have hn1 : ¬ (P ≤ 1 ∧ isW t S p 1) := fun h => by omega
        refine mr_aload_n C 55 dX4_readPart_54 rfl rfl ?_
        refine mr_iconst C (nI 2) 56 dX4_readPart_55 rfl rfl ?_
        refine mr_put C 0 59 dX4_readPart_56 rfl fs_X4_25 rfl rfl rfl (Nat.le_of_ble_eq_true rfl) ?_
        refine mr_aload_n C 60 dX4_readPart_59 rfl rfl ?_
        refine mr_callV C (c_readCrowd E a b b2 b3 (nI 2) fn t S p R K D vl se sn be so lo he inn al go gn gu gr hS hp hv hR hK hD) [0, 1, 2, 3, 4, 5, 6, 7, 8, 9, 10, 11, 12] 0 4 63 dX4_readPart_60 rfl mk_X4_readCrowd mi_X4_readCrowd ml_X4_58 rfl rfl rfl rfl rfl (Nat.le_of_ble_eq_true rfl) (by decide) (by decide) (by decide) rfl rfl (fun r w1 hpost => ?_)
        have hnp : nptS t S p P = 2 := (ifP_f hn0).trans (ifP_f hn1)
        have hpt : rdPart t S p P R K D se sn so lo he = rdCrowd t S p R K D se sn so lo he := (if_neg (by omega)).trans (if_neg (by omega))
        rw [hnp, hpt] at hO
        cases hr : rdCrowd t S p R K D se sn so lo he with
        | inl e =>
          obtain ⟨e1, e2⟩ := e
          rw [hr] at hpost hO
          obtain ⟨rfl, vl9, hv9, rfl⟩ := hpost
          refine mr_w (wput_all _ _ 13 rfl rfl) ?_
          refine mr_iret C dX4_readPart_63 rfl rfl (by decide) (by decide) hlen ?_
          rw [hO]
          exact And.intro rfl ⟨vl9, hv9, rfl⟩
        | inr e =>
          obtain ⟨e1, e2⟩ := e
          rw [hr] at hpost hO
          obtain ⟨rfl, vl9, hv9, rfl⟩ := hpost
          refine mr_w (wput_all _ _ 13 rfl rfl) ?_
          refine mr_iret C dX4_readPart_63 rfl rfl (by decide) (by decide) hlen ?_
          rw [hO]
          exact And.intro rfl ⟨vl9, hv9, rfl⟩
      · rw [nI_ltI (by omega) (by omega)] at c_29
        refine mr_aload_n C 33 dX4_readPart_32 rfl rfl ?_
        refine mr_get C 0 36 dX4_readPart_33 rfl fl_X4_18 rfl rfl ?_
        refine mr_str C 1 (by decide) 38 dX4_readPart_36 rfl rfl rfl ?_
        refine mr_callV C (c_isWord E a b2 t vl S (tkS t S p) (stS t S p) (nxS t S p) 1 hS (by omega) hnx.1 hnx.2 (by omega)) [1, 2] 1 6 41 dX4_readPart_38 rfl mk_X6_isWord mi_X6_isWord ml_X4_49 rfl rfl rfl rfl rfl (Nat.le_of_ble_eq_true rfl) (by decide) (by decide) (by decide) rfl rfl (fun r w1 hpost => ?_)
        obtain ⟨rfl, rfl⟩ := hpost
        refine mr_w (ws' := wRt E a b b2 b3 (nI P) (nI D) fn t S p vl ++ wH E a b3 se sn be so lo he inn al go (nI R) (nI K) gn gu gr) rfl ?_
        refine mr_ifeq C 54 44 dX4_readPart_41 (by decide) rfl (fun c_41 => ?_) (fun c_41 => ?_)
        · rw [bP_eq] at c_41
          have hn1 : ¬ (P ≤ 1 ∧ isW t S p 1) := fun h => c_41 h.2
          refine mr_aload_n C 55 dX4_readPart_54 rfl rfl ?_
          refine mr_iconst C (nI 2) 56 dX4_readPart_55 rfl rfl ?_
          refine mr_put C 0 59 dX4_readPart_56 rfl fs_X4_25 rfl rfl rfl (Nat.le_of_ble_eq_true rfl) ?_
          refine mr_aload_n C 60 dX4_readPart_59 rfl rfl ?_
          refine mr_callV C (c_readCrowd E a b b2 b3 (nI 2) fn t S p R K D vl se sn be so lo he inn al go gn gu gr hS hp hv hR hK hD) [0, 1, 2, 3, 4, 5, 6, 7, 8, 9, 10, 11, 12] 0 4 63 dX4_readPart_60 rfl mk_X4_readCrowd mi_X4_readCrowd ml_X4_58 rfl rfl rfl rfl rfl (Nat.le_of_ble_eq_true rfl) (by decide) (by decide) (by decide) rfl rfl (fun r w1 hpost => ?_)
          have hnp : nptS t S p P = 2 := (ifP_f hn0).trans (ifP_f hn1)
          have hpt : rdPart t S p P R K D se sn so lo he = rdCrowd t S p R K D se sn so lo he := (if_neg (by omega)).trans (if_neg (by omega))
          rw [hnp, hpt] at hO
          cases hr : rdCrowd t S p R K D se sn so lo he with
          | inl e =>
            obtain ⟨e1, e2⟩ := e
            rw [hr] at hpost hO
            obtain ⟨rfl, vl9, hv9, rfl⟩ := hpost
            refine mr_w (wput_all _ _ 13 rfl rfl) ?_
            refine mr_iret C dX4_readPart_63 rfl rfl (by decide) (by decide) hlen ?_
            rw [hO]
            exact And.intro rfl ⟨vl9, hv9, rfl⟩
          | inr e =>
            obtain ⟨e1, e2⟩ := e
            rw [hr] at hpost hO
            obtain ⟨rfl, vl9, hv9, rfl⟩ := hpost
            refine mr_w (wput_all _ _ 13 rfl rfl) ?_
            refine mr_iret C dX4_readPart_63 rfl rfl (by decide) (by decide) hlen ?_
            rw [hO]
            exact And.intro rfl ⟨vl9, hv9, rfl⟩
        · rw [← Ne, bP_ne] at c_41
          have hw1 : isW t S p 1 := c_41
          refine mr_aload_n C 45 dX4_readPart_44 rfl rfl ?_
          refine mr_iconst C (nI 1) 46 dX4_readPart_45 rfl rfl ?_
          refine mr_put C 0 49 dX4_readPart_46 rfl fs_X4_25 rfl rfl rfl (Nat.le_of_ble_eq_true rfl) ?_
          refine mr_aload_n C 50 dX4_readPart_49 rfl rfl ?_
          refine mr_callV C (c_readDoor E a b b2 b3 (nI 1) fn t S p R K D vl se sn be so lo he inn al go gn gu gr hS hp hv hR hK hD) [0, 1, 2, 3, 4, 5, 6, 7, 8, 9, 10, 11, 12] 0 4 53 dX4_readPart_50 rfl mk_X4_readDoor mi_X4_readDoor ml_X4_55 rfl rfl rfl rfl rfl (Nat.le_of_ble_eq_true rfl) (by decide) (by decide) (by decide) rfl rfl (fun r w1 hpost => ?_)
          have hnp : nptS t S p P = 1 := (ifP_f hn0).trans (ifP_t ⟨by omega, hw1⟩)
          have hpt : rdPart t S p P R K D se sn so lo he = rdDoor t S p R K D se sn so lo he := (if_neg (by omega)).trans (if_pos hnp)
          rw [hnp, hpt] at hO
          cases hr : rdDoor t S p R K D se sn so lo he with
          | inl e =>
            obtain ⟨e1, e2⟩ := e
            rw [hr] at hpost hO
            obtain ⟨rfl, vl9, hv9, rfl⟩ := hpost
            refine mr_w (wput_all _ _ 13 rfl rfl) ?_
            refine mr_iret C dX4_readPart_53 rfl rfl (by decide) (by decide) hlen ?_
            rw [hO]
            exact And.intro rfl ⟨vl9, hv9, rfl⟩
          | inr e =>
            obtain ⟨e1, e2⟩ := e
            rw [hr] at hpost hO
            obtain ⟨rfl, vl9, hv9, rfl⟩ := hpost
            refine mr_w (wput_all _ _ 13 rfl rfl) ?_
            refine mr_iret C dX4_readPart_53 rfl rfl (by decide) (by decide) hlen ?_
            rw [hO]
            exact And.intro rfl ⟨vl9, hv9, rfl⟩
    · rw [← Ne, bP_ne] at c_16
      have hw0 : isW t S p 0 := c_16
      refine mr_aload_n C 20 dX4_readPart_19 rfl rfl ?_
      refine mr_callV C (c_readRoom E a b b2 b3 (nI P) fn t S p R K D vl se sn be so lo he inn al go gn gu gr hS hp hv hR hK hD) [0, 1, 2, 3, 4, 5, 6, 7, 8, 9, 10, 11, 12] 0 4 23 dX4_readPart_20 rfl mk_X4_readRoom mi_X4_readRoom ml_X4_37 rfl rfl rfl rfl rfl (Nat.le_of_ble_eq_true rfl) (by decide) (by decide) (by decide) rfl rfl (fun r w1 hpost => ?_)
      have hnp : nptS t S p P = 0 := ifP_t ⟨hP0, hw0⟩
      have hpt : rdPart t S p P R K D se sn so lo he = rdRoom t S p R K D se sn so lo he := if_pos hnp
      rw [hnp, hpt] at hO
      cases hr : rdRoom t S p R K D se sn so lo he with
      | inl e =>
        obtain ⟨e1, e2⟩ := e
        rw [hr] at hpost hO
        obtain ⟨rfl, vl9, hv9, rfl⟩ := hpost
        refine mr_w (wput_all _ _ 13 rfl rfl) ?_
        refine mr_iret C dX4_readPart_23 rfl rfl (by decide) (by decide) hlen ?_
        rw [hO]
        exact And.intro rfl ⟨vl9, hv9, (by rw [hP0])⟩
      | inr e =>
        obtain ⟨e1, e2⟩ := e
        rw [hr] at hpost hO
        obtain ⟨rfl, vl9, hv9, rfl⟩ := hpost
        refine mr_w (wput_all _ _ 13 rfl rfl) ?_
        refine mr_iret C dX4_readPart_23 rfl rfl (by decide) (by decide) hlen ?_
        rw [hO]
        exact And.intro rfl ⟨vl9, hv9, (by rw [hP0])⟩

