/-! the class' calls: the tape, bells, doors, heads, undoing -/
/-- what was ahead of an act is kept: the rows of acts -/
abbrev ACT : Type := FN × Nat × Nat
def keepS (y : ACT) (sn be lo he : FN) (G : Nat) : ACT := (kpPut y.1 y.2.2 sn be lo he (nI G), min (y.2.1 + 1) 24, if y.2.2 + 1 < 24 then y.2.2 + 1 else 0)
/-- one bell, behind it the next -/
def BellS (R K : Nat) (sn so he : FN) (G : Nat) (be lo : FN) (v : Int32) (G' : Nat) (be' lo' : FN) : Prop :=
  v = wentS (lN_ lo) (rg1 (nI 0) 0 R K sn so he (G, be, lN_ lo)).2.2 K ∧ G' = G + 1 ∧ (∀ r, r < 6 → be' r = (rg1 (nI 0) 0 R K sn so he (G, be, lN_ lo)).2.1 r) ∧ ∀ c, c < K → lo' c = nI ((rg1 (nI 0) 0 R K sn so he (G, be, lN_ lo)).2.2 c)
noncomputable def NxFeed (w : Int64) (n : Int32) (t : FN) (S : Nat) (v : Int32) (t' : FN) (S' : Nat) : Prop :=
  ifP (1 ≤ n.toInt ∧ n.toInt ≤ 8) (ifP (S + n.toInt ≤ 400) (v = nI S' ∧ S' = S + iN n ∧ (∀ j, j < S → t' j = t j) ∧ ∀ j, j < iN n → t' (S + j) = byS w (iN n - 1 - j)) (v = -1000003 ∧ t' = t ∧ S' = S)) (v = -1000001 ∧ t' = t ∧ S' = S)
noncomputable def NxBell (R K : Nat) (sn so he : FN) (G : Nat) (be lo : FN) (y : ACT) (v : Int32) (G' : Nat) (be' lo' : FN) (y' : ACT) : Prop :=
  ifP (R = 0) (v = -1000002 ∧ G' = G ∧ be' = be ∧ lo' = lo ∧ y' = y) (ifP (9999 ≤ G) (v = -1000003 ∧ G' = G ∧ be' = be ∧ lo' = lo ∧ y' = y) (BellS R K sn so he G be lo v G' be' lo' ∧ y' = keepS y sn be lo he G))
noncomputable def NxDoor (a b x : Int32) (R : Nat) (sn be lo he : FN) (G : Nat) (y : ACT) (v : Int32) (sn' : FN) (y' : ACT) : Prop :=
  ifP (0 ≤ a.toInt ∧ a.toInt < R ∧ 0 ≤ b.toInt ∧ b.toInt < R ∧ a.toInt ≠ b.toInt ∧ 0 ≤ x.toInt ∧ x.toInt ≤ 1) (v = (sn (iN a) >>> (nI (iN b) &&& 31)) &&& nI 1 ∧ sn' = drS sn (iN a) (iN b) x ∧ y' = keepS y sn be lo he G) (v = -1000001 ∧ sn' = sn ∧ y' = y)
noncomputable def NxHeads (c n : Int32) (K : Nat) (sn be lo he : FN) (G : Nat) (y : ACT) (v : Int32) (he' : FN) (y' : ACT) : Prop :=
  ifP (0 ≤ c.toInt ∧ c.toInt < K ∧ 1 ≤ n.toInt ∧ n.toInt ≤ 99) (v = he (iN c) ∧ he' = upd he (iN c) n ∧ y' = keepS y sn be lo he G) (v = -1000001 ∧ he' = he ∧ y' = y)
/-- the slot of the latest act -/
def lastS (x : Nat) : Nat := if 0 < x then x - 1 else 23
noncomputable def NxUndo (sn be lo he : FN) (G : Nat) (y : ACT) (v : Int32) (sn' be' lo' he' : FN) (G' : Nat) (y' : ACT) : Prop :=
  ifP (y.2.1 = 0) (v = -1000002 ∧ sn' = sn ∧ be' = be ∧ lo' = lo ∧ he' = he ∧ G' = G ∧ y' = y)
    (v = nI (y.2.1 - 1) ∧ y' = (y.1, y.2.1 - 1, lastS y.2.2) ∧ (∀ j, j < 6 → sn' j = y.1 (lastS y.2.2 * 23 + j)) ∧ (∀ j, j < 6 → be' j = y.1 (lastS y.2.2 * 23 + 6 + j)) ∧ (∀ j, j < 5 → lo' j = y.1 (lastS y.2.2 * 23 + 12 + j)) ∧ (∀ j, j < 5 → he' j = y.1 (lastS y.2.2 * 23 + 17 + j)) ∧ G' ≤ 9999 ∧ nI G' = y.1 (lastS y.2.2 * 23 + 22))
set_option maxRecDepth 20000 in
set_option maxHeartbeats 4000000 in
theorem c_x_feed (E : EG) (a : Nat → Nat) (fn fd : Int32) (it : Nat → FN) (th ln sz t : FN) (S : Nat) (tI rI : FN) (pF : Nat → FN) (pI se sn be so lo he n1 n2 n3 : FN) (R K G : Nat) (iF : Nat → Nat → FN) (iR iK iG : Nat → Nat) (iu ig kp : FN) (h x : Nat) (uI : FN) (cF : Nat → FN) (cI : FN) (cg : Nat) (fi sr : FN) (s : TRC) (w : Int64) (n0 : Int32) (hS : S ≤ 400) : Ctr E mX7_feed (4, 0, 0) [.ref (a 0), .long w, .int n0] (wX E a fn fd it th ln sz t S tI rI pF pI se sn be so lo he n1 n2 n3 R K G iF iR iK iG iu ig kp h x uI cF cI cg fi sr s) (fun v w_ => ∃ (v' : Int32) (t' : FN) (S' : Nat), v = some (.int v') ∧ w_ = wX E a fn fd it th ln sz t' S' tI rI pF pI se sn be so lo he n1 n2 n3 R K G iF iR iK iG iu ig kp h x uI cF cI cg fi sr s ∧ NxFeed w n0 t S v' t' S') := by
  refine Ctr.of (by decide) (Nat.le_of_ble_eq_true rfl) ?_
  intro Z hO hn C
  have hlen : zn Z ≤ 79 := by rw [hn]; exact Nat.le_of_ble_eq_true rfl
  refine mr_iload_n C 1 dX7_feed_0 rfl rfl ?_
  refine mr_iconst C (nI 1) 2 dX7_feed_1 rfl rfl ?_
  refine mr_icmplt C 11 5 dX7_feed_2 (by decide) rfl (fun c_2 => ?_) (fun c_2 => ?_)
  · rw [tI_lt (by omega)] at c_2
    refine mr_ldc C 13 dX7_feed_11 rfl kc_X7_70 ?_
    refine mr_iret C dX7_feed_13 rfl rfl (by decide) (by decide) hlen ?_
    rw [hO]
    exact ⟨_, _, _, rfl, rfl, (ifP_f (by omega)).mpr ⟨rfl, rfl, rfl⟩⟩
  · rw [tI_lt (by omega)] at c_2
    refine mr_iload_n C 6 dX7_feed_5 rfl rfl ?_
    refine mr_bipush C (nI 8) 8 dX7_feed_6 rfl rfl ?_
    refine mr_icmple C 14 11 dX7_feed_8 (by decide) rfl (fun c_8 => ?_) (fun c_8 => ?_)
    · rw [tI_le (by omega)] at c_8
      refine mr_iload_n C 15 dX7_feed_14 rfl rfl ?_
      refine mr_sipush C (nI 400) 18 dX7_feed_15 rfl rfl ?_
      refine mr_aload_n C 19 dX7_feed_18 rfl rfl ?_
      refine mr_get C 0 22 dX7_feed_19 rfl fl_X7_18 rfl rfl ?_
      refine mr_get C 18 25 dX7_feed_22 rfl fl_X7_111 rfl rfl ?_
      refine mr_isub C (nI (400 - S)) 26 dX7_feed_25 rfl (pk_sub (by omega)) ?_
      refine mr_icmple C 32 29 dX7_feed_26 (by decide) rfl (fun c_26 => ?_) (fun c_26 => ?_)
      · rw [tI_le (by omega)] at c_26
        obtain ⟨n, hn9, rfl⟩ := tI_of (x := n0) (n := 9) (by omega) (by omega)
        have en : (nI n).toInt = (n : Int) := tI_n (by omega)
        have in_ : iN (nI n) = n := iN_n (by omega)
        refine mr_aload_n C 33 dX7_feed_32 rfl rfl ?_
        refine mr_get C 0 36 dX7_feed_33 rfl fl_X7_18 rfl rfl ?_
        refine mr_lload_n C 37 dX7_feed_36 rfl rfl ?_
        refine mr_iload_n C 38 dX7_feed_37 rfl rfl ?_
        refine mr_callV C (c_append E a 18 t (tI 0) (tI 1) (tI 2) (tI 3) w S n (by omega) (by omega)) [18, 19] 18 6 41 dX7_feed_38 rfl mk_X6_append mi_X6_append ml_X7_113 rfl rfl rfl (jn_cut [1, 1, 16, 2, 1, 10, 10, 1, 10, 10, 2, 1, 10, 2, 2] [3] [w0 E a fn fd, [(a 1, .inl (E.1.1 101, 8, .inr (.inr (.inr (.inr (rwA a))))))], wRS E a it th ln sz, wT E a 18 t (nI S) (tI 0) (tI 1) (tI 2) (tI 3), [(a 20, .inr (4, [.ref (a 18), .ref (a 21), .int (rI 0), .int (rI 1), .int (rI 2)]))], wH E a 21 (pF 0) (pF 1) (pF 2) (pF 3) (pF 4) (pF 5) (pF 6) (pF 7) (pF 8) (pI 0) (pI 1) (pI 2) (pI 3) (pI 4), wH E a 31 se sn be so lo he n1 n2 n3 (nI R) (nI K) (nI G) (nI 0) (nI 0), [(a 41, .inl (E.1.1 102, 2, .inr (.inr (.inr (.inr (imA a))))))], wH E a 42 (iF 0 0) (iF 0 1) (iF 0 2) (iF 0 3) (iF 0 4) (iF 0 5) (iF 0 6) (iF 0 7) (iF 0 8) (nI (iR 0)) (nI (iK 0)) (nI (iG 0)) (iu 0) (ig 0), wH E a 52 (iF 1 0) (iF 1 1) (iF 1 2) (iF 1 3) (iF 1 4) (iF 1 5) (iF 1 6) (iF 1 7) (iF 1 8) (nI (iR 1)) (nI (iK 1)) (nI (iG 1)) (iu 1) (ig 1), wA E a 62 kp (nI h) (nI x), wF E a 64 31 65 75 (uI 0) (uI 1) (uI 2), wH E a 65 (cF 0) (cF 1) (cF 2) (cF 3) (cF 4) (cF 5) (cF 6) (cF 7) (cF 8) (cI 0) (cI 1) (cI 2) (cI 3) (nI cg), [(a 75, iA E 5 fi), (a 76, iA E 5 sr)], wQ E a 77 31 s] [wT E a 18 t (nI S) (tI 0) (tI 1) (tI 2) (tI 3)] rfl (by decide) rfl rfl) rfl (Nat.le_of_ble_eq_true rfl) (by decide) (by decide) (by decide) rfl rfl (fun r w1 hpost => ?_)
        obtain ⟨f, rfl, rfl, hf1, hf2⟩ := hpost
        refine mr_w (ws' := wX E a fn fd it th ln sz f (S + n) tI rI pF pI se sn be so lo he n1 n2 n3 R K G iF iR iK iG iu ig kp h x uI cF cI cg fi sr s) (jn_put [1, 1, 16, 2, 1, 10, 10, 1, 10, 10, 2, 1, 10, 2, 2] [3] [w0 E a fn fd, [(a 1, .inl (E.1.1 101, 8, .inr (.inr (.inr (.inr (rwA a))))))], wRS E a it th ln sz, wT E a 18 t (nI S) (tI 0) (tI 1) (tI 2) (tI 3), [(a 20, .inr (4, [.ref (a 18), .ref (a 21), .int (rI 0), .int (rI 1), .int (rI 2)]))], wH E a 21 (pF 0) (pF 1) (pF 2) (pF 3) (pF 4) (pF 5) (pF 6) (pF 7) (pF 8) (pI 0) (pI 1) (pI 2) (pI 3) (pI 4), wH E a 31 se sn be so lo he n1 n2 n3 (nI R) (nI K) (nI G) (nI 0) (nI 0), [(a 41, .inl (E.1.1 102, 2, .inr (.inr (.inr (.inr (imA a))))))], wH E a 42 (iF 0 0) (iF 0 1) (iF 0 2) (iF 0 3) (iF 0 4) (iF 0 5) (iF 0 6) (iF 0 7) (iF 0 8) (nI (iR 0)) (nI (iK 0)) (nI (iG 0)) (iu 0) (ig 0), wH E a 52 (iF 1 0) (iF 1 1) (iF 1 2) (iF 1 3) (iF 1 4) (iF 1 5) (iF 1 6) (iF 1 7) (iF 1 8) (nI (iR 1)) (nI (iK 1)) (nI (iG 1)) (iu 1) (ig 1), wA E a 62 kp (nI h) (nI x), wF E a 64 31 65 75 (uI 0) (uI 1) (uI 2), wH E a 65 (cF 0) (cF 1) (cF 2) (cF 3) (cF 4) (cF 5) (cF 6) (cF 7) (cF 8) (cI 0) (cI 1) (cI 2) (cI 3) (nI cg), [(a 75, iA E 5 fi), (a 76, iA E 5 sr)], wQ E a 77 31 s] [wT E a 18 f (nI (S + n)) (tI 0) (tI 1) (tI 2) (tI 3)] [w0 E a fn fd, [(a 1, .inl (E.1.1 101, 8, .inr (.inr (.inr (.inr (rwA a))))))], wRS E a it th ln sz, wT E a 18 f (nI (S + n)) (tI 0) (tI 1) (tI 2) (tI 3), [(a 20, .inr (4, [.ref (a 18), .ref (a 21), .int (rI 0), .int (rI 1), .int (rI 2)]))], wH E a 21 (pF 0) (pF 1) (pF 2) (pF 3) (pF 4) (pF 5) (pF 6) (pF 7) (pF 8) (pI 0) (pI 1) (pI 2) (pI 3) (pI 4), wH E a 31 se sn be so lo he n1 n2 n3 (nI R) (nI K) (nI G) (nI 0) (nI 0), [(a 41, .inl (E.1.1 102, 2, .inr (.inr (.inr (.inr (imA a))))))], wH E a 42 (iF 0 0) (iF 0 1) (iF 0 2) (iF 0 3) (iF 0 4) (iF 0 5) (iF 0 6) (iF 0 7) (iF 0 8) (nI (iR 0)) (nI (iK 0)) (nI (iG 0)) (iu 0) (ig 0), wH E a 52 (iF 1 0) (iF 1 1) (iF 1 2) (iF 1 3) (iF 1 4) (iF 1 5) (iF 1 6) (iF 1 7) (iF 1 8) (nI (iR 1)) (nI (iK 1)) (nI (iG 1)) (iu 1) (ig 1), wA E a 62 kp (nI h) (nI x), wF E a 64 31 65 75 (uI 0) (uI 1) (uI 2), wH E a 65 (cF 0) (cF 1) (cF 2) (cF 3) (cF 4) (cF 5) (cF 6) (cF 7) (cF 8) (cI 0) (cI 1) (cI 2) (cI 3) (nI cg), [(a 75, iA E 5 fi), (a 76, iA E 5 sr)], wQ E a 77 31 s] rfl (by decide) rfl rfl rfl) ?_
        refine mr_aload_n C 42 dX7_feed_41 rfl rfl ?_
        refine mr_get C 0 45 dX7_feed_42 rfl fl_X7_18 rfl rfl ?_
        refine mr_get C 18 48 dX7_feed_45 rfl fl_X7_111 rfl rfl ?_
        refine mr_iret C dX7_feed_48 rfl rfl (by decide) (by decide) hlen ?_
        rw [hO]
        exact ⟨_, _, _, rfl, rfl, (ifP_t (by omega)).mpr ((ifP_t (by omega)).mpr ⟨rfl, by rw [in_], hf1, by rw [in_]; exact hf2⟩)⟩
      · rw [tI_le (by omega)] at c_26
        refine mr_ldc C 31 dX7_feed_29 rfl kc_X7_112 ?_
        refine mr_iret C dX7_feed_31 rfl rfl (by decide) (by decide) hlen ?_
        rw [hO]
        exact ⟨_, _, _, rfl, rfl, (ifP_t (by omega)).mpr ((ifP_f (by omega)).mpr ⟨rfl, rfl, rfl⟩)⟩
    · rw [tI_le (by omega)] at c_8
      refine mr_ldc C 13 dX7_feed_11 rfl kc_X7_70 ?_
      refine mr_iret C dX7_feed_13 rfl rfl (by decide) (by decide) hlen ?_
      rw [hO]
      exact ⟨_, _, _, rfl, rfl, (ifP_f (by omega)).mpr ⟨rfl, rfl, rfl⟩⟩

set_option maxRecDepth 20000 in
set_option maxHeartbeats 4000000 in
theorem c_x_bell (E : EG) (a : Nat → Nat) (fn fd : Int32) (it : Nat → FN) (th ln sz t : FN) (S : Nat) (tI rI : FN) (pF : Nat → FN) (pI se sn be so lo he n1 n2 n3 : FN) (R K G : Nat) (iF : Nat → Nat → FN) (iR iK iG : Nat → Nat) (iu ig kp : FN) (h x : Nat) (uI : FN) (cF : Nat → FN) (cI : FN) (cg : Nat) (fi sr : FN) (s : TRC)  (hR : R ≤ 6) (hK : K ≤ 5) (hG : G ≤ 9999) (hl : ∀ c, c < K → lo c = nI (lN_ lo c) ∧ lN_ lo c < R) (hh : h ≤ 24) (hx : x < 24) : Ctr E mX7_bell (4, 0, 0) [.ref (a 0)] (wX E a fn fd it th ln sz t S tI rI pF pI se sn be so lo he n1 n2 n3 R K G iF iR iK iG iu ig kp h x uI cF cI cg fi sr s) (fun v w => ∃ (v' : Int32) (G' : Nat) (be' lo' n1' n2' n3' : FN) (y' : ACT), v = some (.int v') ∧ w = wX E a fn fd it th ln sz t S tI rI pF pI se sn be' so lo' he n1' n2' n3' R K G' iF iR iK iG iu ig y'.1 y'.2.1 y'.2.2 uI cF cI cg fi sr s ∧ NxBell R K sn so he G be lo (kp, h, x) v' G' be' lo' y') := by
  refine Ctr.of (by decide) (Nat.le_of_ble_eq_true rfl) ?_
  intro Z hO hn C
  have hlen : zn Z ≤ 79 := by rw [hn]; exact Nat.le_of_ble_eq_true rfl
  refine mr_aload_n C 1 dX7_bell_0 rfl rfl ?_
  refine mr_get C 0 4 dX7_bell_1 rfl fl_X7_34 rfl rfl ?_
  refine mr_get C 31 7 dX7_bell_4 rfl fl_X7_138 rfl rfl ?_
  refine mr_ifne C 13 10 dX7_bell_7 (by decide) rfl (fun c_7 => ?_) (fun c_7 => ?_)
  · have c_7 : ¬ R = 0 := fun h => c_7 (by rw [h]; rfl)
    refine mr_aload_n C 14 dX7_bell_13 rfl rfl ?_
    refine mr_get C 0 17 dX7_bell_14 rfl fl_X7_34 rfl rfl ?_
    refine mr_get C 31 20 dX7_bell_17 rfl fl_X7_142 rfl rfl ?_
    refine mr_sipush C (nI 9999) 23 dX7_bell_20 rfl rfl ?_
    refine mr_icmplt C 29 26 dX7_bell_23 (by decide) rfl (fun c_23 => ?_) (fun c_23 => ?_)
    · rw [nI_ltI (by omega) (by omega)] at c_23
      refine mr_aload_n C 30 dX7_bell_29 rfl rfl ?_
      refine mr_get C 0 33 dX7_bell_30 rfl fl_X7_45 rfl rfl ?_
      refine mr_aload_n C 34 dX7_bell_33 rfl rfl ?_
      refine mr_get C 0 37 dX7_bell_34 rfl fl_X7_34 rfl rfl ?_
      refine mr_callV C (c_keep E a 62 31 kp x h se sn be so lo he n1 n2 n3 (nI R) (nI K) (nI G) (nI 0) (nI 0) (by omega) (by omega)) [62, 63, 31, 32, 33, 34, 35, 36, 37, 38, 39, 40] 62 0 40 dX7_bell_37 rfl mk_X0_keep mi_X0_keep ml_X7_145 rfl rfl rfl (jn_cut [1, 1, 16, 2, 1, 10, 10, 1, 10, 10, 2, 1, 10, 2, 2] [10, 6] [w0 E a fn fd, [(a 1, .inl (E.1.1 101, 8, .inr (.inr (.inr (.inr (rwA a))))))], wRS E a it th ln sz, wT E a 18 t (nI S) (tI 0) (tI 1) (tI 2) (tI 3), [(a 20, .inr (4, [.ref (a 18), .ref (a 21), .int (rI 0), .int (rI 1), .int (rI 2)]))], wH E a 21 (pF 0) (pF 1) (pF 2) (pF 3) (pF 4) (pF 5) (pF 6) (pF 7) (pF 8) (pI 0) (pI 1) (pI 2) (pI 3) (pI 4), wH E a 31 se sn be so lo he n1 n2 n3 (nI R) (nI K) (nI G) (nI 0) (nI 0), [(a 41, .inl (E.1.1 102, 2, .inr (.inr (.inr (.inr (imA a))))))], wH E a 42 (iF 0 0) (iF 0 1) (iF 0 2) (iF 0 3) (iF 0 4) (iF 0 5) (iF 0 6) (iF 0 7) (iF 0 8) (nI (iR 0)) (nI (iK 0)) (nI (iG 0)) (iu 0) (ig 0), wH E a 52 (iF 1 0) (iF 1 1) (iF 1 2) (iF 1 3) (iF 1 4) (iF 1 5) (iF 1 6) (iF 1 7) (iF 1 8) (nI (iR 1)) (nI (iK 1)) (nI (iG 1)) (iu 1) (ig 1), wA E a 62 kp (nI h) (nI x), wF E a 64 31 65 75 (uI 0) (uI 1) (uI 2), wH E a 65 (cF 0) (cF 1) (cF 2) (cF 3) (cF 4) (cF 5) (cF 6) (cF 7) (cF 8) (cI 0) (cI 1) (cI 2) (cI 3) (nI cg), [(a 75, iA E 5 fi), (a 76, iA E 5 sr)], wQ E a 77 31 s] [wA E a 62 kp (nI h) (nI x), wH E a 31 se sn be so lo he n1 n2 n3 (nI R) (nI K) (nI G) (nI 0) (nI 0)] rfl (by decide) rfl rfl) rfl (Nat.le_of_ble_eq_true rfl) (by decide) (by decide) (by decide) rfl rfl (fun r w1 hpost => ?_)
      obtain ⟨rfl, rfl⟩ := hpost
      refine mr_w (ws' := wX E a fn fd it th ln sz t S tI rI pF pI se sn be so lo he n1 n2 n3 R K G iF iR iK iG iu ig (kpPut kp x sn be lo he (nI G)) (min (h + 1) 24) (if x + 1 < 24 then x + 1 else 0) uI cF cI cg fi sr s) (jn_put [1, 1, 16, 2, 1, 10, 10, 1, 10, 10, 2, 1, 10, 2, 2] [10, 6] [w0 E a fn fd, [(a 1, .inl (E.1.1 101, 8, .inr (.inr (.inr (.inr (rwA a))))))], wRS E a it th ln sz, wT E a 18 t (nI S) (tI 0) (tI 1) (tI 2) (tI 3), [(a 20, .inr (4, [.ref (a 18), .ref (a 21), .int (rI 0), .int (rI 1), .int (rI 2)]))], wH E a 21 (pF 0) (pF 1) (pF 2) (pF 3) (pF 4) (pF 5) (pF 6) (pF 7) (pF 8) (pI 0) (pI 1) (pI 2) (pI 3) (pI 4), wH E a 31 se sn be so lo he n1 n2 n3 (nI R) (nI K) (nI G) (nI 0) (nI 0), [(a 41, .inl (E.1.1 102, 2, .inr (.inr (.inr (.inr (imA a))))))], wH E a 42 (iF 0 0) (iF 0 1) (iF 0 2) (iF 0 3) (iF 0 4) (iF 0 5) (iF 0 6) (iF 0 7) (iF 0 8) (nI (iR 0)) (nI (iK 0)) (nI (iG 0)) (iu 0) (ig 0), wH E a 52 (iF 1 0) (iF 1 1) (iF 1 2) (iF 1 3) (iF 1 4) (iF 1 5) (iF 1 6) (iF 1 7) (iF 1 8) (nI (iR 1)) (nI (iK 1)) (nI (iG 1)) (iu 1) (ig 1), wA E a 62 kp (nI h) (nI x), wF E a 64 31 65 75 (uI 0) (uI 1) (uI 2), wH E a 65 (cF 0) (cF 1) (cF 2) (cF 3) (cF 4) (cF 5) (cF 6) (cF 7) (cF 8) (cI 0) (cI 1) (cI 2) (cI 3) (nI cg), [(a 75, iA E 5 fi), (a 76, iA E 5 sr)], wQ E a 77 31 s] [wA E a 62 (kpPut kp x sn be lo he (nI G)) (nI (min (h + 1) 24)) (nI (if x + 1 < 24 then x + 1 else 0)), wH E a 31 se sn be so lo he n1 n2 n3 (nI R) (nI K) (nI G) (nI 0) (nI 0)] [w0 E a fn fd, [(a 1, .inl (E.1.1 101, 8, .inr (.inr (.inr (.inr (rwA a))))))], wRS E a it th ln sz, wT E a 18 t (nI S) (tI 0) (tI 1) (tI 2) (tI 3), [(a 20, .inr (4, [.ref (a 18), .ref (a 21), .int (rI 0), .int (rI 1), .int (rI 2)]))], wH E a 21 (pF 0) (pF 1) (pF 2) (pF 3) (pF 4) (pF 5) (pF 6) (pF 7) (pF 8) (pI 0) (pI 1) (pI 2) (pI 3) (pI 4), wH E a 31 se sn be so lo he n1 n2 n3 (nI R) (nI K) (nI G) (nI 0) (nI 0), [(a 41, .inl (E.1.1 102, 2, .inr (.inr (.inr (.inr (imA a))))))], wH E a 42 (iF 0 0) (iF 0 1) (iF 0 2) (iF 0 3) (iF 0 4) (iF 0 5) (iF 0 6) (iF 0 7) (iF 0 8) (nI (iR 0)) (nI (iK 0)) (nI (iG 0)) (iu 0) (ig 0), wH E a 52 (iF 1 0) (iF 1 1) (iF 1 2) (iF 1 3) (iF 1 4) (iF 1 5) (iF 1 6) (iF 1 7) (iF 1 8) (nI (iR 1)) (nI (iK 1)) (nI (iG 1)) (iu 1) (ig 1), wA E a 62 (kpPut kp x sn be lo he (nI G)) (nI (min (h + 1) 24)) (nI (if x + 1 < 24 then x + 1 else 0)), wF E a 64 31 65 75 (uI 0) (uI 1) (uI 2), wH E a 65 (cF 0) (cF 1) (cF 2) (cF 3) (cF 4) (cF 5) (cF 6) (cF 7) (cF 8) (cI 0) (cI 1) (cI 2) (cI 3) (nI cg), [(a 75, iA E 5 fi), (a 76, iA E 5 sr)], wQ E a 77 31 s] rfl (by decide) rfl rfl rfl) ?_
      refine mr_aload_n C 41 dX7_bell_40 rfl rfl ?_
      refine mr_get C 0 44 dX7_bell_41 rfl fl_X7_34 rfl rfl ?_
      refine mr_callV C (c_ring E a 31 se sn be so lo he n1 n2 n3 (nI 0) R K G 0 (lN_ lo) hR hK (by omega) (by decide) (fun c hc => ⟨(hl c hc).1, Nat.lt_of_lt_of_le (hl c hc).2 hR⟩)) [31, 32, 33, 34, 35, 36, 37, 38, 39, 40] 31 3 47 dX7_bell_44 rfl mk_X3_ring mi_X3_ring ml_X7_148 rfl rfl rfl (jn_cut [1, 1, 16, 2, 1, 10, 10, 1, 10, 10, 2, 1, 10, 2, 2] [6] [w0 E a fn fd, [(a 1, .inl (E.1.1 101, 8, .inr (.inr (.inr (.inr (rwA a))))))], wRS E a it th ln sz, wT E a 18 t (nI S) (tI 0) (tI 1) (tI 2) (tI 3), [(a 20, .inr (4, [.ref (a 18), .ref (a 21), .int (rI 0), .int (rI 1), .int (rI 2)]))], wH E a 21 (pF 0) (pF 1) (pF 2) (pF 3) (pF 4) (pF 5) (pF 6) (pF 7) (pF 8) (pI 0) (pI 1) (pI 2) (pI 3) (pI 4), wH E a 31 se sn be so lo he n1 n2 n3 (nI R) (nI K) (nI G) (nI 0) (nI 0), [(a 41, .inl (E.1.1 102, 2, .inr (.inr (.inr (.inr (imA a))))))], wH E a 42 (iF 0 0) (iF 0 1) (iF 0 2) (iF 0 3) (iF 0 4) (iF 0 5) (iF 0 6) (iF 0 7) (iF 0 8) (nI (iR 0)) (nI (iK 0)) (nI (iG 0)) (iu 0) (ig 0), wH E a 52 (iF 1 0) (iF 1 1) (iF 1 2) (iF 1 3) (iF 1 4) (iF 1 5) (iF 1 6) (iF 1 7) (iF 1 8) (nI (iR 1)) (nI (iK 1)) (nI (iG 1)) (iu 1) (ig 1), wA E a 62 ((kpPut kp x sn be lo he (nI G))) (nI ((min (h + 1) 24))) (nI ((if x + 1 < 24 then x + 1 else 0))), wF E a 64 31 65 75 (uI 0) (uI 1) (uI 2), wH E a 65 (cF 0) (cF 1) (cF 2) (cF 3) (cF 4) (cF 5) (cF 6) (cF 7) (cF 8) (cI 0) (cI 1) (cI 2) (cI 3) (nI cg), [(a 75, iA E 5 fi), (a 76, iA E 5 sr)], wQ E a 77 31 s] [wH E a 31 se sn be so lo he n1 n2 n3 (nI R) (nI K) (nI G) (nI 0) (nI 0)] rfl (by decide) rfl rfl) rfl (Nat.le_of_ble_eq_true rfl) (by decide) (by decide) (by decide) rfl rfl (fun r w1 hpost => ?_)
      obtain ⟨be1, lo1, k1, k2, k3, rfl, rfl, hb1, hl1⟩ := hpost
      refine mr_w (ws' := wX E a fn fd it th ln sz t S tI rI pF pI se sn be1 so lo1 he k1 k2 k3 R K (G + 1) iF iR iK iG iu ig (kpPut kp x sn be lo he (nI G)) (min (h + 1) 24) (if x + 1 < 24 then x + 1 else 0) uI cF cI cg fi sr s) (jn_put [1, 1, 16, 2, 1, 10, 10, 1, 10, 10, 2, 1, 10, 2, 2] [6] [w0 E a fn fd, [(a 1, .inl (E.1.1 101, 8, .inr (.inr (.inr (.inr (rwA a))))))], wRS E a it th ln sz, wT E a 18 t (nI S) (tI 0) (tI 1) (tI 2) (tI 3), [(a 20, .inr (4, [.ref (a 18), .ref (a 21), .int (rI 0), .int (rI 1), .int (rI 2)]))], wH E a 21 (pF 0) (pF 1) (pF 2) (pF 3) (pF 4) (pF 5) (pF 6) (pF 7) (pF 8) (pI 0) (pI 1) (pI 2) (pI 3) (pI 4), wH E a 31 se sn be so lo he n1 n2 n3 (nI R) (nI K) (nI G) (nI 0) (nI 0), [(a 41, .inl (E.1.1 102, 2, .inr (.inr (.inr (.inr (imA a))))))], wH E a 42 (iF 0 0) (iF 0 1) (iF 0 2) (iF 0 3) (iF 0 4) (iF 0 5) (iF 0 6) (iF 0 7) (iF 0 8) (nI (iR 0)) (nI (iK 0)) (nI (iG 0)) (iu 0) (ig 0), wH E a 52 (iF 1 0) (iF 1 1) (iF 1 2) (iF 1 3) (iF 1 4) (iF 1 5) (iF 1 6) (iF 1 7) (iF 1 8) (nI (iR 1)) (nI (iK 1)) (nI (iG 1)) (iu 1) (ig 1), wA E a 62 ((kpPut kp x sn be lo he (nI G))) (nI ((min (h + 1) 24))) (nI ((if x + 1 < 24 then x + 1 else 0))), wF E a 64 31 65 75 (uI 0) (uI 1) (uI 2), wH E a 65 (cF 0) (cF 1) (cF 2) (cF 3) (cF 4) (cF 5) (cF 6) (cF 7) (cF 8) (cI 0) (cI 1) (cI 2) (cI 3) (nI cg), [(a 75, iA E 5 fi), (a 76, iA E 5 sr)], wQ E a 77 31 s] [wH E a 31 se sn be1 so lo1 he k1 k2 k3 (nI R) (nI K) (nI (G + 1)) (nI 0) (nI 0)] [w0 E a fn fd, [(a 1, .inl (E.1.1 101, 8, .inr (.inr (.inr (.inr (rwA a))))))], wRS E a it th ln sz, wT E a 18 t (nI S) (tI 0) (tI 1) (tI 2) (tI 3), [(a 20, .inr (4, [.ref (a 18), .ref (a 21), .int (rI 0), .int (rI 1), .int (rI 2)]))], wH E a 21 (pF 0) (pF 1) (pF 2) (pF 3) (pF 4) (pF 5) (pF 6) (pF 7) (pF 8) (pI 0) (pI 1) (pI 2) (pI 3) (pI 4), wH E a 31 se sn be1 so lo1 he k1 k2 k3 (nI R) (nI K) (nI (G + 1)) (nI 0) (nI 0), [(a 41, .inl (E.1.1 102, 2, .inr (.inr (.inr (.inr (imA a))))))], wH E a 42 (iF 0 0) (iF 0 1) (iF 0 2) (iF 0 3) (iF 0 4) (iF 0 5) (iF 0 6) (iF 0 7) (iF 0 8) (nI (iR 0)) (nI (iK 0)) (nI (iG 0)) (iu 0) (ig 0), wH E a 52 (iF 1 0) (iF 1 1) (iF 1 2) (iF 1 3) (iF 1 4) (iF 1 5) (iF 1 6) (iF 1 7) (iF 1 8) (nI (iR 1)) (nI (iK 1)) (nI (iG 1)) (iu 1) (ig 1), wA E a 62 ((kpPut kp x sn be lo he (nI G))) (nI ((min (h + 1) 24))) (nI ((if x + 1 < 24 then x + 1 else 0))), wF E a 64 31 65 75 (uI 0) (uI 1) (uI 2), wH E a 65 (cF 0) (cF 1) (cF 2) (cF 3) (cF 4) (cF 5) (cF 6) (cF 7) (cF 8) (cI 0) (cI 1) (cI 2) (cI 3) (nI cg), [(a 75, iA E 5 fi), (a 76, iA E 5 sr)], wQ E a 77 31 s] rfl (by decide) rfl rfl rfl) ?_
      refine mr_iret C dX7_bell_47 rfl rfl (by decide) (by decide) hlen ?_
      rw [hO]
      exact ⟨_, G + 1, be1, lo1, k1, k2, k3, keepS (kp, h, x) sn be lo he G, rfl, rfl, (ifP_f c_7).mpr ((ifP_f (by omega)).mpr ⟨⟨rfl, rfl, hb1, hl1⟩, rfl⟩)⟩
    · rw [nI_ltI (by omega) (by omega)] at c_23
      refine mr_ldc C 28 dX7_bell_26 rfl kc_X7_112 ?_
      refine mr_iret C dX7_bell_28 rfl rfl (by decide) (by decide) hlen ?_
      rw [hO]
      exact ⟨_, G, be, lo, n1, n2, n3, (kp, h, x), rfl, rfl, (ifP_f c_7).mpr ((ifP_t (by omega)).mpr ⟨rfl, rfl, rfl, rfl, rfl⟩)⟩
  · have c_7 : R = 0 := (nI_eq (b := 0) (by omega) (by omega)).mp c_7
    refine mr_ldc C 12 dX7_bell_10 rfl kc_X7_141 ?_
    refine mr_iret C dX7_bell_12 rfl rfl (by decide) (by decide) hlen ?_
    rw [hO]
    exact ⟨_, G, be, lo, n1, n2, n3, (kp, h, x), rfl, rfl, (ifP_t c_7).mpr ⟨rfl, rfl, rfl, rfl, rfl⟩⟩

set_option maxRecDepth 20000 in
set_option maxHeartbeats 4000000 in
theorem c_x_door (E : EG) (a : Nat → Nat) (fn fd : Int32) (it : Nat → FN) (th ln sz t : FN) (S : Nat) (tI rI : FN) (pF : Nat → FN) (pI se sn be so lo he n1 n2 n3 : FN) (R K G : Nat) (iF : Nat → Nat → FN) (iR iK iG : Nat → Nat) (iu ig kp : FN) (h x : Nat) (uI : FN) (cF : Nat → FN) (cI : FN) (cg : Nat) (fi sr : FN) (s : TRC) (r0 u0 z0 : Int32) (hR : R ≤ 6) (hh : h ≤ 24) (hx : x < 24) : Ctr E mX7_door (4, 0, 0) [.ref (a 0), .int r0, .int u0, .int z0] (wX E a fn fd it th ln sz t S tI rI pF pI se sn be so lo he n1 n2 n3 R K G iF iR iK iG iu ig kp h x uI cF cI cg fi sr s) (fun v w => ∃ (v' : Int32) (sn' : FN) (y' : ACT), v = some (.int v') ∧ w = wX E a fn fd it th ln sz t S tI rI pF pI se sn' be so lo he n1 n2 n3 R K G iF iR iK iG iu ig y'.1 y'.2.1 y'.2.2 uI cF cI cg fi sr s ∧ NxDoor r0 u0 z0 R sn be lo he G (kp, h, x) v' sn' y') := by
  refine Ctr.of (by decide) (Nat.le_of_ble_eq_true rfl) ?_
  intro Z hO hn C
  have hlen : zn Z ≤ 79 := by rw [hn]; exact Nat.le_of_ble_eq_true rfl
  refine mr_aload_n C 1 dX7_door_0 rfl rfl ?_
  refine mr_get C 0 4 dX7_door_1 rfl fl_X7_34 rfl rfl ?_
  refine mr_iload_n C 5 dX7_door_4 rfl rfl ?_
  refine mr_callV C (c_isRoomI E a 31 se sn be so lo he n1 n2 n3 (nI K) (nI G) (nI 0) (nI 0) R (by omega) r0) [31, 32, 33, 34, 35, 36, 37, 38, 39, 40] 31 3 8 dX7_door_5 rfl mk_X3_isRoom mi_X3_isRoom ml_X7_170 rfl rfl rfl (jn_cut [1, 1, 16, 2, 1, 10, 10, 1, 10, 10, 2, 1, 10, 2, 2] [6] [w0 E a fn fd, [(a 1, .inl (E.1.1 101, 8, .inr (.inr (.inr (.inr (rwA a))))))], wRS E a it th ln sz, wT E a 18 t (nI S) (tI 0) (tI 1) (tI 2) (tI 3), [(a 20, .inr (4, [.ref (a 18), .ref (a 21), .int (rI 0), .int (rI 1), .int (rI 2)]))], wH E a 21 (pF 0) (pF 1) (pF 2) (pF 3) (pF 4) (pF 5) (pF 6) (pF 7) (pF 8) (pI 0) (pI 1) (pI 2) (pI 3) (pI 4), wH E a 31 se sn be so lo he n1 n2 n3 (nI R) (nI K) (nI G) (nI 0) (nI 0), [(a 41, .inl (E.1.1 102, 2, .inr (.inr (.inr (.inr (imA a))))))], wH E a 42 (iF 0 0) (iF 0 1) (iF 0 2) (iF 0 3) (iF 0 4) (iF 0 5) (iF 0 6) (iF 0 7) (iF 0 8) (nI (iR 0)) (nI (iK 0)) (nI (iG 0)) (iu 0) (ig 0), wH E a 52 (iF 1 0) (iF 1 1) (iF 1 2) (iF 1 3) (iF 1 4) (iF 1 5) (iF 1 6) (iF 1 7) (iF 1 8) (nI (iR 1)) (nI (iK 1)) (nI (iG 1)) (iu 1) (ig 1), wA E a 62 kp (nI h) (nI x), wF E a 64 31 65 75 (uI 0) (uI 1) (uI 2), wH E a 65 (cF 0) (cF 1) (cF 2) (cF 3) (cF 4) (cF 5) (cF 6) (cF 7) (cF 8) (cI 0) (cI 1) (cI 2) (cI 3) (nI cg), [(a 75, iA E 5 fi), (a 76, iA E 5 sr)], wQ E a 77 31 s] [wH E a 31 se sn be so lo he n1 n2 n3 (nI R) (nI K) (nI G) (nI 0) (nI 0)] rfl (by decide) rfl rfl) rfl (Nat.le_of_ble_eq_true rfl) (by decide) (by decide) (by decide) rfl rfl (fun r w1 hpost => ?_)
  obtain ⟨rfl, rfl⟩ := hpost
  refine mr_w (wput_id (jn_cut [1, 1, 16, 2, 1, 10, 10, 1, 10, 10, 2, 1, 10, 2, 2] [6] [w0 E a fn fd, [(a 1, .inl (E.1.1 101, 8, .inr (.inr (.inr (.inr (rwA a))))))], wRS E a it th ln sz, wT E a 18 t (nI S) (tI 0) (tI 1) (tI 2) (tI 3), [(a 20, .inr (4, [.ref (a 18), .ref (a 21), .int (rI 0), .int (rI 1), .int (rI 2)]))], wH E a 21 (pF 0) (pF 1) (pF 2) (pF 3) (pF 4) (pF 5) (pF 6) (pF 7) (pF 8) (pI 0) (pI 1) (pI 2) (pI 3) (pI 4), wH E a 31 se sn be so lo he n1 n2 n3 (nI R) (nI K) (nI G) (nI 0) (nI 0), [(a 41, .inl (E.1.1 102, 2, .inr (.inr (.inr (.inr (imA a))))))], wH E a 42 (iF 0 0) (iF 0 1) (iF 0 2) (iF 0 3) (iF 0 4) (iF 0 5) (iF 0 6) (iF 0 7) (iF 0 8) (nI (iR 0)) (nI (iK 0)) (nI (iG 0)) (iu 0) (ig 0), wH E a 52 (iF 1 0) (iF 1 1) (iF 1 2) (iF 1 3) (iF 1 4) (iF 1 5) (iF 1 6) (iF 1 7) (iF 1 8) (nI (iR 1)) (nI (iK 1)) (nI (iG 1)) (iu 1) (ig 1), wA E a 62 kp (nI h) (nI x), wF E a 64 31 65 75 (uI 0) (uI 1) (uI 2), wH E a 65 (cF 0) (cF 1) (cF 2) (cF 3) (cF 4) (cF 5) (cF 6) (cF 7) (cF 8) (cI 0) (cI 1) (cI 2) (cI 3) (nI cg), [(a 75, iA E 5 fi), (a 76, iA E 5 sr)], wQ E a 77 31 s] [wH E a 31 se sn be so lo he n1 n2 n3 (nI R) (nI K) (nI G) (nI 0) (nI 0)] rfl (by decide) rfl rfl)) ?_
  refine mr_ifeq C 36 11 dX7_door_8 (by decide) rfl (fun c_8 => ?_) (fun c_8 => ?_)
  · rw [bI_eq] at c_8
    refine mr_ldc C 38 dX7_door_36 rfl kc_X7_70 ?_
    refine mr_iret C dX7_door_38 rfl rfl (by decide) (by decide) hlen ?_
    rw [hO]
    exact ⟨_, sn, (kp, h, x), rfl, rfl, (ifP_f (by omega)).mpr ⟨rfl, rfl, rfl⟩⟩
  · rw [← Ne, bI_ne] at c_8
    refine mr_aload_n C 12 dX7_door_11 rfl rfl ?_
    refine mr_get C 0 15 dX7_door_12 rfl fl_X7_34 rfl rfl ?_
    refine mr_iload_n C 16 dX7_door_15 rfl rfl ?_
    refine mr_callV C (c_isRoomI E a 31 se sn be so lo he n1 n2 n3 (nI K) (nI G) (nI 0) (nI 0) R (by omega) u0) [31, 32, 33, 34, 35, 36, 37, 38, 39, 40] 31 3 19 dX7_door_16 rfl mk_X3_isRoom mi_X3_isRoom ml_X7_170 rfl rfl rfl (jn_cut [1, 1, 16, 2, 1, 10, 10, 1, 10, 10, 2, 1, 10, 2, 2] [6] [w0 E a fn fd, [(a 1, .inl (E.1.1 101, 8, .inr (.inr (.inr (.inr (rwA a))))))], wRS E a it th ln sz, wT E a 18 t (nI S) (tI 0) (tI 1) (tI 2) (tI 3), [(a 20, .inr (4, [.ref (a 18), .ref (a 21), .int (rI 0), .int (rI 1), .int (rI 2)]))], wH E a 21 (pF 0) (pF 1) (pF 2) (pF 3) (pF 4) (pF 5) (pF 6) (pF 7) (pF 8) (pI 0) (pI 1) (pI 2) (pI 3) (pI 4), wH E a 31 se sn be so lo he n1 n2 n3 (nI R) (nI K) (nI G) (nI 0) (nI 0), [(a 41, .inl (E.1.1 102, 2, .inr (.inr (.inr (.inr (imA a))))))], wH E a 42 (iF 0 0) (iF 0 1) (iF 0 2) (iF 0 3) (iF 0 4) (iF 0 5) (iF 0 6) (iF 0 7) (iF 0 8) (nI (iR 0)) (nI (iK 0)) (nI (iG 0)) (iu 0) (ig 0), wH E a 52 (iF 1 0) (iF 1 1) (iF 1 2) (iF 1 3) (iF 1 4) (iF 1 5) (iF 1 6) (iF 1 7) (iF 1 8) (nI (iR 1)) (nI (iK 1)) (nI (iG 1)) (iu 1) (ig 1), wA E a 62 kp (nI h) (nI x), wF E a 64 31 65 75 (uI 0) (uI 1) (uI 2), wH E a 65 (cF 0) (cF 1) (cF 2) (cF 3) (cF 4) (cF 5) (cF 6) (cF 7) (cF 8) (cI 0) (cI 1) (cI 2) (cI 3) (nI cg), [(a 75, iA E 5 fi), (a 76, iA E 5 sr)], wQ E a 77 31 s] [wH E a 31 se sn be so lo he n1 n2 n3 (nI R) (nI K) (nI G) (nI 0) (nI 0)] rfl (by decide) rfl rfl) rfl (Nat.le_of_ble_eq_true rfl) (by decide) (by decide) (by decide) rfl rfl (fun r w1 hpost => ?_)
    obtain ⟨rfl, rfl⟩ := hpost
    refine mr_w (wput_id (jn_cut [1, 1, 16, 2, 1, 10, 10, 1, 10, 10, 2, 1, 10, 2, 2] [6] [w0 E a fn fd, [(a 1, .inl (E.1.1 101, 8, .inr (.inr (.inr (.inr (rwA a))))))], wRS E a it th ln sz, wT E a 18 t (nI S) (tI 0) (tI 1) (tI 2) (tI 3), [(a 20, .inr (4, [.ref (a 18), .ref (a 21), .int (rI 0), .int (rI 1), .int (rI 2)]))], wH E a 21 (pF 0) (pF 1) (pF 2) (pF 3) (pF 4) (pF 5) (pF 6) (pF 7) (pF 8) (pI 0) (pI 1) (pI 2) (pI 3) (pI 4), wH E a 31 se sn be so lo he n1 n2 n3 (nI R) (nI K) (nI G) (nI 0) (nI 0), [(a 41, .inl (E.1.1 102, 2, .inr (.inr (.inr (.inr (imA a))))))], wH E a 42 (iF 0 0) (iF 0 1) (iF 0 2) (iF 0 3) (iF 0 4) (iF 0 5) (iF 0 6) (iF 0 7) (iF 0 8) (nI (iR 0)) (nI (iK 0)) (nI (iG 0)) (iu 0) (ig 0), wH E a 52 (iF 1 0) (iF 1 1) (iF 1 2) (iF 1 3) (iF 1 4) (iF 1 5) (iF 1 6) (iF 1 7) (iF 1 8) (nI (iR 1)) (nI (iK 1)) (nI (iG 1)) (iu 1) (ig 1), wA E a 62 kp (nI h) (nI x), wF E a 64 31 65 75 (uI 0) (uI 1) (uI 2), wH E a 65 (cF 0) (cF 1) (cF 2) (cF 3) (cF 4) (cF 5) (cF 6) (cF 7) (cF 8) (cI 0) (cI 1) (cI 2) (cI 3) (nI cg), [(a 75, iA E 5 fi), (a 76, iA E 5 sr)], wQ E a 77 31 s] [wH E a 31 se sn be so lo he n1 n2 n3 (nI R) (nI K) (nI G) (nI 0) (nI 0)] rfl (by decide) rfl rfl)) ?_
    refine mr_ifeq C 36 22 dX7_door_19 (by decide) rfl (fun c_19 => ?_) (fun c_19 => ?_)
    · rw [bI_eq] at c_19
      refine mr_ldc C 38 dX7_door_36 rfl kc_X7_70 ?_
      refine mr_iret C dX7_door_38 rfl rfl (by decide) (by decide) hlen ?_
      rw [hO]
      exact ⟨_, sn, (kp, h, x), rfl, rfl, (ifP_f (by omega)).mpr ⟨rfl, rfl, rfl⟩⟩
    · rw [← Ne, bI_ne] at c_19
      refine mr_iload_n C 23 dX7_door_22 rfl rfl ?_
      refine mr_iload_n C 24 dX7_door_23 rfl rfl ?_
      refine mr_icmpeq C 36 27 dX7_door_24 (by decide) rfl (fun c_24 => ?_) (fun c_24 => ?_)
      · rw [tI_xx] at c_24
        refine mr_ldc C 38 dX7_door_36 rfl kc_X7_70 ?_
        refine mr_iret C dX7_door_38 rfl rfl (by decide) (by decide) hlen ?_
        rw [hO]
        exact ⟨_, sn, (kp, h, x), rfl, rfl, (ifP_f (by omega)).mpr ⟨rfl, rfl, rfl⟩⟩
      · rw [tI_xx] at c_24
        refine mr_iload_n C 28 dX7_door_27 rfl rfl ?_
        refine mr_iflt C 36 31 dX7_door_28 (by decide) rfl (fun c_28 => ?_) (fun c_28 => ?_)
        · rw [tI_lt0] at c_28
          refine mr_ldc C 38 dX7_door_36 rfl kc_X7_70 ?_
          refine mr_iret C dX7_door_38 rfl rfl (by decide) (by decide) hlen ?_
          rw [hO]
          exact ⟨_, sn, (kp, h, x), rfl, rfl, (ifP_f (by omega)).mpr ⟨rfl, rfl, rfl⟩⟩
        · rw [tI_lt0] at c_28
          refine mr_iload_n C 32 dX7_door_31 rfl rfl ?_
          refine mr_iconst C (nI 1) 33 dX7_door_32 rfl rfl ?_
          refine mr_icmple C 39 36 dX7_door_33 (by decide) rfl (fun c_33 => ?_) (fun c_33 => ?_)
          · rw [tI_le (by omega)] at c_33
            obtain ⟨r, hr, rfl⟩ := tI_of (x := r0) (n := R) (by omega) (by omega)
            have ir : iN (nI r) = r := iN_n (by omega)
            have er : (nI r).toInt = (r : Int) := tI_n (by omega)
            obtain ⟨u, hu, rfl⟩ := tI_of (x := u0) (n := R) (by omega) (by omega)
            have iu_ : iN (nI u) = u := iN_n (by omega)
            have eu : (nI u).toInt = (u : Int) := tI_n (by omega)
            refine mr_aload_n C 40 dX7_door_39 rfl rfl ?_
            refine mr_get C 0 43 dX7_door_40 rfl fl_X7_34 rfl rfl ?_
            refine mr_iload_n C 44 dX7_door_43 rfl rfl ?_
            refine mr_iload_n C 45 dX7_door_44 rfl rfl ?_
            refine mr_callV C (c_doorBetween E a 31 se sn be so lo he n1 n2 n3 (nI R) (nI K) (nI G) (nI 0) (nI 0) r u (by omega)) [31, 32, 33, 34, 35, 36, 37, 38, 39, 40] 31 3 48 dX7_door_45 rfl mk_X3_doorBetween mi_X3_doorBetween ml_X7_173 rfl rfl rfl (jn_cut [1, 1, 16, 2, 1, 10, 10, 1, 10, 10, 2, 1, 10, 2, 2] [6] [w0 E a fn fd, [(a 1, .inl (E.1.1 101, 8, .inr (.inr (.inr (.inr (rwA a))))))], wRS E a it th ln sz, wT E a 18 t (nI S) (tI 0) (tI 1) (tI 2) (tI 3), [(a 20, .inr (4, [.ref (a 18), .ref (a 21), .int (rI 0), .int (rI 1), .int (rI 2)]))], wH E a 21 (pF 0) (pF 1) (pF 2) (pF 3) (pF 4) (pF 5) (pF 6) (pF 7) (pF 8) (pI 0) (pI 1) (pI 2) (pI 3) (pI 4), wH E a 31 se sn be so lo he n1 n2 n3 (nI R) (nI K) (nI G) (nI 0) (nI 0), [(a 41, .inl (E.1.1 102, 2, .inr (.inr (.inr (.inr (imA a))))))], wH E a 42 (iF 0 0) (iF 0 1) (iF 0 2) (iF 0 3) (iF 0 4) (iF 0 5) (iF 0 6) (iF 0 7) (iF 0 8) (nI (iR 0)) (nI (iK 0)) (nI (iG 0)) (iu 0) (ig 0), wH E a 52 (iF 1 0) (iF 1 1) (iF 1 2) (iF 1 3) (iF 1 4) (iF 1 5) (iF 1 6) (iF 1 7) (iF 1 8) (nI (iR 1)) (nI (iK 1)) (nI (iG 1)) (iu 1) (ig 1), wA E a 62 kp (nI h) (nI x), wF E a 64 31 65 75 (uI 0) (uI 1) (uI 2), wH E a 65 (cF 0) (cF 1) (cF 2) (cF 3) (cF 4) (cF 5) (cF 6) (cF 7) (cF 8) (cI 0) (cI 1) (cI 2) (cI 3) (nI cg), [(a 75, iA E 5 fi), (a 76, iA E 5 sr)], wQ E a 77 31 s] [wH E a 31 se sn be so lo he n1 n2 n3 (nI R) (nI K) (nI G) (nI 0) (nI 0)] rfl (by decide) rfl rfl) rfl (Nat.le_of_ble_eq_true rfl) (by decide) (by decide) (by decide) rfl rfl (fun r w1 hpost => ?_)
            obtain ⟨rfl, rfl⟩ := hpost
            refine mr_w (wput_id (jn_cut [1, 1, 16, 2, 1, 10, 10, 1, 10, 10, 2, 1, 10, 2, 2] [6] [w0 E a fn fd, [(a 1, .inl (E.1.1 101, 8, .inr (.inr (.inr (.inr (rwA a))))))], wRS E a it th ln sz, wT E a 18 t (nI S) (tI 0) (tI 1) (tI 2) (tI 3), [(a 20, .inr (4, [.ref (a 18), .ref (a 21), .int (rI 0), .int (rI 1), .int (rI 2)]))], wH E a 21 (pF 0) (pF 1) (pF 2) (pF 3) (pF 4) (pF 5) (pF 6) (pF 7) (pF 8) (pI 0) (pI 1) (pI 2) (pI 3) (pI 4), wH E a 31 se sn be so lo he n1 n2 n3 (nI R) (nI K) (nI G) (nI 0) (nI 0), [(a 41, .inl (E.1.1 102, 2, .inr (.inr (.inr (.inr (imA a))))))], wH E a 42 (iF 0 0) (iF 0 1) (iF 0 2) (iF 0 3) (iF 0 4) (iF 0 5) (iF 0 6) (iF 0 7) (iF 0 8) (nI (iR 0)) (nI (iK 0)) (nI (iG 0)) (iu 0) (ig 0), wH E a 52 (iF 1 0) (iF 1 1) (iF 1 2) (iF 1 3) (iF 1 4) (iF 1 5) (iF 1 6) (iF 1 7) (iF 1 8) (nI (iR 1)) (nI (iK 1)) (nI (iG 1)) (iu 1) (ig 1), wA E a 62 kp (nI h) (nI x), wF E a 64 31 65 75 (uI 0) (uI 1) (uI 2), wH E a 65 (cF 0) (cF 1) (cF 2) (cF 3) (cF 4) (cF 5) (cF 6) (cF 7) (cF 8) (cI 0) (cI 1) (cI 2) (cI 3) (nI cg), [(a 75, iA E 5 fi), (a 76, iA E 5 sr)], wQ E a 77 31 s] [wH E a 31 se sn be so lo he n1 n2 n3 (nI R) (nI K) (nI G) (nI 0) (nI 0)] rfl (by decide) rfl rfl)) ?_
            refine mr_istore C 50 dX7_door_48 rfl (by decide) ?_
            refine mr_aload_n C 51 dX7_door_50 rfl rfl ?_
            refine mr_get C 0 54 dX7_door_51 rfl fl_X7_45 rfl rfl ?_
            refine mr_aload_n C 55 dX7_door_54 rfl rfl ?_
            refine mr_get C 0 58 dX7_door_55 rfl fl_X7_34 rfl rfl ?_
            refine mr_callV C (c_keep E a 62 31 kp x h se sn be so lo he n1 n2 n3 (nI R) (nI K) (nI G) (nI 0) (nI 0) (by omega) (by omega)) [62, 63, 31, 32, 33, 34, 35, 36, 37, 38, 39, 40] 62 0 61 dX7_door_58 rfl mk_X0_keep mi_X0_keep ml_X7_145 rfl rfl rfl (jn_cut [1, 1, 16, 2, 1, 10, 10, 1, 10, 10, 2, 1, 10, 2, 2] [10, 6] [w0 E a fn fd, [(a 1, .inl (E.1.1 101, 8, .inr (.inr (.inr (.inr (rwA a))))))], wRS E a it th ln sz, wT E a 18 t (nI S) (tI 0) (tI 1) (tI 2) (tI 3), [(a 20, .inr (4, [.ref (a 18), .ref (a 21), .int (rI 0), .int (rI 1), .int (rI 2)]))], wH E a 21 (pF 0) (pF 1) (pF 2) (pF 3) (pF 4) (pF 5) (pF 6) (pF 7) (pF 8) (pI 0) (pI 1) (pI 2) (pI 3) (pI 4), wH E a 31 se sn be so lo he n1 n2 n3 (nI R) (nI K) (nI G) (nI 0) (nI 0), [(a 41, .inl (E.1.1 102, 2, .inr (.inr (.inr (.inr (imA a))))))], wH E a 42 (iF 0 0) (iF 0 1) (iF 0 2) (iF 0 3) (iF 0 4) (iF 0 5) (iF 0 6) (iF 0 7) (iF 0 8) (nI (iR 0)) (nI (iK 0)) (nI (iG 0)) (iu 0) (ig 0), wH E a 52 (iF 1 0) (iF 1 1) (iF 1 2) (iF 1 3) (iF 1 4) (iF 1 5) (iF 1 6) (iF 1 7) (iF 1 8) (nI (iR 1)) (nI (iK 1)) (nI (iG 1)) (iu 1) (ig 1), wA E a 62 kp (nI h) (nI x), wF E a 64 31 65 75 (uI 0) (uI 1) (uI 2), wH E a 65 (cF 0) (cF 1) (cF 2) (cF 3) (cF 4) (cF 5) (cF 6) (cF 7) (cF 8) (cI 0) (cI 1) (cI 2) (cI 3) (nI cg), [(a 75, iA E 5 fi), (a 76, iA E 5 sr)], wQ E a 77 31 s] [wA E a 62 kp (nI h) (nI x), wH E a 31 se sn be so lo he n1 n2 n3 (nI R) (nI K) (nI G) (nI 0) (nI 0)] rfl (by decide) rfl rfl) rfl (Nat.le_of_ble_eq_true rfl) (by decide) (by decide) (by decide) rfl rfl (fun r w1 hpost => ?_)
            obtain ⟨rfl, rfl⟩ := hpost
            refine mr_w (ws' := wX E a fn fd it th ln sz t S tI rI pF pI se sn be so lo he n1 n2 n3 R K G iF iR iK iG iu ig (kpPut kp x sn be lo he (nI G)) (min (h + 1) 24) (if x + 1 < 24 then x + 1 else 0) uI cF cI cg fi sr s) (jn_put [1, 1, 16, 2, 1, 10, 10, 1, 10, 10, 2, 1, 10, 2, 2] [10, 6] [w0 E a fn fd, [(a 1, .inl (E.1.1 101, 8, .inr (.inr (.inr (.inr (rwA a))))))], wRS E a it th ln sz, wT E a 18 t (nI S) (tI 0) (tI 1) (tI 2) (tI 3), [(a 20, .inr (4, [.ref (a 18), .ref (a 21), .int (rI 0), .int (rI 1), .int (rI 2)]))], wH E a 21 (pF 0) (pF 1) (pF 2) (pF 3) (pF 4) (pF 5) (pF 6) (pF 7) (pF 8) (pI 0) (pI 1) (pI 2) (pI 3) (pI 4), wH E a 31 se sn be so lo he n1 n2 n3 (nI R) (nI K) (nI G) (nI 0) (nI 0), [(a 41, .inl (E.1.1 102, 2, .inr (.inr (.inr (.inr (imA a))))))], wH E a 42 (iF 0 0) (iF 0 1) (iF 0 2) (iF 0 3) (iF 0 4) (iF 0 5) (iF 0 6) (iF 0 7) (iF 0 8) (nI (iR 0)) (nI (iK 0)) (nI (iG 0)) (iu 0) (ig 0), wH E a 52 (iF 1 0) (iF 1 1) (iF 1 2) (iF 1 3) (iF 1 4) (iF 1 5) (iF 1 6) (iF 1 7) (iF 1 8) (nI (iR 1)) (nI (iK 1)) (nI (iG 1)) (iu 1) (ig 1), wA E a 62 kp (nI h) (nI x), wF E a 64 31 65 75 (uI 0) (uI 1) (uI 2), wH E a 65 (cF 0) (cF 1) (cF 2) (cF 3) (cF 4) (cF 5) (cF 6) (cF 7) (cF 8) (cI 0) (cI 1) (cI 2) (cI 3) (nI cg), [(a 75, iA E 5 fi), (a 76, iA E 5 sr)], wQ E a 77 31 s] [wA E a 62 (kpPut kp x sn be lo he (nI G)) (nI (min (h + 1) 24)) (nI (if x + 1 < 24 then x + 1 else 0)), wH E a 31 se sn be so lo he n1 n2 n3 (nI R) (nI K) (nI G) (nI 0) (nI 0)] [w0 E a fn fd, [(a 1, .inl (E.1.1 101, 8, .inr (.inr (.inr (.inr (rwA a))))))], wRS E a it th ln sz, wT E a 18 t (nI S) (tI 0) (tI 1) (tI 2) (tI 3), [(a 20, .inr (4, [.ref (a 18), .ref (a 21), .int (rI 0), .int (rI 1), .int (rI 2)]))], wH E a 21 (pF 0) (pF 1) (pF 2) (pF 3) (pF 4) (pF 5) (pF 6) (pF 7) (pF 8) (pI 0) (pI 1) (pI 2) (pI 3) (pI 4), wH E a 31 se sn be so lo he n1 n2 n3 (nI R) (nI K) (nI G) (nI 0) (nI 0), [(a 41, .inl (E.1.1 102, 2, .inr (.inr (.inr (.inr (imA a))))))], wH E a 42 (iF 0 0) (iF 0 1) (iF 0 2) (iF 0 3) (iF 0 4) (iF 0 5) (iF 0 6) (iF 0 7) (iF 0 8) (nI (iR 0)) (nI (iK 0)) (nI (iG 0)) (iu 0) (ig 0), wH E a 52 (iF 1 0) (iF 1 1) (iF 1 2) (iF 1 3) (iF 1 4) (iF 1 5) (iF 1 6) (iF 1 7) (iF 1 8) (nI (iR 1)) (nI (iK 1)) (nI (iG 1)) (iu 1) (ig 1), wA E a 62 (kpPut kp x sn be lo he (nI G)) (nI (min (h + 1) 24)) (nI (if x + 1 < 24 then x + 1 else 0)), wF E a 64 31 65 75 (uI 0) (uI 1) (uI 2), wH E a 65 (cF 0) (cF 1) (cF 2) (cF 3) (cF 4) (cF 5) (cF 6) (cF 7) (cF 8) (cI 0) (cI 1) (cI 2) (cI 3) (nI cg), [(a 75, iA E 5 fi), (a 76, iA E 5 sr)], wQ E a 77 31 s] rfl (by decide) rfl rfl rfl) ?_
            refine mr_aload_n C 62 dX7_door_61 rfl rfl ?_
            refine mr_get C 0 65 dX7_door_62 rfl fl_X7_34 rfl rfl ?_
            refine mr_iload_n C 66 dX7_door_65 rfl rfl ?_
            refine mr_iload_n C 67 dX7_door_66 rfl rfl ?_
            refine mr_iload_n C 68 dX7_door_67 rfl rfl ?_
            refine mr_callV C (c_putDoor E a 31 se sn be so lo he n1 n2 n3 (nI R) (nI K) (nI G) (nI 0) (nI 0) r u z0 (by omega) (by omega)) [31, 32, 33, 34, 35, 36, 37, 38, 39, 40] 31 3 71 dX7_door_68 rfl mk_X3_putDoor mi_X3_putDoor ml_X7_176 rfl rfl rfl (jn_cut [1, 1, 16, 2, 1, 10, 10, 1, 10, 10, 2, 1, 10, 2, 2] [6] [w0 E a fn fd, [(a 1, .inl (E.1.1 101, 8, .inr (.inr (.inr (.inr (rwA a))))))], wRS E a it th ln sz, wT E a 18 t (nI S) (tI 0) (tI 1) (tI 2) (tI 3), [(a 20, .inr (4, [.ref (a 18), .ref (a 21), .int (rI 0), .int (rI 1), .int (rI 2)]))], wH E a 21 (pF 0) (pF 1) (pF 2) (pF 3) (pF 4) (pF 5) (pF 6) (pF 7) (pF 8) (pI 0) (pI 1) (pI 2) (pI 3) (pI 4), wH E a 31 se sn be so lo he n1 n2 n3 (nI R) (nI K) (nI G) (nI 0) (nI 0), [(a 41, .inl (E.1.1 102, 2, .inr (.inr (.inr (.inr (imA a))))))], wH E a 42 (iF 0 0) (iF 0 1) (iF 0 2) (iF 0 3) (iF 0 4) (iF 0 5) (iF 0 6) (iF 0 7) (iF 0 8) (nI (iR 0)) (nI (iK 0)) (nI (iG 0)) (iu 0) (ig 0), wH E a 52 (iF 1 0) (iF 1 1) (iF 1 2) (iF 1 3) (iF 1 4) (iF 1 5) (iF 1 6) (iF 1 7) (iF 1 8) (nI (iR 1)) (nI (iK 1)) (nI (iG 1)) (iu 1) (ig 1), wA E a 62 ((kpPut kp x sn be lo he (nI G))) (nI ((min (h + 1) 24))) (nI ((if x + 1 < 24 then x + 1 else 0))), wF E a 64 31 65 75 (uI 0) (uI 1) (uI 2), wH E a 65 (cF 0) (cF 1) (cF 2) (cF 3) (cF 4) (cF 5) (cF 6) (cF 7) (cF 8) (cI 0) (cI 1) (cI 2) (cI 3) (nI cg), [(a 75, iA E 5 fi), (a 76, iA E 5 sr)], wQ E a 77 31 s] [wH E a 31 se sn be so lo he n1 n2 n3 (nI R) (nI K) (nI G) (nI 0) (nI 0)] rfl (by decide) rfl rfl) rfl (Nat.le_of_ble_eq_true rfl) (by decide) (by decide) (by decide) rfl rfl (fun r w1 hpost => ?_)
            obtain ⟨rfl, rfl⟩ := hpost
            refine mr_w (ws' := wX E a fn fd it th ln sz t S tI rI pF pI se (drS sn r u z0) be so lo he n1 n2 n3 R K G iF iR iK iG iu ig (kpPut kp x sn be lo he (nI G)) (min (h + 1) 24) (if x + 1 < 24 then x + 1 else 0) uI cF cI cg fi sr s) (jn_put [1, 1, 16, 2, 1, 10, 10, 1, 10, 10, 2, 1, 10, 2, 2] [6] [w0 E a fn fd, [(a 1, .inl (E.1.1 101, 8, .inr (.inr (.inr (.inr (rwA a))))))], wRS E a it th ln sz, wT E a 18 t (nI S) (tI 0) (tI 1) (tI 2) (tI 3), [(a 20, .inr (4, [.ref (a 18), .ref (a 21), .int (rI 0), .int (rI 1), .int (rI 2)]))], wH E a 21 (pF 0) (pF 1) (pF 2) (pF 3) (pF 4) (pF 5) (pF 6) (pF 7) (pF 8) (pI 0) (pI 1) (pI 2) (pI 3) (pI 4), wH E a 31 se sn be so lo he n1 n2 n3 (nI R) (nI K) (nI G) (nI 0) (nI 0), [(a 41, .inl (E.1.1 102, 2, .inr (.inr (.inr (.inr (imA a))))))], wH E a 42 (iF 0 0) (iF 0 1) (iF 0 2) (iF 0 3) (iF 0 4) (iF 0 5) (iF 0 6) (iF 0 7) (iF 0 8) (nI (iR 0)) (nI (iK 0)) (nI (iG 0)) (iu 0) (ig 0), wH E a 52 (iF 1 0) (iF 1 1) (iF 1 2) (iF 1 3) (iF 1 4) (iF 1 5) (iF 1 6) (iF 1 7) (iF 1 8) (nI (iR 1)) (nI (iK 1)) (nI (iG 1)) (iu 1) (ig 1), wA E a 62 ((kpPut kp x sn be lo he (nI G))) (nI ((min (h + 1) 24))) (nI ((if x + 1 < 24 then x + 1 else 0))), wF E a 64 31 65 75 (uI 0) (uI 1) (uI 2), wH E a 65 (cF 0) (cF 1) (cF 2) (cF 3) (cF 4) (cF 5) (cF 6) (cF 7) (cF 8) (cI 0) (cI 1) (cI 2) (cI 3) (nI cg), [(a 75, iA E 5 fi), (a 76, iA E 5 sr)], wQ E a 77 31 s] [wH E a 31 se (drS sn r u z0) be so lo he n1 n2 n3 (nI R) (nI K) (nI G) (nI 0) (nI 0)] [w0 E a fn fd, [(a 1, .inl (E.1.1 101, 8, .inr (.inr (.inr (.inr (rwA a))))))], wRS E a it th ln sz, wT E a 18 t (nI S) (tI 0) (tI 1) (tI 2) (tI 3), [(a 20, .inr (4, [.ref (a 18), .ref (a 21), .int (rI 0), .int (rI 1), .int (rI 2)]))], wH E a 21 (pF 0) (pF 1) (pF 2) (pF 3) (pF 4) (pF 5) (pF 6) (pF 7) (pF 8) (pI 0) (pI 1) (pI 2) (pI 3) (pI 4), wH E a 31 se (drS sn r u z0) be so lo he n1 n2 n3 (nI R) (nI K) (nI G) (nI 0) (nI 0), [(a 41, .inl (E.1.1 102, 2, .inr (.inr (.inr (.inr (imA a))))))], wH E a 42 (iF 0 0) (iF 0 1) (iF 0 2) (iF 0 3) (iF 0 4) (iF 0 5) (iF 0 6) (iF 0 7) (iF 0 8) (nI (iR 0)) (nI (iK 0)) (nI (iG 0)) (iu 0) (ig 0), wH E a 52 (iF 1 0) (iF 1 1) (iF 1 2) (iF 1 3) (iF 1 4) (iF 1 5) (iF 1 6) (iF 1 7) (iF 1 8) (nI (iR 1)) (nI (iK 1)) (nI (iG 1)) (iu 1) (ig 1), wA E a 62 ((kpPut kp x sn be lo he (nI G))) (nI ((min (h + 1) 24))) (nI ((if x + 1 < 24 then x + 1 else 0))), wF E a 64 31 65 75 (uI 0) (uI 1) (uI 2), wH E a 65 (cF 0) (cF 1) (cF 2) (cF 3) (cF 4) (cF 5) (cF 6) (cF 7) (cF 8) (cI 0) (cI 1) (cI 2) (cI 3) (nI cg), [(a 75, iA E 5 fi), (a 76, iA E 5 sr)], wQ E a 77 31 s] rfl (by decide) rfl rfl rfl) ?_
            refine mr_iload C 73 dX7_door_71 rfl rfl ?_
            refine mr_iret C dX7_door_73 rfl rfl (by decide) (by decide) hlen ?_
            rw [hO]
            exact ⟨_, drS sn r u z0, keepS (kp, h, x) sn be lo he G, rfl, rfl, (ifP_t (by omega)).mpr ⟨by rw [ir, iu_], by rw [ir, iu_], rfl⟩⟩
          · rw [tI_le (by omega)] at c_33
            refine mr_ldc C 38 dX7_door_36 rfl kc_X7_70 ?_
            refine mr_iret C dX7_door_38 rfl rfl (by decide) (by decide) hlen ?_
            rw [hO]
            exact ⟨_, sn, (kp, h, x), rfl, rfl, (ifP_f (by omega)).mpr ⟨rfl, rfl, rfl⟩⟩

set_option maxRecDepth 20000 in
set_option maxHeartbeats 4000000 in
theorem c_x_heads (E : EG) (a : Nat → Nat) (fn fd : Int32) (it : Nat → FN) (th ln sz t : FN) (S : Nat) (tI rI : FN) (pF : Nat → FN) (pI se sn be so lo he n1 n2 n3 : FN) (R K G : Nat) (iF : Nat → Nat → FN) (iR iK iG : Nat → Nat) (iu ig kp : FN) (h x : Nat) (uI : FN) (cF : Nat → FN) (cI : FN) (cg : Nat) (fi sr : FN) (s : TRC) (c0 n0 : Int32) (hK : K ≤ 5) (hh : h ≤ 24) (hx : x < 24) : Ctr E mX7_heads (4, 0, 0) [.ref (a 0), .int c0, .int n0] (wX E a fn fd it th ln sz t S tI rI pF pI se sn be so lo he n1 n2 n3 R K G iF iR iK iG iu ig kp h x uI cF cI cg fi sr s) (fun v w => ∃ (v' : Int32) (he' : FN) (y' : ACT), v = some (.int v') ∧ w = wX E a fn fd it th ln sz t S tI rI pF pI se sn be so lo he' n1 n2 n3 R K G iF iR iK iG iu ig y'.1 y'.2.1 y'.2.2 uI cF cI cg fi sr s ∧ NxHeads c0 n0 K sn be lo he G (kp, h, x) v' he' y') := by
  refine Ctr.of (by decide) (Nat.le_of_ble_eq_true rfl) ?_
  intro Z hO hn C
  have hlen : zn Z ≤ 79 := by rw [hn]; exact Nat.le_of_ble_eq_true rfl
  refine mr_aload_n C 1 dX7_heads_0 rfl rfl ?_
  refine mr_get C 0 4 dX7_heads_1 rfl fl_X7_34 rfl rfl ?_
  refine mr_iload_n C 5 dX7_heads_4 rfl rfl ?_
  refine mr_callV C (c_isCrowdI E a 31 se sn be so lo he n1 n2 n3 (nI R) (nI G) (nI 0) (nI 0) K (by omega) c0) [31, 32, 33, 34, 35, 36, 37, 38, 39, 40] 31 3 8 dX7_heads_5 rfl mk_X3_isCrowd mi_X3_isCrowd ml_X7_180 rfl rfl rfl (jn_cut [1, 1, 16, 2, 1, 10, 10, 1, 10, 10, 2, 1, 10, 2, 2] [6] [w0 E a fn fd, [(a 1, .inl (E.1.1 101, 8, .inr (.inr (.inr (.inr (rwA a))))))], wRS E a it th ln sz, wT E a 18 t (nI S) (tI 0) (tI 1) (tI 2) (tI 3), [(a 20, .inr (4, [.ref (a 18), .ref (a 21), .int (rI 0), .int (rI 1), .int (rI 2)]))], wH E a 21 (pF 0) (pF 1) (pF 2) (pF 3) (pF 4) (pF 5) (pF 6) (pF 7) (pF 8) (pI 0) (pI 1) (pI 2) (pI 3) (pI 4), wH E a 31 se sn be so lo he n1 n2 n3 (nI R) (nI K) (nI G) (nI 0) (nI 0), [(a 41, .inl (E.1.1 102, 2, .inr (.inr (.inr (.inr (imA a))))))], wH E a 42 (iF 0 0) (iF 0 1) (iF 0 2) (iF 0 3) (iF 0 4) (iF 0 5) (iF 0 6) (iF 0 7) (iF 0 8) (nI (iR 0)) (nI (iK 0)) (nI (iG 0)) (iu 0) (ig 0), wH E a 52 (iF 1 0) (iF 1 1) (iF 1 2) (iF 1 3) (iF 1 4) (iF 1 5) (iF 1 6) (iF 1 7) (iF 1 8) (nI (iR 1)) (nI (iK 1)) (nI (iG 1)) (iu 1) (ig 1), wA E a 62 kp (nI h) (nI x), wF E a 64 31 65 75 (uI 0) (uI 1) (uI 2), wH E a 65 (cF 0) (cF 1) (cF 2) (cF 3) (cF 4) (cF 5) (cF 6) (cF 7) (cF 8) (cI 0) (cI 1) (cI 2) (cI 3) (nI cg), [(a 75, iA E 5 fi), (a 76, iA E 5 sr)], wQ E a 77 31 s] [wH E a 31 se sn be so lo he n1 n2 n3 (nI R) (nI K) (nI G) (nI 0) (nI 0)] rfl (by decide) rfl rfl) rfl (Nat.le_of_ble_eq_true rfl) (by decide) (by decide) (by decide) rfl rfl (fun r w1 hpost => ?_)
  obtain ⟨rfl, rfl⟩ := hpost
  refine mr_w (wput_id (jn_cut [1, 1, 16, 2, 1, 10, 10, 1, 10, 10, 2, 1, 10, 2, 2] [6] [w0 E a fn fd, [(a 1, .inl (E.1.1 101, 8, .inr (.inr (.inr (.inr (rwA a))))))], wRS E a it th ln sz, wT E a 18 t (nI S) (tI 0) (tI 1) (tI 2) (tI 3), [(a 20, .inr (4, [.ref (a 18), .ref (a 21), .int (rI 0), .int (rI 1), .int (rI 2)]))], wH E a 21 (pF 0) (pF 1) (pF 2) (pF 3) (pF 4) (pF 5) (pF 6) (pF 7) (pF 8) (pI 0) (pI 1) (pI 2) (pI 3) (pI 4), wH E a 31 se sn be so lo he n1 n2 n3 (nI R) (nI K) (nI G) (nI 0) (nI 0), [(a 41, .inl (E.1.1 102, 2, .inr (.inr (.inr (.inr (imA a))))))], wH E a 42 (iF 0 0) (iF 0 1) (iF 0 2) (iF 0 3) (iF 0 4) (iF 0 5) (iF 0 6) (iF 0 7) (iF 0 8) (nI (iR 0)) (nI (iK 0)) (nI (iG 0)) (iu 0) (ig 0), wH E a 52 (iF 1 0) (iF 1 1) (iF 1 2) (iF 1 3) (iF 1 4) (iF 1 5) (iF 1 6) (iF 1 7) (iF 1 8) (nI (iR 1)) (nI (iK 1)) (nI (iG 1)) (iu 1) (ig 1), wA E a 62 kp (nI h) (nI x), wF E a 64 31 65 75 (uI 0) (uI 1) (uI 2), wH E a 65 (cF 0) (cF 1) (cF 2) (cF 3) (cF 4) (cF 5) (cF 6) (cF 7) (cF 8) (cI 0) (cI 1) (cI 2) (cI 3) (nI cg), [(a 75, iA E 5 fi), (a 76, iA E 5 sr)], wQ E a 77 31 s] [wH E a 31 se sn be so lo he n1 n2 n3 (nI R) (nI K) (nI G) (nI 0) (nI 0)] rfl (by decide) rfl rfl)) ?_
  refine mr_ifeq C 22 11 dX7_heads_8 (by decide) rfl (fun c_8 => ?_) (fun c_8 => ?_)
  · rw [bI_eq] at c_8
    refine mr_ldc C 24 dX7_heads_22 rfl kc_X7_70 ?_
    refine mr_iret C dX7_heads_24 rfl rfl (by decide) (by decide) hlen ?_
    rw [hO]
    exact ⟨_, he, (kp, h, x), rfl, rfl, (ifP_f (by omega)).mpr ⟨rfl, rfl, rfl⟩⟩
  · rw [← Ne, bI_ne] at c_8
    refine mr_iload_n C 12 dX7_heads_11 rfl rfl ?_
    refine mr_iconst C (nI 1) 13 dX7_heads_12 rfl rfl ?_
    refine mr_icmplt C 22 16 dX7_heads_13 (by decide) rfl (fun c_13 => ?_) (fun c_13 => ?_)
    · rw [tI_lt (by omega)] at c_13
      refine mr_ldc C 24 dX7_heads_22 rfl kc_X7_70 ?_
      refine mr_iret C dX7_heads_24 rfl rfl (by decide) (by decide) hlen ?_
      rw [hO]
      exact ⟨_, he, (kp, h, x), rfl, rfl, (ifP_f (by omega)).mpr ⟨rfl, rfl, rfl⟩⟩
    · rw [tI_lt (by omega)] at c_13
      refine mr_iload_n C 17 dX7_heads_16 rfl rfl ?_
      refine mr_bipush C (nI 99) 19 dX7_heads_17 rfl rfl ?_
      refine mr_icmple C 25 22 dX7_heads_19 (by decide) rfl (fun c_19 => ?_) (fun c_19 => ?_)
      · rw [tI_le (by omega)] at c_19
        obtain ⟨c, hc, rfl⟩ := tI_of (x := c0) (n := K) (by omega) (by omega)
        have ic : iN (nI c) = c := iN_n (by omega)
        have ec : (nI c).toInt = (c : Int) := tI_n (by omega)
        refine mr_aload_n C 26 dX7_heads_25 rfl rfl ?_
        refine mr_get C 0 29 dX7_heads_26 rfl fl_X7_34 rfl rfl ?_
        refine mr_get C 31 32 dX7_heads_29 rfl fl_X7_183 rfl rfl ?_
        refine mr_iload_n C 33 dX7_heads_32 rfl rfl ?_
        refine mr_iald C 37 c 34 dX7_heads_33 rfl rfl rfl (by omega) (by decide) ?_
        refine mr_istore_n C 35 dX7_heads_34 rfl rfl (by decide) ?_
        refine mr_aload_n C 36 dX7_heads_35 rfl rfl ?_
        refine mr_get C 0 39 dX7_heads_36 rfl fl_X7_45 rfl rfl ?_
        refine mr_aload_n C 40 dX7_heads_39 rfl rfl ?_
        refine mr_get C 0 43 dX7_heads_40 rfl fl_X7_34 rfl rfl ?_
        refine mr_callV C (c_keep E a 62 31 kp x h se sn be so lo he n1 n2 n3 (nI R) (nI K) (nI G) (nI 0) (nI 0) (by omega) (by omega)) [62, 63, 31, 32, 33, 34, 35, 36, 37, 38, 39, 40] 62 0 46 dX7_heads_43 rfl mk_X0_keep mi_X0_keep ml_X7_145 rfl rfl rfl (jn_cut [1, 1, 16, 2, 1, 10, 10, 1, 10, 10, 2, 1, 10, 2, 2] [10, 6] [w0 E a fn fd, [(a 1, .inl (E.1.1 101, 8, .inr (.inr (.inr (.inr (rwA a))))))], wRS E a it th ln sz, wT E a 18 t (nI S) (tI 0) (tI 1) (tI 2) (tI 3), [(a 20, .inr (4, [.ref (a 18), .ref (a 21), .int (rI 0), .int (rI 1), .int (rI 2)]))], wH E a 21 (pF 0) (pF 1) (pF 2) (pF 3) (pF 4) (pF 5) (pF 6) (pF 7) (pF 8) (pI 0) (pI 1) (pI 2) (pI 3) (pI 4), wH E a 31 se sn be so lo he n1 n2 n3 (nI R) (nI K) (nI G) (nI 0) (nI 0), [(a 41, .inl (E.1.1 102, 2, .inr (.inr (.inr (.inr (imA a))))))], wH E a 42 (iF 0 0) (iF 0 1) (iF 0 2) (iF 0 3) (iF 0 4) (iF 0 5) (iF 0 6) (iF 0 7) (iF 0 8) (nI (iR 0)) (nI (iK 0)) (nI (iG 0)) (iu 0) (ig 0), wH E a 52 (iF 1 0) (iF 1 1) (iF 1 2) (iF 1 3) (iF 1 4) (iF 1 5) (iF 1 6) (iF 1 7) (iF 1 8) (nI (iR 1)) (nI (iK 1)) (nI (iG 1)) (iu 1) (ig 1), wA E a 62 kp (nI h) (nI x), wF E a 64 31 65 75 (uI 0) (uI 1) (uI 2), wH E a 65 (cF 0) (cF 1) (cF 2) (cF 3) (cF 4) (cF 5) (cF 6) (cF 7) (cF 8) (cI 0) (cI 1) (cI 2) (cI 3) (nI cg), [(a 75, iA E 5 fi), (a 76, iA E 5 sr)], wQ E a 77 31 s] [wA E a 62 kp (nI h) (nI x), wH E a 31 se sn be so lo he n1 n2 n3 (nI R) (nI K) (nI G) (nI 0) (nI 0)] rfl (by decide) rfl rfl) rfl (Nat.le_of_ble_eq_true rfl) (by decide) (by decide) (by decide) rfl rfl (fun r w1 hpost => ?_)
        obtain ⟨rfl, rfl⟩ := hpost
        refine mr_w (ws' := wX E a fn fd it th ln sz t S tI rI pF pI se sn be so lo he n1 n2 n3 R K G iF iR iK iG iu ig (kpPut kp x sn be lo he (nI G)) (min (h + 1) 24) (if x + 1 < 24 then x + 1 else 0) uI cF cI cg fi sr s) (jn_put [1, 1, 16, 2, 1, 10, 10, 1, 10, 10, 2, 1, 10, 2, 2] [10, 6] [w0 E a fn fd, [(a 1, .inl (E.1.1 101, 8, .inr (.inr (.inr (.inr (rwA a))))))], wRS E a it th ln sz, wT E a 18 t (nI S) (tI 0) (tI 1) (tI 2) (tI 3), [(a 20, .inr (4, [.ref (a 18), .ref (a 21), .int (rI 0), .int (rI 1), .int (rI 2)]))], wH E a 21 (pF 0) (pF 1) (pF 2) (pF 3) (pF 4) (pF 5) (pF 6) (pF 7) (pF 8) (pI 0) (pI 1) (pI 2) (pI 3) (pI 4), wH E a 31 se sn be so lo he n1 n2 n3 (nI R) (nI K) (nI G) (nI 0) (nI 0), [(a 41, .inl (E.1.1 102, 2, .inr (.inr (.inr (.inr (imA a))))))], wH E a 42 (iF 0 0) (iF 0 1) (iF 0 2) (iF 0 3) (iF 0 4) (iF 0 5) (iF 0 6) (iF 0 7) (iF 0 8) (nI (iR 0)) (nI (iK 0)) (nI (iG 0)) (iu 0) (ig 0), wH E a 52 (iF 1 0) (iF 1 1) (iF 1 2) (iF 1 3) (iF 1 4) (iF 1 5) (iF 1 6) (iF 1 7) (iF 1 8) (nI (iR 1)) (nI (iK 1)) (nI (iG 1)) (iu 1) (ig 1), wA E a 62 kp (nI h) (nI x), wF E a 64 31 65 75 (uI 0) (uI 1) (uI 2), wH E a 65 (cF 0) (cF 1) (cF 2) (cF 3) (cF 4) (cF 5) (cF 6) (cF 7) (cF 8) (cI 0) (cI 1) (cI 2) (cI 3) (nI cg), [(a 75, iA E 5 fi), (a 76, iA E 5 sr)], wQ E a 77 31 s] [wA E a 62 (kpPut kp x sn be lo he (nI G)) (nI (min (h + 1) 24)) (nI (if x + 1 < 24 then x + 1 else 0)), wH E a 31 se sn be so lo he n1 n2 n3 (nI R) (nI K) (nI G) (nI 0) (nI 0)] [w0 E a fn fd, [(a 1, .inl (E.1.1 101, 8, .inr (.inr (.inr (.inr (rwA a))))))], wRS E a it th ln sz, wT E a 18 t (nI S) (tI 0) (tI 1) (tI 2) (tI 3), [(a 20, .inr (4, [.ref (a 18), .ref (a 21), .int (rI 0), .int (rI 1), .int (rI 2)]))], wH E a 21 (pF 0) (pF 1) (pF 2) (pF 3) (pF 4) (pF 5) (pF 6) (pF 7) (pF 8) (pI 0) (pI 1) (pI 2) (pI 3) (pI 4), wH E a 31 se sn be so lo he n1 n2 n3 (nI R) (nI K) (nI G) (nI 0) (nI 0), [(a 41, .inl (E.1.1 102, 2, .inr (.inr (.inr (.inr (imA a))))))], wH E a 42 (iF 0 0) (iF 0 1) (iF 0 2) (iF 0 3) (iF 0 4) (iF 0 5) (iF 0 6) (iF 0 7) (iF 0 8) (nI (iR 0)) (nI (iK 0)) (nI (iG 0)) (iu 0) (ig 0), wH E a 52 (iF 1 0) (iF 1 1) (iF 1 2) (iF 1 3) (iF 1 4) (iF 1 5) (iF 1 6) (iF 1 7) (iF 1 8) (nI (iR 1)) (nI (iK 1)) (nI (iG 1)) (iu 1) (ig 1), wA E a 62 (kpPut kp x sn be lo he (nI G)) (nI (min (h + 1) 24)) (nI (if x + 1 < 24 then x + 1 else 0)), wF E a 64 31 65 75 (uI 0) (uI 1) (uI 2), wH E a 65 (cF 0) (cF 1) (cF 2) (cF 3) (cF 4) (cF 5) (cF 6) (cF 7) (cF 8) (cI 0) (cI 1) (cI 2) (cI 3) (nI cg), [(a 75, iA E 5 fi), (a 76, iA E 5 sr)], wQ E a 77 31 s] rfl (by decide) rfl rfl rfl) ?_
        refine mr_aload_n C 47 dX7_heads_46 rfl rfl ?_
        refine mr_get C 0 50 dX7_heads_47 rfl fl_X7_34 rfl rfl ?_
        refine mr_get C 31 53 dX7_heads_50 rfl fl_X7_183 rfl rfl ?_
        refine mr_iload_n C 54 dX7_heads_53 rfl rfl ?_
        refine mr_iload_n C 55 dX7_heads_54 rfl rfl ?_
        refine mr_iast C 37 c 56 dX7_heads_55 rfl rfl rfl (by omega) (by decide) ?_
        refine mr_iload_n C 57 dX7_heads_56 rfl rfl ?_
        refine mr_iret C dX7_heads_57 rfl rfl (by decide) (by decide) hlen ?_
        rw [hO]
        exact ⟨_, upd he c n0, keepS (kp, h, x) sn be lo he G, rfl, rfl, (ifP_t (by omega)).mpr ⟨by rw [ic], by rw [ic], rfl⟩⟩
      · rw [tI_le (by omega)] at c_19
        refine mr_ldc C 24 dX7_heads_22 rfl kc_X7_70 ?_
        refine mr_iret C dX7_heads_24 rfl rfl (by decide) (by decide) hlen ?_
        rw [hO]
        exact ⟨_, he, (kp, h, x), rfl, rfl, (ifP_f (by omega)).mpr ⟨rfl, rfl, rfl⟩⟩

set_option maxRecDepth 20000 in
set_option maxHeartbeats 4000000 in
theorem c_x_undo (E : EG) (a : Nat → Nat) (fn fd : Int32) (it : Nat → FN) (th ln sz t : FN) (S : Nat) (tI rI : FN) (pF : Nat → FN) (pI se sn be so lo he n1 n2 n3 : FN) (R K G : Nat) (iF : Nat → Nat → FN) (iR iK iG : Nat → Nat) (iu ig kp : FN) (h x : Nat) (uI : FN) (cF : Nat → FN) (cI : FN) (cg : Nat) (fi sr : FN) (s : TRC)  (hh : h ≤ 24) (hx : x < 24) (hgn : 0 < h → ∃ g, g ≤ 9999 ∧ kp (lastS x * 23 + 22) = nI g) : Ctr E mX7_undo (4, 0, 0) [.ref (a 0)] (wX E a fn fd it th ln sz t S tI rI pF pI se sn be so lo he n1 n2 n3 R K G iF iR iK iG iu ig kp h x uI cF cI cg fi sr s) (fun v w => ∃ (v' : Int32) (sn' be' lo' he' : FN) (G' : Nat) (y' : ACT), v = some (.int v') ∧ w = wX E a fn fd it th ln sz t S tI rI pF pI se sn' be' so lo' he' n1 n2 n3 R K G' iF iR iK iG iu ig y'.1 y'.2.1 y'.2.2 uI cF cI cg fi sr s ∧ NxUndo sn be lo he G (kp, h, x) v' sn' be' lo' he' G' y') := by
  refine Ctr.of (by decide) (Nat.le_of_ble_eq_true rfl) ?_
  intro Z hO hn C
  have hlen : zn Z ≤ 79 := by rw [hn]; exact Nat.le_of_ble_eq_true rfl
  refine mr_aload_n C 1 dX7_undo_0 rfl rfl ?_
  refine mr_get C 0 4 dX7_undo_1 rfl fl_X7_45 rfl rfl ?_
  refine mr_get C 62 7 dX7_undo_4 rfl fl_X7_186 rfl rfl ?_
  refine mr_ifne C 13 10 dX7_undo_7 (by decide) rfl (fun c_7 => ?_) (fun c_7 => ?_)
  · have c_7 : ¬ h = 0 := fun h => c_7 (by rw [h]; rfl)
    obtain ⟨G9, hgle, hg9⟩ := hgn (by omega)
    refine mr_aload_n C 14 dX7_undo_13 rfl rfl ?_
    refine mr_get C 0 17 dX7_undo_14 rfl fl_X7_45 rfl rfl ?_
    refine mr_aload_n C 18 dX7_undo_17 rfl rfl ?_
    refine mr_get C 0 21 dX7_undo_18 rfl fl_X7_34 rfl rfl ?_
    refine mr_callV C (c_takeBack E a 62 31 kp x h (lastS x) se sn be so lo he n1 n2 n3 (nI R) (nI K) (nI G) (nI 0) (nI 0) (fun j => kp (lastS x * 23 + j)) (fun j => kp (lastS x * 23 + 6 + j)) (fun j => kp (lastS x * 23 + 12 + j)) (fun j => kp (lastS x * 23 + 17 + j)) (kp (lastS x * 23 + 22)) hx hh (by omega) rfl ⟨fun _ _ => rfl, fun _ _ => rfl, fun _ _ => rfl, fun _ _ => rfl, rfl⟩) [62, 63, 31, 32, 33, 34, 35, 36, 37, 38, 39, 40] 62 0 24 dX7_undo_21 rfl mk_X0_takeBack mi_X0_takeBack ml_X7_189 rfl rfl rfl (jn_cut [1, 1, 16, 2, 1, 10, 10, 1, 10, 10, 2, 1, 10, 2, 2] [10, 6] [w0 E a fn fd, [(a 1, .inl (E.1.1 101, 8, .inr (.inr (.inr (.inr (rwA a))))))], wRS E a it th ln sz, wT E a 18 t (nI S) (tI 0) (tI 1) (tI 2) (tI 3), [(a 20, .inr (4, [.ref (a 18), .ref (a 21), .int (rI 0), .int (rI 1), .int (rI 2)]))], wH E a 21 (pF 0) (pF 1) (pF 2) (pF 3) (pF 4) (pF 5) (pF 6) (pF 7) (pF 8) (pI 0) (pI 1) (pI 2) (pI 3) (pI 4), wH E a 31 se sn be so lo he n1 n2 n3 (nI R) (nI K) (nI G) (nI 0) (nI 0), [(a 41, .inl (E.1.1 102, 2, .inr (.inr (.inr (.inr (imA a))))))], wH E a 42 (iF 0 0) (iF 0 1) (iF 0 2) (iF 0 3) (iF 0 4) (iF 0 5) (iF 0 6) (iF 0 7) (iF 0 8) (nI (iR 0)) (nI (iK 0)) (nI (iG 0)) (iu 0) (ig 0), wH E a 52 (iF 1 0) (iF 1 1) (iF 1 2) (iF 1 3) (iF 1 4) (iF 1 5) (iF 1 6) (iF 1 7) (iF 1 8) (nI (iR 1)) (nI (iK 1)) (nI (iG 1)) (iu 1) (ig 1), wA E a 62 kp (nI h) (nI x), wF E a 64 31 65 75 (uI 0) (uI 1) (uI 2), wH E a 65 (cF 0) (cF 1) (cF 2) (cF 3) (cF 4) (cF 5) (cF 6) (cF 7) (cF 8) (cI 0) (cI 1) (cI 2) (cI 3) (nI cg), [(a 75, iA E 5 fi), (a 76, iA E 5 sr)], wQ E a 77 31 s] [wA E a 62 kp (nI h) (nI x), wH E a 31 se sn be so lo he n1 n2 n3 (nI R) (nI K) (nI G) (nI 0) (nI 0)] rfl (by decide) rfl rfl) rfl (Nat.le_of_ble_eq_true rfl) (by decide) (by decide) (by decide) rfl rfl (fun r w1 hpost => ?_)
    obtain ⟨f1, f2, f3_, f4_, rfl, rfl, hf1, hf2, hf3, hf4⟩ := hpost
    rw [hg9]
    refine mr_w (ws' := wX E a fn fd it th ln sz t S tI rI pF pI se f1 f2 so f3_ f4_ n1 n2 n3 R K G9 iF iR iK iG iu ig kp (h - 1) (lastS x) uI cF cI cg fi sr s) (jn_put [1, 1, 16, 2, 1, 10, 10, 1, 10, 10, 2, 1, 10, 2, 2] [10, 6] [w0 E a fn fd, [(a 1, .inl (E.1.1 101, 8, .inr (.inr (.inr (.inr (rwA a))))))], wRS E a it th ln sz, wT E a 18 t (nI S) (tI 0) (tI 1) (tI 2) (tI 3), [(a 20, .inr (4, [.ref (a 18), .ref (a 21), .int (rI 0), .int (rI 1), .int (rI 2)]))], wH E a 21 (pF 0) (pF 1) (pF 2) (pF 3) (pF 4) (pF 5) (pF 6) (pF 7) (pF 8) (pI 0) (pI 1) (pI 2) (pI 3) (pI 4), wH E a 31 se sn be so lo he n1 n2 n3 (nI R) (nI K) (nI G) (nI 0) (nI 0), [(a 41, .inl (E.1.1 102, 2, .inr (.inr (.inr (.inr (imA a))))))], wH E a 42 (iF 0 0) (iF 0 1) (iF 0 2) (iF 0 3) (iF 0 4) (iF 0 5) (iF 0 6) (iF 0 7) (iF 0 8) (nI (iR 0)) (nI (iK 0)) (nI (iG 0)) (iu 0) (ig 0), wH E a 52 (iF 1 0) (iF 1 1) (iF 1 2) (iF 1 3) (iF 1 4) (iF 1 5) (iF 1 6) (iF 1 7) (iF 1 8) (nI (iR 1)) (nI (iK 1)) (nI (iG 1)) (iu 1) (ig 1), wA E a 62 kp (nI h) (nI x), wF E a 64 31 65 75 (uI 0) (uI 1) (uI 2), wH E a 65 (cF 0) (cF 1) (cF 2) (cF 3) (cF 4) (cF 5) (cF 6) (cF 7) (cF 8) (cI 0) (cI 1) (cI 2) (cI 3) (nI cg), [(a 75, iA E 5 fi), (a 76, iA E 5 sr)], wQ E a 77 31 s] [wA E a 62 kp (nI (h - 1)) (nI (lastS x)), wH E a 31 se f1 f2 so f3_ f4_ n1 n2 n3 (nI R) (nI K) (nI G9) (nI 0) (nI 0)] [w0 E a fn fd, [(a 1, .inl (E.1.1 101, 8, .inr (.inr (.inr (.inr (rwA a))))))], wRS E a it th ln sz, wT E a 18 t (nI S) (tI 0) (tI 1) (tI 2) (tI 3), [(a 20, .inr (4, [.ref (a 18), .ref (a 21), .int (rI 0), .int (rI 1), .int (rI 2)]))], wH E a 21 (pF 0) (pF 1) (pF 2) (pF 3) (pF 4) (pF 5) (pF 6) (pF 7) (pF 8) (pI 0) (pI 1) (pI 2) (pI 3) (pI 4), wH E a 31 se f1 f2 so f3_ f4_ n1 n2 n3 (nI R) (nI K) (nI G9) (nI 0) (nI 0), [(a 41, .inl (E.1.1 102, 2, .inr (.inr (.inr (.inr (imA a))))))], wH E a 42 (iF 0 0) (iF 0 1) (iF 0 2) (iF 0 3) (iF 0 4) (iF 0 5) (iF 0 6) (iF 0 7) (iF 0 8) (nI (iR 0)) (nI (iK 0)) (nI (iG 0)) (iu 0) (ig 0), wH E a 52 (iF 1 0) (iF 1 1) (iF 1 2) (iF 1 3) (iF 1 4) (iF 1 5) (iF 1 6) (iF 1 7) (iF 1 8) (nI (iR 1)) (nI (iK 1)) (nI (iG 1)) (iu 1) (ig 1), wA E a 62 kp (nI (h - 1)) (nI (lastS x)), wF E a 64 31 65 75 (uI 0) (uI 1) (uI 2), wH E a 65 (cF 0) (cF 1) (cF 2) (cF 3) (cF 4) (cF 5) (cF 6) (cF 7) (cF 8) (cI 0) (cI 1) (cI 2) (cI 3) (nI cg), [(a 75, iA E 5 fi), (a 76, iA E 5 sr)], wQ E a 77 31 s] rfl (by decide) rfl rfl rfl) ?_
    refine mr_aload_n C 25 dX7_undo_24 rfl rfl ?_
    refine mr_get C 0 28 dX7_undo_25 rfl fl_X7_45 rfl rfl ?_
    refine mr_get C 62 31 dX7_undo_28 rfl fl_X7_186 rfl rfl ?_
    refine mr_iret C dX7_undo_31 rfl rfl (by decide) (by decide) hlen ?_
    rw [hO]
    exact ⟨_, f1, f2, f3_, f4_, G9, (kp, h - 1, lastS x), rfl, rfl, (ifP_f c_7).mpr ⟨rfl, rfl, hf1, hf2, hf3, hf4, hgle, hg9.symm⟩⟩
  · have c_7 : h = 0 := (nI_eq (b := 0) (by omega) (by omega)).mp c_7
    refine mr_ldc C 12 dX7_undo_10 rfl kc_X7_141 ?_
    refine mr_iret C dX7_undo_12 rfl rfl (by decide) (by decide) hlen ?_
    rw [hO]
    exact ⟨_, sn, be, lo, he, G, (kp, h, x), rfl, rfl, (ifP_t c_7).mpr ⟨rfl, rfl, rfl, rfl, rfl, rfl, rfl⟩⟩

