/-! the class' calls: foretold -/
noncomputable def aheadV (c n : Int32) (R K : Nat) (sn so he : FN) (x : RST) : Int32 :=
  ifP (0 ≤ c.toInt ∧ c.toInt < K ∧ 0 ≤ n.toInt ∧ n.toInt ≤ 60) (nI ((rgN (nI 0) 0 R K sn so he x (iN n)).2.2 (iN c))) (-1000001)
noncomputable def rmAheadV (r n y : Int32) (R K : Nat) (se sn so he : FN) (x : RST) : Int32 :=
  ifP (0 ≤ r.toInt ∧ r.toInt < R ∧ 0 ≤ n.toInt ∧ n.toInt ≤ 60 ∧ 0 ≤ y.toInt ∧ y.toInt ≤ 1) (ifP (y.toInt = 0) (cntS (fun _ => nI 0) (rgN (nI 0) 0 R K sn so he x (iN n)).2.2 he K (iN r)) (wthS R K sn so he x (se (iN r)) (iN r) (iN n))) (-1000001)
noncomputable def restV (y : Int32) (R K : Nat) (sn so he : FN) (x : RST) : Int32 :=
  ifP (R = 0) (-1000002) (ifP (0 ≤ y.toInt ∧ y.toInt ≤ 1) (ifP (y.toInt = 0) (rstS R K sn so he x 62 1) (fstS (fun k => ∀ c, c < K → (rgN (nI 0) 0 R K sn so he x k).2.2 c = x.2.2 c) 60 1)) (-1000001))
noncomputable def hireV (r n y : Int32) (em R K : Nat) (sn so he : FN) (x : RST) : Int32 :=
  ifP (0 ≤ r.toInt ∧ r.toInt < R ∧ 1 ≤ n.toInt ∧ n.toInt ≤ 20 ∧ 0 ≤ y.toInt ∧ y.toInt ≤ 1) (ifP (fstN (fun d => hirP R K (iN n) sn so he x.1 x.2.1 x.2.2 (iN r) em d) 366 0 < 366) (ifP (y.toInt = 0) (nI (fstN (fun d => hirP R K (iN n) sn so he x.1 x.2.1 x.2.2 (iN r) em d) 366 0 / 6)) (nI (fstN (fun d => hirP R K (iN n) sn so he x.1 x.2.1 x.2.2 (iN r) em d) 366 0 % 6))) (-1000000)) (-1000001)
noncomputable def apartV (a b n : Int32) (R K : Nat) (sn so he : FN) (x : RST) : Int32 :=
  ifP (0 ≤ a.toInt ∧ a.toInt < K ∧ 0 ≤ b.toInt ∧ b.toInt < K ∧ a.toInt ≠ b.toInt ∧ 1 ≤ n.toInt ∧ n.toInt ≤ 60) (dsS R K (iN n) sn so he x.1 x.2.1 x.2.2 (iN a) (iN b)) (-1000001)
noncomputable def beganV (c n : Int32) (R K : Nat) (sn so he : FN) (l : Nat → Nat) : Int32 :=
  ifP (R = 0) (-1000002) (ifP (-1 ≤ c.toInt ∧ c.toInt < K ∧ 0 ≤ n.toInt ∧ n.toInt ≤ 9) (ifP (c.toInt = -1) (nI (cntP (begP R K (iN n) sn so he l) (R ^ K))) (ifP (cntP (begP R K (iN n) sn so he l) (R ^ K) = 0) (-1000000) (nI (decS R K (fstN (begP R K (iN n) sn so he l) (R ^ K) 0) (iN c))))) (-1000001))
set_option maxRecDepth 20000 in
set_option maxHeartbeats 4000000 in
theorem c_x_ahead (E : EG) (a : Nat → Nat) (fn fd : Int32) (it : Nat → FN) (th ln sz t : FN) (S : Nat) (tI rI : FN) (pF : Nat → FN) (pI se sn be so lo he n1 n2 n3 : FN) (R K G : Nat) (iF : Nat → Nat → FN) (iR iK iG : Nat → Nat) (iu ig kp : FN) (h x : Nat) (uI : FN) (cF : Nat → FN) (cI : FN) (cg : Nat) (fi sr : FN) (s : TRC) (c0 n0 : Int32) (hR : R ≤ 6) (hK : K ≤ 5) (hG : G ≤ 9999) (hl : ∀ c, c < K → lo c = nI (lN_ lo c) ∧ lN_ lo c < R) (hcg : cg < 6) : Ctr E mX7_ahead (8, 0, 0) [.ref (a 0), .int c0, .int n0] (wX E a fn fd it th ln sz t S tI rI pF pI se sn be so lo he n1 n2 n3 R K G iF iR iK iG iu ig kp h x uI cF cI cg fi sr s) (fun v w => v = some (.int (aheadV c0 n0 R K sn so he (G, be, lN_ lo))) ∧ ∃ (cF' : Nat → FN) (cI' : FN) (cg' : Nat), cg' < 6 ∧ w = wX E a fn fd it th ln sz t S tI rI pF pI se sn be so lo he n1 n2 n3 R K G iF iR iK iG iu ig kp h x uI cF' cI' cg' fi sr s) := by
  refine Ctr.of (by decide) (Nat.le_of_ble_eq_true rfl) ?_
  intro Z hO hn C
  have hlen : zn Z ≤ 79 := by rw [hn]; exact Nat.le_of_ble_eq_true rfl
  refine mr_aload_n C 1 dX7_ahead_0 rfl rfl ?_
  refine mr_get C 0 4 dX7_ahead_1 rfl fl_X7_34 rfl rfl ?_
  refine mr_iload_n C 5 dX7_ahead_4 rfl rfl ?_
  refine mr_callV C (c_isCrowdI E a 31 se sn be so lo he n1 n2 n3 (nI R) (nI G) (nI 0) (nI 0) K (by omega) c0) [31, 32, 33, 34, 35, 36, 37, 38, 39, 40] 31 3 8 dX7_ahead_5 rfl mk_X3_isCrowd mi_X3_isCrowd ml_X7_180 rfl rfl rfl (jn_cut [1, 1, 16, 2, 1, 10, 10, 1, 10, 10, 2, 1, 10, 2, 2] [6] [w0 E a fn fd, [(a 1, .inl (E.1.1 101, 8, .inr (.inr (.inr (.inr (rwA a))))))], wRS E a it th ln sz, wT E a 18 t (nI S) (tI 0) (tI 1) (tI 2) (tI 3), [(a 20, .inr (4, [.ref (a 18), .ref (a 21), .int (rI 0), .int (rI 1), .int (rI 2)]))], wH E a 21 (pF 0) (pF 1) (pF 2) (pF 3) (pF 4) (pF 5) (pF 6) (pF 7) (pF 8) (pI 0) (pI 1) (pI 2) (pI 3) (pI 4), wH E a 31 se sn be so lo he n1 n2 n3 (nI R) (nI K) (nI G) (nI 0) (nI 0), [(a 41, .inl (E.1.1 102, 2, .inr (.inr (.inr (.inr (imA a))))))], wH E a 42 (iF 0 0) (iF 0 1) (iF 0 2) (iF 0 3) (iF 0 4) (iF 0 5) (iF 0 6) (iF 0 7) (iF 0 8) (nI (iR 0)) (nI (iK 0)) (nI (iG 0)) (iu 0) (ig 0), wH E a 52 (iF 1 0) (iF 1 1) (iF 1 2) (iF 1 3) (iF 1 4) (iF 1 5) (iF 1 6) (iF 1 7) (iF 1 8) (nI (iR 1)) (nI (iK 1)) (nI (iG 1)) (iu 1) (ig 1), wA E a 62 kp (nI h) (nI x), wF E a 64 31 65 75 (uI 0) (uI 1) (uI 2), wH E a 65 (cF 0) (cF 1) (cF 2) (cF 3) (cF 4) (cF 5) (cF 6) (cF 7) (cF 8) (cI 0) (cI 1) (cI 2) (cI 3) (nI cg), [(a 75, iA E 5 fi), (a 76, iA E 5 sr)], wQ E a 77 31 s] [wH E a 31 se sn be so lo he n1 n2 n3 (nI R) (nI K) (nI G) (nI 0) (nI 0)] rfl (by decide) rfl rfl) rfl (Nat.le_of_ble_eq_true rfl) (by decide) (by decide) (by decide) rfl rfl (fun r w1 hpost => ?_)
  obtain ⟨rfl, rfl⟩ := hpost
  refine mr_w (wput_id (jn_cut [1, 1, 16, 2, 1, 10, 10, 1, 10, 10, 2, 1, 10, 2, 2] [6] [w0 E a fn fd, [(a 1, .inl (E.1.1 101, 8, .inr (.inr (.inr (.inr (rwA a))))))], wRS E a it th ln sz, wT E a 18 t (nI S) (tI 0) (tI 1) (tI 2) (tI 3), [(a 20, .inr (4, [.ref (a 18), .ref (a 21), .int (rI 0), .int (rI 1), .int (rI 2)]))], wH E a 21 (pF 0) (pF 1) (pF 2) (pF 3) (pF 4) (pF 5) (pF 6) (pF 7) (pF 8) (pI 0) (pI 1) (pI 2) (pI 3) (pI 4), wH E a 31 se sn be so lo he n1 n2 n3 (nI R) (nI K) (nI G) (nI 0) (nI 0), [(a 41, .inl (E.1.1 102, 2, .inr (.inr (.inr (.inr (imA a))))))], wH E a 42 (iF 0 0) (iF 0 1) (iF 0 2) (iF 0 3) (iF 0 4) (iF 0 5) (iF 0 6) (iF 0 7) (iF 0 8) (nI (iR 0)) (nI (iK 0)) (nI (iG 0)) (iu 0) (ig 0), wH E a 52 (iF 1 0) (iF 1 1) (iF 1 2) (iF 1 3) (iF 1 4) (iF 1 5) (iF 1 6) (iF 1 7) (iF 1 8) (nI (iR 1)) (nI (iK 1)) (nI (iG 1)) (iu 1) (ig 1), wA E a 62 kp (nI h) (nI x), wF E a 64 31 65 75 (uI 0) (uI 1) (uI 2), wH E a 65 (cF 0) (cF 1) (cF 2) (cF 3) (cF 4) (cF 5) (cF 6) (cF 7) (cF 8) (cI 0) (cI 1) (cI 2) (cI 3) (nI cg), [(a 75, iA E 5 fi), (a 76, iA E 5 sr)], wQ E a 77 31 s] [wH E a 31 se sn be so lo he n1 n2 n3 (nI R) (nI K) (nI G) (nI 0) (nI 0)] rfl (by decide) rfl rfl)) ?_
  refine mr_ifeq C 21 11 dX7_ahead_8 (by decide) rfl (fun c_8 => ?_) (fun c_8 => ?_)
  · rw [bI_eq] at c_8
    refine mr_ldc C 23 dX7_ahead_21 rfl kc_X7_70 ?_
    refine mr_iret C dX7_ahead_23 rfl rfl (by decide) (by decide) hlen ?_
    rw [hO]
    refine ⟨congrArg (fun z => some (Value.int z)) (ifP_f (by omega)).symm, cF, cI, cg, hcg, rfl⟩
  · rw [← Ne, bI_ne] at c_8
    refine mr_iload_n C 12 dX7_ahead_11 rfl rfl ?_
    refine mr_iflt C 21 15 dX7_ahead_12 (by decide) rfl (fun c_12 => ?_) (fun c_12 => ?_)
    · rw [tI_lt0] at c_12
      refine mr_ldc C 23 dX7_ahead_21 rfl kc_X7_70 ?_
      refine mr_iret C dX7_ahead_23 rfl rfl (by decide) (by decide) hlen ?_
      rw [hO]
      refine ⟨congrArg (fun z => some (Value.int z)) (ifP_f (by omega)).symm, cF, cI, cg, hcg, rfl⟩
    · rw [tI_lt0] at c_12
      refine mr_iload_n C 16 dX7_ahead_15 rfl rfl ?_
      refine mr_bipush C (nI 60) 18 dX7_ahead_16 rfl rfl ?_
      refine mr_icmple C 24 21 dX7_ahead_18 (by decide) rfl (fun c_18 => ?_) (fun c_18 => ?_)
      · rw [tI_le (by omega)] at c_18
        obtain ⟨c, hc, rfl⟩ := tI_of (x := c0) (n := K) (by omega) (by omega)
        have ec : (nI c).toInt = (c : Int) := tI_n (by omega)
        have ic_ : iN (nI c) = c := iN_n (by omega)
        obtain ⟨n, hn, rfl⟩ := tI_of (x := n0) (n := 61) (by omega) (by omega)
        have en : (nI n).toInt = (n : Int) := tI_n (by omega)
        have in_ : iN (nI n) = n := iN_n (by omega)
        refine mr_aload_n C 25 dX7_ahead_24 rfl rfl ?_
        refine mr_get C 0 28 dX7_ahead_25 rfl fl_X7_54 rfl rfl ?_
        refine mr_iload_n C 29 dX7_ahead_28 rfl rfl ?_
        refine mr_iload_n C 30 dX7_ahead_29 rfl rfl ?_
        refine mr_callV C (c_whereBehind E a 64 31 65 75 (uI 0) (uI 1) (uI 2) se sn be so lo he n1 n2 n3 (cF 0) (cF 1) (cF 2) (cF 3) (cF 4) (cF 5) (cF 6) (cF 7) (cF 8) (nI 0) (nI 0) (cI 0) (cI 1) (cI 2) (cI 3) R K G cg (lN_ lo) hR hK (by omega) hcg hl c n hc (by omega)) [64, 31, 32, 33, 34, 35, 36, 37, 38, 39, 40, 65, 66, 67, 68, 69, 70, 71, 72, 73, 74] 64 2 33 dX7_ahead_30 rfl mk_X2_whereBehind mi_X2_whereBehind ml_X7_204 rfl rfl rfl (jn_cut [1, 1, 16, 2, 1, 10, 10, 1, 10, 10, 2, 1, 10, 2, 2] [11, 6, 12] [w0 E a fn fd, [(a 1, .inl (E.1.1 101, 8, .inr (.inr (.inr (.inr (rwA a))))))], wRS E a it th ln sz, wT E a 18 t (nI S) (tI 0) (tI 1) (tI 2) (tI 3), [(a 20, .inr (4, [.ref (a 18), .ref (a 21), .int (rI 0), .int (rI 1), .int (rI 2)]))], wH E a 21 (pF 0) (pF 1) (pF 2) (pF 3) (pF 4) (pF 5) (pF 6) (pF 7) (pF 8) (pI 0) (pI 1) (pI 2) (pI 3) (pI 4), wH E a 31 se sn be so lo he n1 n2 n3 (nI R) (nI K) (nI G) (nI 0) (nI 0), [(a 41, .inl (E.1.1 102, 2, .inr (.inr (.inr (.inr (imA a))))))], wH E a 42 (iF 0 0) (iF 0 1) (iF 0 2) (iF 0 3) (iF 0 4) (iF 0 5) (iF 0 6) (iF 0 7) (iF 0 8) (nI (iR 0)) (nI (iK 0)) (nI (iG 0)) (iu 0) (ig 0), wH E a 52 (iF 1 0) (iF 1 1) (iF 1 2) (iF 1 3) (iF 1 4) (iF 1 5) (iF 1 6) (iF 1 7) (iF 1 8) (nI (iR 1)) (nI (iK 1)) (nI (iG 1)) (iu 1) (ig 1), wA E a 62 kp (nI h) (nI x), wF E a 64 31 65 75 (uI 0) (uI 1) (uI 2), wH E a 65 (cF 0) (cF 1) (cF 2) (cF 3) (cF 4) (cF 5) (cF 6) (cF 7) (cF 8) (cI 0) (cI 1) (cI 2) (cI 3) (nI cg), [(a 75, iA E 5 fi), (a 76, iA E 5 sr)], wQ E a 77 31 s] [wF E a 64 31 65 75 (uI 0) (uI 1) (uI 2), wH E a 31 se sn be so lo he n1 n2 n3 (nI R) (nI K) (nI G) (nI 0) (nI 0), wH E a 65 (cF 0) (cF 1) (cF 2) (cF 3) (cF 4) (cF 5) (cF 6) (cF 7) (cF 8) (cI 0) (cI 1) (cI 2) (cI 3) (nI cg)] rfl (by decide) rfl rfl) rfl (Nat.le_of_ble_eq_true rfl) (by decide) (by decide) (by decide) rfl rfl (fun r w1 hpost => ?_)
        obtain ⟨wc, rfl, hwc, rfl⟩ := hpost
        obtain ⟨cF1, cI1, cg1, hcg1, rfl⟩ := hwc.fn
        refine mr_w (ws' := wX E a fn fd it th ln sz t S tI rI pF pI se sn be so lo he n1 n2 n3 R K G iF iR iK iG iu ig kp h x uI cF1 cI1 cg1 fi sr s) (jn_put [1, 1, 16, 2, 1, 10, 10, 1, 10, 10, 2, 1, 10, 2, 2] [11, 6, 12] [w0 E a fn fd, [(a 1, .inl (E.1.1 101, 8, .inr (.inr (.inr (.inr (rwA a))))))], wRS E a it th ln sz, wT E a 18 t (nI S) (tI 0) (tI 1) (tI 2) (tI 3), [(a 20, .inr (4, [.ref (a 18), .ref (a 21), .int (rI 0), .int (rI 1), .int (rI 2)]))], wH E a 21 (pF 0) (pF 1) (pF 2) (pF 3) (pF 4) (pF 5) (pF 6) (pF 7) (pF 8) (pI 0) (pI 1) (pI 2) (pI 3) (pI 4), wH E a 31 se sn be so lo he n1 n2 n3 (nI R) (nI K) (nI G) (nI 0) (nI 0), [(a 41, .inl (E.1.1 102, 2, .inr (.inr (.inr (.inr (imA a))))))], wH E a 42 (iF 0 0) (iF 0 1) (iF 0 2) (iF 0 3) (iF 0 4) (iF 0 5) (iF 0 6) (iF 0 7) (iF 0 8) (nI (iR 0)) (nI (iK 0)) (nI (iG 0)) (iu 0) (ig 0), wH E a 52 (iF 1 0) (iF 1 1) (iF 1 2) (iF 1 3) (iF 1 4) (iF 1 5) (iF 1 6) (iF 1 7) (iF 1 8) (nI (iR 1)) (nI (iK 1)) (nI (iG 1)) (iu 1) (ig 1), wA E a 62 kp (nI h) (nI x), wF E a 64 31 65 75 (uI 0) (uI 1) (uI 2), wH E a 65 (cF 0) (cF 1) (cF 2) (cF 3) (cF 4) (cF 5) (cF 6) (cF 7) (cF 8) (cI 0) (cI 1) (cI 2) (cI 3) (nI cg), [(a 75, iA E 5 fi), (a 76, iA E 5 sr)], wQ E a 77 31 s] [wF E a 64 31 65 75 (uI 0) (uI 1) (uI 2), wH E a 31 se sn be so lo he n1 n2 n3 (nI R) (nI K) (nI G) (nI 0) (nI 0), wH E a 65 (cF1 0) (cF1 1) (cF1 2) (cF1 3) (cF1 4) (cF1 5) (cF1 6) (cF1 7) (cF1 8) (cI1 0) (cI1 1) (cI1 2) (cI1 3) (nI cg1)] [w0 E a fn fd, [(a 1, .inl (E.1.1 101, 8, .inr (.inr (.inr (.inr (rwA a))))))], wRS E a it th ln sz, wT E a 18 t (nI S) (tI 0) (tI 1) (tI 2) (tI 3), [(a 20, .inr (4, [.ref (a 18), .ref (a 21), .int (rI 0), .int (rI 1), .int (rI 2)]))], wH E a 21 (pF 0) (pF 1) (pF 2) (pF 3) (pF 4) (pF 5) (pF 6) (pF 7) (pF 8) (pI 0) (pI 1) (pI 2) (pI 3) (pI 4), wH E a 31 se sn be so lo he n1 n2 n3 (nI R) (nI K) (nI G) (nI 0) (nI 0), [(a 41, .inl (E.1.1 102, 2, .inr (.inr (.inr (.inr (imA a))))))], wH E a 42 (iF 0 0) (iF 0 1) (iF 0 2) (iF 0 3) (iF 0 4) (iF 0 5) (iF 0 6) (iF 0 7) (iF 0 8) (nI (iR 0)) (nI (iK 0)) (nI (iG 0)) (iu 0) (ig 0), wH E a 52 (iF 1 0) (iF 1 1) (iF 1 2) (iF 1 3) (iF 1 4) (iF 1 5) (iF 1 6) (iF 1 7) (iF 1 8) (nI (iR 1)) (nI (iK 1)) (nI (iG 1)) (iu 1) (ig 1), wA E a 62 kp (nI h) (nI x), wF E a 64 31 65 75 (uI 0) (uI 1) (uI 2), wH E a 65 (cF1 0) (cF1 1) (cF1 2) (cF1 3) (cF1 4) (cF1 5) (cF1 6) (cF1 7) (cF1 8) (cI1 0) (cI1 1) (cI1 2) (cI1 3) (nI cg1), [(a 75, iA E 5 fi), (a 76, iA E 5 sr)], wQ E a 77 31 s] rfl (by decide) rfl rfl rfl) ?_
        refine mr_iret C dX7_ahead_33 rfl rfl (by decide) (by decide) hlen ?_
        rw [hO]
        refine ⟨congrArg (fun z => some (Value.int z)) (((ifP_t (by omega)).trans (by rw [ic_, in_])).symm), cF1, cI1, cg1, hcg1, rfl⟩
      · rw [tI_le (by omega)] at c_18
        refine mr_ldc C 23 dX7_ahead_21 rfl kc_X7_70 ?_
        refine mr_iret C dX7_ahead_23 rfl rfl (by decide) (by decide) hlen ?_
        rw [hO]
        refine ⟨congrArg (fun z => some (Value.int z)) (ifP_f (by omega)).symm, cF, cI, cg, hcg, rfl⟩

set_option maxRecDepth 20000 in
set_option maxHeartbeats 4000000 in
theorem c_x_roomAhead (E : EG) (a : Nat → Nat) (fn fd : Int32) (it : Nat → FN) (th ln sz t : FN) (S : Nat) (tI rI : FN) (pF : Nat → FN) (pI se sn be so lo he n1 n2 n3 : FN) (R K G : Nat) (iF : Nat → Nat → FN) (iR iK iG : Nat → Nat) (iu ig kp : FN) (h x : Nat) (uI : FN) (cF : Nat → FN) (cI : FN) (cg : Nat) (fi sr : FN) (s : TRC) (r0 n0 y0 : Int32) (hR : R ≤ 6) (hK : K ≤ 5) (hG : G ≤ 9999) (hl : ∀ c, c < K → lo c = nI (lN_ lo c) ∧ lN_ lo c < R) (hcg : cg < 6) : Ctr E mX7_roomAhead (8, 0, 0) [.ref (a 0), .int r0, .int n0, .int y0] (wX E a fn fd it th ln sz t S tI rI pF pI se sn be so lo he n1 n2 n3 R K G iF iR iK iG iu ig kp h x uI cF cI cg fi sr s) (fun v w => v = some (.int (rmAheadV r0 n0 y0 R K se sn so he (G, be, lN_ lo))) ∧ ∃ (cF' : Nat → FN) (cI' : FN) (cg' : Nat), cg' < 6 ∧ w = wX E a fn fd it th ln sz t S tI rI pF pI se sn be so lo he n1 n2 n3 R K G iF iR iK iG iu ig kp h x uI cF' cI' cg' fi sr s) := by
  refine Ctr.of (by decide) (Nat.le_of_ble_eq_true rfl) ?_
  intro Z hO hn C
  have hlen : zn Z ≤ 79 := by rw [hn]; exact Nat.le_of_ble_eq_true rfl
  refine mr_aload_n C 1 dX7_roomAhead_0 rfl rfl ?_
  refine mr_get C 0 4 dX7_roomAhead_1 rfl fl_X7_34 rfl rfl ?_
  refine mr_iload_n C 5 dX7_roomAhead_4 rfl rfl ?_
  refine mr_callV C (c_isRoomI E a 31 se sn be so lo he n1 n2 n3 (nI K) (nI G) (nI 0) (nI 0) R (by omega) r0) [31, 32, 33, 34, 35, 36, 37, 38, 39, 40] 31 3 8 dX7_roomAhead_5 rfl mk_X3_isRoom mi_X3_isRoom ml_X7_170 rfl rfl rfl (jn_cut [1, 1, 16, 2, 1, 10, 10, 1, 10, 10, 2, 1, 10, 2, 2] [6] [w0 E a fn fd, [(a 1, .inl (E.1.1 101, 8, .inr (.inr (.inr (.inr (rwA a))))))], wRS E a it th ln sz, wT E a 18 t (nI S) (tI 0) (tI 1) (tI 2) (tI 3), [(a 20, .inr (4, [.ref (a 18), .ref (a 21), .int (rI 0), .int (rI 1), .int (rI 2)]))], wH E a 21 (pF 0) (pF 1) (pF 2) (pF 3) (pF 4) (pF 5) (pF 6) (pF 7) (pF 8) (pI 0) (pI 1) (pI 2) (pI 3) (pI 4), wH E a 31 se sn be so lo he n1 n2 n3 (nI R) (nI K) (nI G) (nI 0) (nI 0), [(a 41, .inl (E.1.1 102, 2, .inr (.inr (.inr (.inr (imA a))))))], wH E a 42 (iF 0 0) (iF 0 1) (iF 0 2) (iF 0 3) (iF 0 4) (iF 0 5) (iF 0 6) (iF 0 7) (iF 0 8) (nI (iR 0)) (nI (iK 0)) (nI (iG 0)) (iu 0) (ig 0), wH E a 52 (iF 1 0) (iF 1 1) (iF 1 2) (iF 1 3) (iF 1 4) (iF 1 5) (iF 1 6) (iF 1 7) (iF 1 8) (nI (iR 1)) (nI (iK 1)) (nI (iG 1)) (iu 1) (ig 1), wA E a 62 kp (nI h) (nI x), wF E a 64 31 65 75 (uI 0) (uI 1) (uI 2), wH E a 65 (cF 0) (cF 1) (cF 2) (cF 3) (cF 4) (cF 5) (cF 6) (cF 7) (cF 8) (cI 0) (cI 1) (cI 2) (cI 3) (nI cg), [(a 75, iA E 5 fi), (a 76, iA E 5 sr)], wQ E a 77 31 s] [wH E a 31 se sn be so lo he n1 n2 n3 (nI R) (nI K) (nI G) (nI 0) (nI 0)] rfl (by decide) rfl rfl) rfl (Nat.le_of_ble_eq_true rfl) (by decide) (by decide) (by decide) rfl rfl (fun r w1 hpost => ?_)
  obtain ⟨rfl, rfl⟩ := hpost
  refine mr_w (wput_id (jn_cut [1, 1, 16, 2, 1, 10, 10, 1, 10, 10, 2, 1, 10, 2, 2] [6] [w0 E a fn fd, [(a 1, .inl (E.1.1 101, 8, .inr (.inr (.inr (.inr (rwA a))))))], wRS E a it th ln sz, wT E a 18 t (nI S) (tI 0) (tI 1) (tI 2) (tI 3), [(a 20, .inr (4, [.ref (a 18), .ref (a 21), .int (rI 0), .int (rI 1), .int (rI 2)]))], wH E a 21 (pF 0) (pF 1) (pF 2) (pF 3) (pF 4) (pF 5) (pF 6) (pF 7) (pF 8) (pI 0) (pI 1) (pI 2) (pI 3) (pI 4), wH E a 31 se sn be so lo he n1 n2 n3 (nI R) (nI K) (nI G) (nI 0) (nI 0), [(a 41, .inl (E.1.1 102, 2, .inr (.inr (.inr (.inr (imA a))))))], wH E a 42 (iF 0 0) (iF 0 1) (iF 0 2) (iF 0 3) (iF 0 4) (iF 0 5) (iF 0 6) (iF 0 7) (iF 0 8) (nI (iR 0)) (nI (iK 0)) (nI (iG 0)) (iu 0) (ig 0), wH E a 52 (iF 1 0) (iF 1 1) (iF 1 2) (iF 1 3) (iF 1 4) (iF 1 5) (iF 1 6) (iF 1 7) (iF 1 8) (nI (iR 1)) (nI (iK 1)) (nI (iG 1)) (iu 1) (ig 1), wA E a 62 kp (nI h) (nI x), wF E a 64 31 65 75 (uI 0) (uI 1) (uI 2), wH E a 65 (cF 0) (cF 1) (cF 2) (cF 3) (cF 4) (cF 5) (cF 6) (cF 7) (cF 8) (cI 0) (cI 1) (cI 2) (cI 3) (nI cg), [(a 75, iA E 5 fi), (a 76, iA E 5 sr)], wQ E a 77 31 s] [wH E a 31 se sn be so lo he n1 n2 n3 (nI R) (nI K) (nI G) (nI 0) (nI 0)] rfl (by decide) rfl rfl)) ?_
  refine mr_ifeq C 30 11 dX7_roomAhead_8 (by decide) rfl (fun c_8 => ?_) (fun c_8 => ?_)
  · rw [bI_eq] at c_8
    refine mr_ldc C 32 dX7_roomAhead_30 rfl kc_X7_70 ?_
    refine mr_iret C dX7_roomAhead_32 rfl rfl (by decide) (by decide) hlen ?_
    rw [hO]
    refine ⟨congrArg (fun z => some (Value.int z)) (ifP_f (by omega)).symm, cF, cI, cg, hcg, rfl⟩
  · rw [← Ne, bI_ne] at c_8
    refine mr_iload_n C 12 dX7_roomAhead_11 rfl rfl ?_
    refine mr_iflt C 30 15 dX7_roomAhead_12 (by decide) rfl (fun c_12 => ?_) (fun c_12 => ?_)
    · rw [tI_lt0] at c_12
      refine mr_ldc C 32 dX7_roomAhead_30 rfl kc_X7_70 ?_
      refine mr_iret C dX7_roomAhead_32 rfl rfl (by decide) (by decide) hlen ?_
      rw [hO]
      refine ⟨congrArg (fun z => some (Value.int z)) (ifP_f (by omega)).symm, cF, cI, cg, hcg, rfl⟩
    · rw [tI_lt0] at c_12
      refine mr_iload_n C 16 dX7_roomAhead_15 rfl rfl ?_
      refine mr_bipush C (nI 60) 18 dX7_roomAhead_16 rfl rfl ?_
      refine mr_icmpgt C 30 21 dX7_roomAhead_18 (by decide) rfl (fun c_18 => ?_) (fun c_18 => ?_)
      · rw [tI_gt (by omega)] at c_18
        refine mr_ldc C 32 dX7_roomAhead_30 rfl kc_X7_70 ?_
        refine mr_iret C dX7_roomAhead_32 rfl rfl (by decide) (by decide) hlen ?_
        rw [hO]
        refine ⟨congrArg (fun z => some (Value.int z)) (ifP_f (by omega)).symm, cF, cI, cg, hcg, rfl⟩
      · rw [tI_gt (by omega)] at c_18
        refine mr_iload_n C 22 dX7_roomAhead_21 rfl rfl ?_
        refine mr_iflt C 30 25 dX7_roomAhead_22 (by decide) rfl (fun c_22 => ?_) (fun c_22 => ?_)
        · rw [tI_lt0] at c_22
          refine mr_ldc C 32 dX7_roomAhead_30 rfl kc_X7_70 ?_
          refine mr_iret C dX7_roomAhead_32 rfl rfl (by decide) (by decide) hlen ?_
          rw [hO]
          refine ⟨congrArg (fun z => some (Value.int z)) (ifP_f (by omega)).symm, cF, cI, cg, hcg, rfl⟩
        · rw [tI_lt0] at c_22
          refine mr_iload_n C 26 dX7_roomAhead_25 rfl rfl ?_
          refine mr_iconst C (nI 1) 27 dX7_roomAhead_26 rfl rfl ?_
          refine mr_icmple C 33 30 dX7_roomAhead_27 (by decide) rfl (fun c_27 => ?_) (fun c_27 => ?_)
          · rw [tI_le (by omega)] at c_27
            obtain ⟨r, hr, rfl⟩ := tI_of (x := r0) (n := R) (by omega) (by omega)
            have er : (nI r).toInt = (r : Int) := tI_n (by omega)
            have ir_ : iN (nI r) = r := iN_n (by omega)
            obtain ⟨n, hn, rfl⟩ := tI_of (x := n0) (n := 61) (by omega) (by omega)
            have en : (nI n).toInt = (n : Int) := tI_n (by omega)
            have in_ : iN (nI n) = n := iN_n (by omega)
            refine mr_iload_n C 34 dX7_roomAhead_33 rfl rfl ?_
            refine mr_ifne C 49 37 dX7_roomAhead_34 (by decide) rfl (fun c_34 => ?_) (fun c_34 => ?_)
            · rw [Ne, tI_eq0] at c_34
              refine mr_aload_n C 50 dX7_roomAhead_49 rfl rfl ?_
              refine mr_get C 0 53 dX7_roomAhead_50 rfl fl_X7_54 rfl rfl ?_
              refine mr_iload_n C 54 dX7_roomAhead_53 rfl rfl ?_
              refine mr_iload_n C 55 dX7_roomAhead_54 rfl rfl ?_
              refine mr_callV C (c_worth E a 64 31 65 75 (uI 0) (uI 1) (uI 2) se sn be so lo he n1 n2 n3 (cF 0) (cF 1) (cF 2) (cF 3) (cF 4) (cF 5) (cF 6) (cF 7) (cF 8) (nI 0) (nI 0) (cI 0) (cI 1) (cI 2) (cI 3) R K G cg (lN_ lo) hR hK (by omega) hcg hl r n hr (by omega)) [64, 31, 32, 33, 34, 35, 36, 37, 38, 39, 40, 65, 66, 67, 68, 69, 70, 71, 72, 73, 74] 64 2 58 dX7_roomAhead_55 rfl mk_X2_worth mi_X2_worth ml_X7_210 rfl rfl rfl (jn_cut [1, 1, 16, 2, 1, 10, 10, 1, 10, 10, 2, 1, 10, 2, 2] [11, 6, 12] [w0 E a fn fd, [(a 1, .inl (E.1.1 101, 8, .inr (.inr (.inr (.inr (rwA a))))))], wRS E a it th ln sz, wT E a 18 t (nI S) (tI 0) (tI 1) (tI 2) (tI 3), [(a 20, .inr (4, [.ref (a 18), .ref (a 21), .int (rI 0), .int (rI 1), .int (rI 2)]))], wH E a 21 (pF 0) (pF 1) (pF 2) (pF 3) (pF 4) (pF 5) (pF 6) (pF 7) (pF 8) (pI 0) (pI 1) (pI 2) (pI 3) (pI 4), wH E a 31 se sn be so lo he n1 n2 n3 (nI R) (nI K) (nI G) (nI 0) (nI 0), [(a 41, .inl (E.1.1 102, 2, .inr (.inr (.inr (.inr (imA a))))))], wH E a 42 (iF 0 0) (iF 0 1) (iF 0 2) (iF 0 3) (iF 0 4) (iF 0 5) (iF 0 6) (iF 0 7) (iF 0 8) (nI (iR 0)) (nI (iK 0)) (nI (iG 0)) (iu 0) (ig 0), wH E a 52 (iF 1 0) (iF 1 1) (iF 1 2) (iF 1 3) (iF 1 4) (iF 1 5) (iF 1 6) (iF 1 7) (iF 1 8) (nI (iR 1)) (nI (iK 1)) (nI (iG 1)) (iu 1) (ig 1), wA E a 62 kp (nI h) (nI x), wF E a 64 31 65 75 (uI 0) (uI 1) (uI 2), wH E a 65 (cF 0) (cF 1) (cF 2) (cF 3) (cF 4) (cF 5) (cF 6) (cF 7) (cF 8) (cI 0) (cI 1) (cI 2) (cI 3) (nI cg), [(a 75, iA E 5 fi), (a 76, iA E 5 sr)], wQ E a 77 31 s] [wF E a 64 31 65 75 (uI 0) (uI 1) (uI 2), wH E a 31 se sn be so lo he n1 n2 n3 (nI R) (nI K) (nI G) (nI 0) (nI 0), wH E a 65 (cF 0) (cF 1) (cF 2) (cF 3) (cF 4) (cF 5) (cF 6) (cF 7) (cF 8) (cI 0) (cI 1) (cI 2) (cI 3) (nI cg)] rfl (by decide) rfl rfl) rfl (Nat.le_of_ble_eq_true rfl) (by decide) (by decide) (by decide) rfl rfl (fun r w1 hpost => ?_)
              obtain ⟨wc, rfl, hwc, rfl⟩ := hpost
              obtain ⟨cF1, cI1, cg1, hcg1, rfl⟩ := hwc.fn
              refine mr_w (ws' := wX E a fn fd it th ln sz t S tI rI pF pI se sn be so lo he n1 n2 n3 R K G iF iR iK iG iu ig kp h x uI cF1 cI1 cg1 fi sr s) (jn_put [1, 1, 16, 2, 1, 10, 10, 1, 10, 10, 2, 1, 10, 2, 2] [11, 6, 12] [w0 E a fn fd, [(a 1, .inl (E.1.1 101, 8, .inr (.inr (.inr (.inr (rwA a))))))], wRS E a it th ln sz, wT E a 18 t (nI S) (tI 0) (tI 1) (tI 2) (tI 3), [(a 20, .inr (4, [.ref (a 18), .ref (a 21), .int (rI 0), .int (rI 1), .int (rI 2)]))], wH E a 21 (pF 0) (pF 1) (pF 2) (pF 3) (pF 4) (pF 5) (pF 6) (pF 7) (pF 8) (pI 0) (pI 1) (pI 2) (pI 3) (pI 4), wH E a 31 se sn be so lo he n1 n2 n3 (nI R) (nI K) (nI G) (nI 0) (nI 0), [(a 41, .inl (E.1.1 102, 2, .inr (.inr (.inr (.inr (imA a))))))], wH E a 42 (iF 0 0) (iF 0 1) (iF 0 2) (iF 0 3) (iF 0 4) (iF 0 5) (iF 0 6) (iF 0 7) (iF 0 8) (nI (iR 0)) (nI (iK 0)) (nI (iG 0)) (iu 0) (ig 0), wH E a 52 (iF 1 0) (iF 1 1) (iF 1 2) (iF 1 3) (iF 1 4) (iF 1 5) (iF 1 6) (iF 1 7) (iF 1 8) (nI (iR 1)) (nI (iK 1)) (nI (iG 1)) (iu 1) (ig 1), wA E a 62 kp (nI h) (nI x), wF E a 64 31 65 75 (uI 0) (uI 1) (uI 2), wH E a 65 (cF 0) (cF 1) (cF 2) (cF 3) (cF 4) (cF 5) (cF 6) (cF 7) (cF 8) (cI 0) (cI 1) (cI 2) (cI 3) (nI cg), [(a 75, iA E 5 fi), (a 76, iA E 5 sr)], wQ E a 77 31 s] [wF E a 64 31 65 75 (uI 0) (uI 1) (uI 2), wH E a 31 se sn be so lo he n1 n2 n3 (nI R) (nI K) (nI G) (nI 0) (nI 0), wH E a 65 (cF1 0) (cF1 1) (cF1 2) (cF1 3) (cF1 4) (cF1 5) (cF1 6) (cF1 7) (cF1 8) (cI1 0) (cI1 1) (cI1 2) (cI1 3) (nI cg1)] [w0 E a fn fd, [(a 1, .inl (E.1.1 101, 8, .inr (.inr (.inr (.inr (rwA a))))))], wRS E a it th ln sz, wT E a 18 t (nI S) (tI 0) (tI 1) (tI 2) (tI 3), [(a 20, .inr (4, [.ref (a 18), .ref (a 21), .int (rI 0), .int (rI 1), .int (rI 2)]))], wH E a 21 (pF 0) (pF 1) (pF 2) (pF 3) (pF 4) (pF 5) (pF 6) (pF 7) (pF 8) (pI 0) (pI 1) (pI 2) (pI 3) (pI 4), wH E a 31 se sn be so lo he n1 n2 n3 (nI R) (nI K) (nI G) (nI 0) (nI 0), [(a 41, .inl (E.1.1 102, 2, .inr (.inr (.inr (.inr (imA a))))))], wH E a 42 (iF 0 0) (iF 0 1) (iF 0 2) (iF 0 3) (iF 0 4) (iF 0 5) (iF 0 6) (iF 0 7) (iF 0 8) (nI (iR 0)) (nI (iK 0)) (nI (iG 0)) (iu 0) (ig 0), wH E a 52 (iF 1 0) (iF 1 1) (iF 1 2) (iF 1 3) (iF 1 4) (iF 1 5) (iF 1 6) (iF 1 7) (iF 1 8) (nI (iR 1)) (nI (iK 1)) (nI (iG 1)) (iu 1) (ig 1), wA E a 62 kp (nI h) (nI x), wF E a 64 31 65 75 (uI 0) (uI 1) (uI 2), wH E a 65 (cF1 0) (cF1 1) (cF1 2) (cF1 3) (cF1 4) (cF1 5) (cF1 6) (cF1 7) (cF1 8) (cI1 0) (cI1 1) (cI1 2) (cI1 3) (nI cg1), [(a 75, iA E 5 fi), (a 76, iA E 5 sr)], wQ E a 77 31 s] rfl (by decide) rfl rfl rfl) ?_
              refine mr_iret C dX7_roomAhead_58 rfl rfl (by decide) (by decide) hlen ?_
              rw [hO]
              refine ⟨congrArg (fun z => some (Value.int z)) (((ifP_t (by omega)).trans (ifP_f (by omega) |>.trans (by rw [ir_, in_]))).symm), cF1, cI1, cg1, hcg1, rfl⟩
            · rw [tI_eq0] at c_34
              refine mr_aload_n C 38 dX7_roomAhead_37 rfl rfl ?_
              refine mr_get C 0 41 dX7_roomAhead_38 rfl fl_X7_54 rfl rfl ?_
              refine mr_iload_n C 42 dX7_roomAhead_41 rfl rfl ?_
              refine mr_iload_n C 43 dX7_roomAhead_42 rfl rfl ?_
              refine mr_callV C (c_headsBehind E a 64 31 65 75 (uI 0) (uI 1) (uI 2) se sn be so lo he n1 n2 n3 (cF 0) (cF 1) (cF 2) (cF 3) (cF 4) (cF 5) (cF 6) (cF 7) (cF 8) (nI 0) (nI 0) (cI 0) (cI 1) (cI 2) (cI 3) R K G cg (lN_ lo) hR hK (by omega) hcg hl r n hr (by omega)) [64, 31, 32, 33, 34, 35, 36, 37, 38, 39, 40, 65, 66, 67, 68, 69, 70, 71, 72, 73, 74] 64 2 46 dX7_roomAhead_43 rfl mk_X2_headsBehind mi_X2_headsBehind ml_X7_207 rfl rfl rfl (jn_cut [1, 1, 16, 2, 1, 10, 10, 1, 10, 10, 2, 1, 10, 2, 2] [11, 6, 12] [w0 E a fn fd, [(a 1, .inl (E.1.1 101, 8, .inr (.inr (.inr (.inr (rwA a))))))], wRS E a it th ln sz, wT E a 18 t (nI S) (tI 0) (tI 1) (tI 2) (tI 3), [(a 20, .inr (4, [.ref (a 18), .ref (a 21), .int (rI 0), .int (rI 1), .int (rI 2)]))], wH E a 21 (pF 0) (pF 1) (pF 2) (pF 3) (pF 4) (pF 5) (pF 6) (pF 7) (pF 8) (pI 0) (pI 1) (pI 2) (pI 3) (pI 4), wH E a 31 se sn be so lo he n1 n2 n3 (nI R) (nI K) (nI G) (nI 0) (nI 0), [(a 41, .inl (E.1.1 102, 2, .inr (.inr (.inr (.inr (imA a))))))], wH E a 42 (iF 0 0) (iF 0 1) (iF 0 2) (iF 0 3) (iF 0 4) (iF 0 5) (iF 0 6) (iF 0 7) (iF 0 8) (nI (iR 0)) (nI (iK 0)) (nI (iG 0)) (iu 0) (ig 0), wH E a 52 (iF 1 0) (iF 1 1) (iF 1 2) (iF 1 3) (iF 1 4) (iF 1 5) (iF 1 6) (iF 1 7) (iF 1 8) (nI (iR 1)) (nI (iK 1)) (nI (iG 1)) (iu 1) (ig 1), wA E a 62 kp (nI h) (nI x), wF E a 64 31 65 75 (uI 0) (uI 1) (uI 2), wH E a 65 (cF 0) (cF 1) (cF 2) (cF 3) (cF 4) (cF 5) (cF 6) (cF 7) (cF 8) (cI 0) (cI 1) (cI 2) (cI 3) (nI cg), [(a 75, iA E 5 fi), (a 76, iA E 5 sr)], wQ E a 77 31 s] [wF E a 64 31 65 75 (uI 0) (uI 1) (uI 2), wH E a 31 se sn be so lo he n1 n2 n3 (nI R) (nI K) (nI G) (nI 0) (nI 0), wH E a 65 (cF 0) (cF 1) (cF 2) (cF 3) (cF 4) (cF 5) (cF 6) (cF 7) (cF 8) (cI 0) (cI 1) (cI 2) (cI 3) (nI cg)] rfl (by decide) rfl rfl) rfl (Nat.le_of_ble_eq_true rfl) (by decide) (by decide) (by decide) rfl rfl (fun r w1 hpost => ?_)
              obtain ⟨wc, rfl, hwc, rfl⟩ := hpost
              obtain ⟨cF1, cI1, cg1, hcg1, rfl⟩ := hwc.fn
              refine mr_w (ws' := wX E a fn fd it th ln sz t S tI rI pF pI se sn be so lo he n1 n2 n3 R K G iF iR iK iG iu ig kp h x uI cF1 cI1 cg1 fi sr s) (jn_put [1, 1, 16, 2, 1, 10, 10, 1, 10, 10, 2, 1, 10, 2, 2] [11, 6, 12] [w0 E a fn fd, [(a 1, .inl (E.1.1 101, 8, .inr (.inr (.inr (.inr (rwA a))))))], wRS E a it th ln sz, wT E a 18 t (nI S) (tI 0) (tI 1) (tI 2) (tI 3), [(a 20, .inr (4, [.ref (a 18), .ref (a 21), .int (rI 0), .int (rI 1), .int (rI 2)]))], wH E a 21 (pF 0) (pF 1) (pF 2) (pF 3) (pF 4) (pF 5) (pF 6) (pF 7) (pF 8) (pI 0) (pI 1) (pI 2) (pI 3) (pI 4), wH E a 31 se sn be so lo he n1 n2 n3 (nI R) (nI K) (nI G) (nI 0) (nI 0), [(a 41, .inl (E.1.1 102, 2, .inr (.inr (.inr (.inr (imA a))))))], wH E a 42 (iF 0 0) (iF 0 1) (iF 0 2) (iF 0 3) (iF 0 4) (iF 0 5) (iF 0 6) (iF 0 7) (iF 0 8) (nI (iR 0)) (nI (iK 0)) (nI (iG 0)) (iu 0) (ig 0), wH E a 52 (iF 1 0) (iF 1 1) (iF 1 2) (iF 1 3) (iF 1 4) (iF 1 5) (iF 1 6) (iF 1 7) (iF 1 8) (nI (iR 1)) (nI (iK 1)) (nI (iG 1)) (iu 1) (ig 1), wA E a 62 kp (nI h) (nI x), wF E a 64 31 65 75 (uI 0) (uI 1) (uI 2), wH E a 65 (cF 0) (cF 1) (cF 2) (cF 3) (cF 4) (cF 5) (cF 6) (cF 7) (cF 8) (cI 0) (cI 1) (cI 2) (cI 3) (nI cg), [(a 75, iA E 5 fi), (a 76, iA E 5 sr)], wQ E a 77 31 s] [wF E a 64 31 65 75 (uI 0) (uI 1) (uI 2), wH E a 31 se sn be so lo he n1 n2 n3 (nI R) (nI K) (nI G) (nI 0) (nI 0), wH E a 65 (cF1 0) (cF1 1) (cF1 2) (cF1 3) (cF1 4) (cF1 5) (cF1 6) (cF1 7) (cF1 8) (cI1 0) (cI1 1) (cI1 2) (cI1 3) (nI cg1)] [w0 E a fn fd, [(a 1, .inl (E.1.1 101, 8, .inr (.inr (.inr (.inr (rwA a))))))], wRS E a it th ln sz, wT E a 18 t (nI S) (tI 0) (tI 1) (tI 2) (tI 3), [(a 20, .inr (4, [.ref (a 18), .ref (a 21), .int (rI 0), .int (rI 1), .int (rI 2)]))], wH E a 21 (pF 0) (pF 1) (pF 2) (pF 3) (pF 4) (pF 5) (pF 6) (pF 7) (pF 8) (pI 0) (pI 1) (pI 2) (pI 3) (pI 4), wH E a 31 se sn be so lo he n1 n2 n3 (nI R) (nI K) (nI G) (nI 0) (nI 0), [(a 41, .inl (E.1.1 102, 2, .inr (.inr (.inr (.inr (imA a))))))], wH E a 42 (iF 0 0) (iF 0 1) (iF 0 2) (iF 0 3) (iF 0 4) (iF 0 5) (iF 0 6) (iF 0 7) (iF 0 8) (nI (iR 0)) (nI (iK 0)) (nI (iG 0)) (iu 0) (ig 0), wH E a 52 (iF 1 0) (iF 1 1) (iF 1 2) (iF 1 3) (iF 1 4) (iF 1 5) (iF 1 6) (iF 1 7) (iF 1 8) (nI (iR 1)) (nI (iK 1)) (nI (iG 1)) (iu 1) (ig 1), wA E a 62 kp (nI h) (nI x), wF E a 64 31 65 75 (uI 0) (uI 1) (uI 2), wH E a 65 (cF1 0) (cF1 1) (cF1 2) (cF1 3) (cF1 4) (cF1 5) (cF1 6) (cF1 7) (cF1 8) (cI1 0) (cI1 1) (cI1 2) (cI1 3) (nI cg1), [(a 75, iA E 5 fi), (a 76, iA E 5 sr)], wQ E a 77 31 s] rfl (by decide) rfl rfl rfl) ?_
              refine mr_goto C 58 dX7_roomAhead_46 (by decide) ?_
              refine mr_iret C dX7_roomAhead_58 rfl rfl (by decide) (by decide) hlen ?_
              rw [hO]
              refine ⟨congrArg (fun z => some (Value.int z)) (((ifP_t (by omega)).trans (ifP_t (by omega) |>.trans (by rw [ir_, in_]))).symm), cF1, cI1, cg1, hcg1, rfl⟩
          · rw [tI_le (by omega)] at c_27
            refine mr_ldc C 32 dX7_roomAhead_30 rfl kc_X7_70 ?_
            refine mr_iret C dX7_roomAhead_32 rfl rfl (by decide) (by decide) hlen ?_
            rw [hO]
            refine ⟨congrArg (fun z => some (Value.int z)) (ifP_f (by omega)).symm, cF, cI, cg, hcg, rfl⟩

set_option maxRecDepth 20000 in
set_option maxHeartbeats 4000000 in
theorem c_x_rest (E : EG) (a : Nat → Nat) (fn fd : Int32) (it : Nat → FN) (th ln sz t : FN) (S : Nat) (tI rI : FN) (pF : Nat → FN) (pI se sn be so lo he n1 n2 n3 : FN) (R K G : Nat) (iF : Nat → Nat → FN) (iR iK iG : Nat → Nat) (iu ig kp : FN) (h x : Nat) (uI : FN) (cF : Nat → FN) (cI : FN) (cg : Nat) (fi sr : FN) (s : TRC) (y0 : Int32) (hR : R ≤ 6) (hK : K ≤ 5) (hG : G ≤ 9999) (hl : ∀ c, c < K → lo c = nI (lN_ lo c) ∧ lN_ lo c < R) (hcg : cg < 6) : Ctr E mX7_rest (8, 0, 0) [.ref (a 0), .int y0] (wX E a fn fd it th ln sz t S tI rI pF pI se sn be so lo he n1 n2 n3 R K G iF iR iK iG iu ig kp h x uI cF cI cg fi sr s) (fun v w => v = some (.int (restV y0 R K sn so he (G, be, lN_ lo))) ∧ ∃ (cF' : Nat → FN) (cI' : FN) (cg' : Nat), cg' < 6 ∧ w = wX E a fn fd it th ln sz t S tI rI pF pI se sn be so lo he n1 n2 n3 R K G iF iR iK iG iu ig kp h x uI cF' cI' cg' fi sr s) := by
  refine Ctr.of (by decide) (Nat.le_of_ble_eq_true rfl) ?_
  intro Z hO hn C
  have hlen : zn Z ≤ 79 := by rw [hn]; exact Nat.le_of_ble_eq_true rfl
  refine mr_aload_n C 1 dX7_rest_0 rfl rfl ?_
  refine mr_get C 0 4 dX7_rest_1 rfl fl_X7_34 rfl rfl ?_
  refine mr_get C 31 7 dX7_rest_4 rfl fl_X7_138 rfl rfl ?_
  refine mr_ifne C 13 10 dX7_rest_7 (by decide) rfl (fun c_7 => ?_) (fun c_7 => ?_)
  · have c_7 : ¬ R = 0 := fun h => c_7 (by rw [h]; rfl)
    refine mr_iload_n C 14 dX7_rest_13 rfl rfl ?_
    refine mr_iflt C 22 17 dX7_rest_14 (by decide) rfl (fun c_14 => ?_) (fun c_14 => ?_)
    · rw [tI_lt0] at c_14
      refine mr_ldc C 24 dX7_rest_22 rfl kc_X7_70 ?_
      refine mr_iret C dX7_rest_24 rfl rfl (by decide) (by decide) hlen ?_
      rw [hO]
      refine ⟨congrArg (fun z => some (Value.int z)) (((ifP_f c_7).trans (ifP_f (by omega))).symm), cF, cI, cg, hcg, rfl⟩
    · rw [tI_lt0] at c_14
      refine mr_iload_n C 18 dX7_rest_17 rfl rfl ?_
      refine mr_iconst C (nI 1) 19 dX7_rest_18 rfl rfl ?_
      refine mr_icmple C 25 22 dX7_rest_19 (by decide) rfl (fun c_19 => ?_) (fun c_19 => ?_)
      · rw [tI_le (by omega)] at c_19
        refine mr_iload_n C 26 dX7_rest_25 rfl rfl ?_
        refine mr_ifne C 39 29 dX7_rest_26 (by decide) rfl (fun c_26 => ?_) (fun c_26 => ?_)
        · rw [Ne, tI_eq0] at c_26
          refine mr_aload_n C 40 dX7_rest_39 rfl rfl ?_
          refine mr_get C 0 43 dX7_rest_40 rfl fl_X7_54 rfl rfl ?_
          refine mr_callV C (c_bellsToRing E a 64 31 65 75 (uI 0) (uI 1) (uI 2) se sn be so lo he n1 n2 n3 (cF 0) (cF 1) (cF 2) (cF 3) (cF 4) (cF 5) (cF 6) (cF 7) (cF 8) (nI 0) (nI 0) (cI 0) (cI 1) (cI 2) (cI 3) R K G cg (lN_ lo) hR hK (by omega) hcg hl ) [64, 31, 32, 33, 34, 35, 36, 37, 38, 39, 40, 65, 66, 67, 68, 69, 70, 71, 72, 73, 74] 64 2 46 dX7_rest_43 rfl mk_X2_bellsToRing mi_X2_bellsToRing ml_X7_216 rfl rfl rfl (jn_cut [1, 1, 16, 2, 1, 10, 10, 1, 10, 10, 2, 1, 10, 2, 2] [11, 6, 12] [w0 E a fn fd, [(a 1, .inl (E.1.1 101, 8, .inr (.inr (.inr (.inr (rwA a))))))], wRS E a it th ln sz, wT E a 18 t (nI S) (tI 0) (tI 1) (tI 2) (tI 3), [(a 20, .inr (4, [.ref (a 18), .ref (a 21), .int (rI 0), .int (rI 1), .int (rI 2)]))], wH E a 21 (pF 0) (pF 1) (pF 2) (pF 3) (pF 4) (pF 5) (pF 6) (pF 7) (pF 8) (pI 0) (pI 1) (pI 2) (pI 3) (pI 4), wH E a 31 se sn be so lo he n1 n2 n3 (nI R) (nI K) (nI G) (nI 0) (nI 0), [(a 41, .inl (E.1.1 102, 2, .inr (.inr (.inr (.inr (imA a))))))], wH E a 42 (iF 0 0) (iF 0 1) (iF 0 2) (iF 0 3) (iF 0 4) (iF 0 5) (iF 0 6) (iF 0 7) (iF 0 8) (nI (iR 0)) (nI (iK 0)) (nI (iG 0)) (iu 0) (ig 0), wH E a 52 (iF 1 0) (iF 1 1) (iF 1 2) (iF 1 3) (iF 1 4) (iF 1 5) (iF 1 6) (iF 1 7) (iF 1 8) (nI (iR 1)) (nI (iK 1)) (nI (iG 1)) (iu 1) (ig 1), wA E a 62 kp (nI h) (nI x), wF E a 64 31 65 75 (uI 0) (uI 1) (uI 2), wH E a 65 (cF 0) (cF 1) (cF 2) (cF 3) (cF 4) (cF 5) (cF 6) (cF 7) (cF 8) (cI 0) (cI 1) (cI 2) (cI 3) (nI cg), [(a 75, iA E 5 fi), (a 76, iA E 5 sr)], wQ E a 77 31 s] [wF E a 64 31 65 75 (uI 0) (uI 1) (uI 2), wH E a 31 se sn be so lo he n1 n2 n3 (nI R) (nI K) (nI G) (nI 0) (nI 0), wH E a 65 (cF 0) (cF 1) (cF 2) (cF 3) (cF 4) (cF 5) (cF 6) (cF 7) (cF 8) (cI 0) (cI 1) (cI 2) (cI 3) (nI cg)] rfl (by decide) rfl rfl) rfl (Nat.le_of_ble_eq_true rfl) (by decide) (by decide) (by decide) rfl rfl (fun r w1 hpost => ?_)
          obtain ⟨wc, rfl, hwc, rfl⟩ := hpost
          obtain ⟨cF1, cI1, cg1, hcg1, rfl⟩ := hwc.fn
          refine mr_w (ws' := wX E a fn fd it th ln sz t S tI rI pF pI se sn be so lo he n1 n2 n3 R K G iF iR iK iG iu ig kp h x uI cF1 cI1 cg1 fi sr s) (jn_put [1, 1, 16, 2, 1, 10, 10, 1, 10, 10, 2, 1, 10, 2, 2] [11, 6, 12] [w0 E a fn fd, [(a 1, .inl (E.1.1 101, 8, .inr (.inr (.inr (.inr (rwA a))))))], wRS E a it th ln sz, wT E a 18 t (nI S) (tI 0) (tI 1) (tI 2) (tI 3), [(a 20, .inr (4, [.ref (a 18), .ref (a 21), .int (rI 0), .int (rI 1), .int (rI 2)]))], wH E a 21 (pF 0) (pF 1) (pF 2) (pF 3) (pF 4) (pF 5) (pF 6) (pF 7) (pF 8) (pI 0) (pI 1) (pI 2) (pI 3) (pI 4), wH E a 31 se sn be so lo he n1 n2 n3 (nI R) (nI K) (nI G) (nI 0) (nI 0), [(a 41, .inl (E.1.1 102, 2, .inr (.inr (.inr (.inr (imA a))))))], wH E a 42 (iF 0 0) (iF 0 1) (iF 0 2) (iF 0 3) (iF 0 4) (iF 0 5) (iF 0 6) (iF 0 7) (iF 0 8) (nI (iR 0)) (nI (iK 0)) (nI (iG 0)) (iu 0) (ig 0), wH E a 52 (iF 1 0) (iF 1 1) (iF 1 2) (iF 1 3) (iF 1 4) (iF 1 5) (iF 1 6) (iF 1 7) (iF 1 8) (nI (iR 1)) (nI (iK 1)) (nI (iG 1)) (iu 1) (ig 1), wA E a 62 kp (nI h) (nI x), wF E a 64 31 65 75 (uI 0) (uI 1) (uI 2), wH E a 65 (cF 0) (cF 1) (cF 2) (cF 3) (cF 4) (cF 5) (cF 6) (cF 7) (cF 8) (cI 0) (cI 1) (cI 2) (cI 3) (nI cg), [(a 75, iA E 5 fi), (a 76, iA E 5 sr)], wQ E a 77 31 s] [wF E a 64 31 65 75 (uI 0) (uI 1) (uI 2), wH E a 31 se sn be so lo he n1 n2 n3 (nI R) (nI K) (nI G) (nI 0) (nI 0), wH E a 65 (cF1 0) (cF1 1) (cF1 2) (cF1 3) (cF1 4) (cF1 5) (cF1 6) (cF1 7) (cF1 8) (cI1 0) (cI1 1) (cI1 2) (cI1 3) (nI cg1)] [w0 E a fn fd, [(a 1, .inl (E.1.1 101, 8, .inr (.inr (.inr (.inr (rwA a))))))], wRS E a it th ln sz, wT E a 18 t (nI S) (tI 0) (tI 1) (tI 2) (tI 3), [(a 20, .inr (4, [.ref (a 18), .ref (a 21), .int (rI 0), .int (rI 1), .int (rI 2)]))], wH E a 21 (pF 0) (pF 1) (pF 2) (pF 3) (pF 4) (pF 5) (pF 6) (pF 7) (pF 8) (pI 0) (pI 1) (pI 2) (pI 3) (pI 4), wH E a 31 se sn be so lo he n1 n2 n3 (nI R) (nI K) (nI G) (nI 0) (nI 0), [(a 41, .inl (E.1.1 102, 2, .inr (.inr (.inr (.inr (imA a))))))], wH E a 42 (iF 0 0) (iF 0 1) (iF 0 2) (iF 0 3) (iF 0 4) (iF 0 5) (iF 0 6) (iF 0 7) (iF 0 8) (nI (iR 0)) (nI (iK 0)) (nI (iG 0)) (iu 0) (ig 0), wH E a 52 (iF 1 0) (iF 1 1) (iF 1 2) (iF 1 3) (iF 1 4) (iF 1 5) (iF 1 6) (iF 1 7) (iF 1 8) (nI (iR 1)) (nI (iK 1)) (nI (iG 1)) (iu 1) (ig 1), wA E a 62 kp (nI h) (nI x), wF E a 64 31 65 75 (uI 0) (uI 1) (uI 2), wH E a 65 (cF1 0) (cF1 1) (cF1 2) (cF1 3) (cF1 4) (cF1 5) (cF1 6) (cF1 7) (cF1 8) (cI1 0) (cI1 1) (cI1 2) (cI1 3) (nI cg1), [(a 75, iA E 5 fi), (a 76, iA E 5 sr)], wQ E a 77 31 s] rfl (by decide) rfl rfl rfl) ?_
          refine mr_iret C dX7_rest_46 rfl rfl (by decide) (by decide) hlen ?_
          rw [hO]
          refine ⟨congrArg (fun z => some (Value.int z)) (((ifP_f c_7).trans ((ifP_t (by omega)).trans (ifP_f (by omega)))).symm), cF1, cI1, cg1, hcg1, rfl⟩
        · rw [tI_eq0] at c_26
          refine mr_aload_n C 30 dX7_rest_29 rfl rfl ?_
          refine mr_get C 0 33 dX7_rest_30 rfl fl_X7_54 rfl rfl ?_
          refine mr_callV C (c_bellsToRest E a 64 31 65 75 (uI 0) (uI 1) (uI 2) se sn be so lo he n1 n2 n3 (cF 0) (cF 1) (cF 2) (cF 3) (cF 4) (cF 5) (cF 6) (cF 7) (cF 8) (nI 0) (nI 0) (cI 0) (cI 1) (cI 2) (cI 3) R K G cg (lN_ lo) hR hK (by omega) hcg hl ) [64, 31, 32, 33, 34, 35, 36, 37, 38, 39, 40, 65, 66, 67, 68, 69, 70, 71, 72, 73, 74] 64 2 36 dX7_rest_33 rfl mk_X2_bellsToRest mi_X2_bellsToRest ml_X7_213 rfl rfl rfl (jn_cut [1, 1, 16, 2, 1, 10, 10, 1, 10, 10, 2, 1, 10, 2, 2] [11, 6, 12] [w0 E a fn fd, [(a 1, .inl (E.1.1 101, 8, .inr (.inr (.inr (.inr (rwA a))))))], wRS E a it th ln sz, wT E a 18 t (nI S) (tI 0) (tI 1) (tI 2) (tI 3), [(a 20, .inr (4, [.ref (a 18), .ref (a 21), .int (rI 0), .int (rI 1), .int (rI 2)]))], wH E a 21 (pF 0) (pF 1) (pF 2) (pF 3) (pF 4) (pF 5) (pF 6) (pF 7) (pF 8) (pI 0) (pI 1) (pI 2) (pI 3) (pI 4), wH E a 31 se sn be so lo he n1 n2 n3 (nI R) (nI K) (nI G) (nI 0) (nI 0), [(a 41, .inl (E.1.1 102, 2, .inr (.inr (.inr (.inr (imA a))))))], wH E a 42 (iF 0 0) (iF 0 1) (iF 0 2) (iF 0 3) (iF 0 4) (iF 0 5) (iF 0 6) (iF 0 7) (iF 0 8) (nI (iR 0)) (nI (iK 0)) (nI (iG 0)) (iu 0) (ig 0), wH E a 52 (iF 1 0) (iF 1 1) (iF 1 2) (iF 1 3) (iF 1 4) (iF 1 5) (iF 1 6) (iF 1 7) (iF 1 8) (nI (iR 1)) (nI (iK 1)) (nI (iG 1)) (iu 1) (ig 1), wA E a 62 kp (nI h) (nI x), wF E a 64 31 65 75 (uI 0) (uI 1) (uI 2), wH E a 65 (cF 0) (cF 1) (cF 2) (cF 3) (cF 4) (cF 5) (cF 6) (cF 7) (cF 8) (cI 0) (cI 1) (cI 2) (cI 3) (nI cg), [(a 75, iA E 5 fi), (a 76, iA E 5 sr)], wQ E a 77 31 s] [wF E a 64 31 65 75 (uI 0) (uI 1) (uI 2), wH E a 31 se sn be so lo he n1 n2 n3 (nI R) (nI K) (nI G) (nI 0) (nI 0), wH E a 65 (cF 0) (cF 1) (cF 2) (cF 3) (cF 4) (cF 5) (cF 6) (cF 7) (cF 8) (cI 0) (cI 1) (cI 2) (cI 3) (nI cg)] rfl (by decide) rfl rfl) rfl (Nat.le_of_ble_eq_true rfl) (by decide) (by decide) (by decide) rfl rfl (fun r w1 hpost => ?_)
          obtain ⟨wc, rfl, hwc, rfl⟩ := hpost
          obtain ⟨cF1, cI1, cg1, hcg1, rfl⟩ := hwc.fn
          refine mr_w (ws' := wX E a fn fd it th ln sz t S tI rI pF pI se sn be so lo he n1 n2 n3 R K G iF iR iK iG iu ig kp h x uI cF1 cI1 cg1 fi sr s) (jn_put [1, 1, 16, 2, 1, 10, 10, 1, 10, 10, 2, 1, 10, 2, 2] [11, 6, 12] [w0 E a fn fd, [(a 1, .inl (E.1.1 101, 8, .inr (.inr (.inr (.inr (rwA a))))))], wRS E a it th ln sz, wT E a 18 t (nI S) (tI 0) (tI 1) (tI 2) (tI 3), [(a 20, .inr (4, [.ref (a 18), .ref (a 21), .int (rI 0), .int (rI 1), .int (rI 2)]))], wH E a 21 (pF 0) (pF 1) (pF 2) (pF 3) (pF 4) (pF 5) (pF 6) (pF 7) (pF 8) (pI 0) (pI 1) (pI 2) (pI 3) (pI 4), wH E a 31 se sn be so lo he n1 n2 n3 (nI R) (nI K) (nI G) (nI 0) (nI 0), [(a 41, .inl (E.1.1 102, 2, .inr (.inr (.inr (.inr (imA a))))))], wH E a 42 (iF 0 0) (iF 0 1) (iF 0 2) (iF 0 3) (iF 0 4) (iF 0 5) (iF 0 6) (iF 0 7) (iF 0 8) (nI (iR 0)) (nI (iK 0)) (nI (iG 0)) (iu 0) (ig 0), wH E a 52 (iF 1 0) (iF 1 1) (iF 1 2) (iF 1 3) (iF 1 4) (iF 1 5) (iF 1 6) (iF 1 7) (iF 1 8) (nI (iR 1)) (nI (iK 1)) (nI (iG 1)) (iu 1) (ig 1), wA E a 62 kp (nI h) (nI x), wF E a 64 31 65 75 (uI 0) (uI 1) (uI 2), wH E a 65 (cF 0) (cF 1) (cF 2) (cF 3) (cF 4) (cF 5) (cF 6) (cF 7) (cF 8) (cI 0) (cI 1) (cI 2) (cI 3) (nI cg), [(a 75, iA E 5 fi), (a 76, iA E 5 sr)], wQ E a 77 31 s] [wF E a 64 31 65 75 (uI 0) (uI 1) (uI 2), wH E a 31 se sn be so lo he n1 n2 n3 (nI R) (nI K) (nI G) (nI 0) (nI 0), wH E a 65 (cF1 0) (cF1 1) (cF1 2) (cF1 3) (cF1 4) (cF1 5) (cF1 6) (cF1 7) (cF1 8) (cI1 0) (cI1 1) (cI1 2) (cI1 3) (nI cg1)] [w0 E a fn fd, [(a 1, .inl (E.1.1 101, 8, .inr (.inr (.inr (.inr (rwA a))))))], wRS E a it th ln sz, wT E a 18 t (nI S) (tI 0) (tI 1) (tI 2) (tI 3), [(a 20, .inr (4, [.ref (a 18), .ref (a 21), .int (rI 0), .int (rI 1), .int (rI 2)]))], wH E a 21 (pF 0) (pF 1) (pF 2) (pF 3) (pF 4) (pF 5) (pF 6) (pF 7) (pF 8) (pI 0) (pI 1) (pI 2) (pI 3) (pI 4), wH E a 31 se sn be so lo he n1 n2 n3 (nI R) (nI K) (nI G) (nI 0) (nI 0), [(a 41, .inl (E.1.1 102, 2, .inr (.inr (.inr (.inr (imA a))))))], wH E a 42 (iF 0 0) (iF 0 1) (iF 0 2) (iF 0 3) (iF 0 4) (iF 0 5) (iF 0 6) (iF 0 7) (iF 0 8) (nI (iR 0)) (nI (iK 0)) (nI (iG 0)) (iu 0) (ig 0), wH E a 52 (iF 1 0) (iF 1 1) (iF 1 2) (iF 1 3) (iF 1 4) (iF 1 5) (iF 1 6) (iF 1 7) (iF 1 8) (nI (iR 1)) (nI (iK 1)) (nI (iG 1)) (iu 1) (ig 1), wA E a 62 kp (nI h) (nI x), wF E a 64 31 65 75 (uI 0) (uI 1) (uI 2), wH E a 65 (cF1 0) (cF1 1) (cF1 2) (cF1 3) (cF1 4) (cF1 5) (cF1 6) (cF1 7) (cF1 8) (cI1 0) (cI1 1) (cI1 2) (cI1 3) (nI cg1), [(a 75, iA E 5 fi), (a 76, iA E 5 sr)], wQ E a 77 31 s] rfl (by decide) rfl rfl rfl) ?_
          refine mr_goto C 46 dX7_rest_36 (by decide) ?_
          refine mr_iret C dX7_rest_46 rfl rfl (by decide) (by decide) hlen ?_
          rw [hO]
          refine ⟨congrArg (fun z => some (Value.int z)) (((ifP_f c_7).trans ((ifP_t (by omega)).trans (ifP_t (by omega)))).symm), cF1, cI1, cg1, hcg1, rfl⟩
      · rw [tI_le (by omega)] at c_19
        refine mr_ldc C 24 dX7_rest_22 rfl kc_X7_70 ?_
        refine mr_iret C dX7_rest_24 rfl rfl (by decide) (by decide) hlen ?_
        rw [hO]
        refine ⟨congrArg (fun z => some (Value.int z)) (((ifP_f c_7).trans (ifP_f (by omega))).symm), cF, cI, cg, hcg, rfl⟩
  · have c_7 : R = 0 := (nI_eq (b := 0) (by omega) (by omega)).mp c_7
    refine mr_ldc C 12 dX7_rest_10 rfl kc_X7_141 ?_
    refine mr_iret C dX7_rest_12 rfl rfl (by decide) (by decide) hlen ?_
    rw [hO]
    refine ⟨congrArg (fun z => some (Value.int z)) ((ifP_t c_7).symm), cF, cI, cg, hcg, rfl⟩

set_option maxRecDepth 20000 in
set_option maxHeartbeats 4000000 in
theorem c_x_fewest (E : EG) (a : Nat → Nat) (fn fd : Int32) (it : Nat → FN) (th ln sz t : FN) (S : Nat) (tI rI : FN) (pF : Nat → FN) (pI se sn be so lo he n1 n2 n3 : FN) (R K G : Nat) (iF : Nat → Nat → FN) (iR iK iG : Nat → Nat) (iu ig kp : FN) (h x : Nat) (uI : FN) (cF : Nat → FN) (cI : FN) (cg : Nat) (fi sr : FN) (s : TRC) (r0 n0 y0 : Int32) (em : Nat) (hem : em ≤ 1) (hR : R ≤ 6) (hK : K ≤ 5) (hG : G ≤ 9999) (hl : ∀ c, c < K → lo c = nI (lN_ lo c) ∧ lN_ lo c < R) (hcg : cg < 6) : Ctr E mX7_fewest (7, 0, 0) [.ref (a 0), .int r0, .int n0, .int y0, .int (nI em)] (wX E a fn fd it th ln sz t S tI rI pF pI se sn be so lo he n1 n2 n3 R K G iF iR iK iG iu ig kp h x uI cF cI cg fi sr s) (fun v w => v = some (.int (hireV r0 n0 y0 em R K sn so he (G, be, lN_ lo))) ∧ ∃ (cF' : Nat → FN) (uI' cI' : FN) (cg' : Nat), cg' < 6 ∧ w = wX E a fn fd it th ln sz t S tI rI pF pI se sn be so lo he n1 n2 n3 R K G iF iR iK iG iu ig kp h x uI' cF' cI' cg' fi sr s) := by
  refine Ctr.of (by decide) (Nat.le_of_ble_eq_true rfl) ?_
  intro Z hO hn C
  have hlen : zn Z ≤ 79 := by rw [hn]; exact Nat.le_of_ble_eq_true rfl
  refine mr_aload_n C 1 dX7_fewest_0 rfl rfl ?_
  refine mr_get C 0 4 dX7_fewest_1 rfl fl_X7_34 rfl rfl ?_
  refine mr_iload_n C 5 dX7_fewest_4 rfl rfl ?_
  refine mr_callV C (c_isRoomI E a 31 se sn be so lo he n1 n2 n3 (nI K) (nI G) (nI 0) (nI 0) R (by omega) r0) [31, 32, 33, 34, 35, 36, 37, 38, 39, 40] 31 3 8 dX7_fewest_5 rfl mk_X3_isRoom mi_X3_isRoom ml_X7_170 rfl rfl rfl (jn_cut [1, 1, 16, 2, 1, 10, 10, 1, 10, 10, 2, 1, 10, 2, 2] [6] [w0 E a fn fd, [(a 1, .inl (E.1.1 101, 8, .inr (.inr (.inr (.inr (rwA a))))))], wRS E a it th ln sz, wT E a 18 t (nI S) (tI 0) (tI 1) (tI 2) (tI 3), [(a 20, .inr (4, [.ref (a 18), .ref (a 21), .int (rI 0), .int (rI 1), .int (rI 2)]))], wH E a 21 (pF 0) (pF 1) (pF 2) (pF 3) (pF 4) (pF 5) (pF 6) (pF 7) (pF 8) (pI 0) (pI 1) (pI 2) (pI 3) (pI 4), wH E a 31 se sn be so lo he n1 n2 n3 (nI R) (nI K) (nI G) (nI 0) (nI 0), [(a 41, .inl (E.1.1 102, 2, .inr (.inr (.inr (.inr (imA a))))))], wH E a 42 (iF 0 0) (iF 0 1) (iF 0 2) (iF 0 3) (iF 0 4) (iF 0 5) (iF 0 6) (iF 0 7) (iF 0 8) (nI (iR 0)) (nI (iK 0)) (nI (iG 0)) (iu 0) (ig 0), wH E a 52 (iF 1 0) (iF 1 1) (iF 1 2) (iF 1 3) (iF 1 4) (iF 1 5) (iF 1 6) (iF 1 7) (iF 1 8) (nI (iR 1)) (nI (iK 1)) (nI (iG 1)) (iu 1) (ig 1), wA E a 62 kp (nI h) (nI x), wF E a 64 31 65 75 (uI 0) (uI 1) (uI 2), wH E a 65 (cF 0) (cF 1) (cF 2) (cF 3) (cF 4) (cF 5) (cF 6) (cF 7) (cF 8) (cI 0) (cI 1) (cI 2) (cI 3) (nI cg), [(a 75, iA E 5 fi), (a 76, iA E 5 sr)], wQ E a 77 31 s] [wH E a 31 se sn be so lo he n1 n2 n3 (nI R) (nI K) (nI G) (nI 0) (nI 0)] rfl (by decide) rfl rfl) rfl (Nat.le_of_ble_eq_true rfl) (by decide) (by decide) (by decide) rfl rfl (fun r w1 hpost => ?_)
  obtain ⟨rfl, rfl⟩ := hpost
  refine mr_w (wput_id (jn_cut [1, 1, 16, 2, 1, 10, 10, 1, 10, 10, 2, 1, 10, 2, 2] [6] [w0 E a fn fd, [(a 1, .inl (E.1.1 101, 8, .inr (.inr (.inr (.inr (rwA a))))))], wRS E a it th ln sz, wT E a 18 t (nI S) (tI 0) (tI 1) (tI 2) (tI 3), [(a 20, .inr (4, [.ref (a 18), .ref (a 21), .int (rI 0), .int (rI 1), .int (rI 2)]))], wH E a 21 (pF 0) (pF 1) (pF 2) (pF 3) (pF 4) (pF 5) (pF 6) (pF 7) (pF 8) (pI 0) (pI 1) (pI 2) (pI 3) (pI 4), wH E a 31 se sn be so lo he n1 n2 n3 (nI R) (nI K) (nI G) (nI 0) (nI 0), [(a 41, .inl (E.1.1 102, 2, .inr (.inr (.inr (.inr (imA a))))))], wH E a 42 (iF 0 0) (iF 0 1) (iF 0 2) (iF 0 3) (iF 0 4) (iF 0 5) (iF 0 6) (iF 0 7) (iF 0 8) (nI (iR 0)) (nI (iK 0)) (nI (iG 0)) (iu 0) (ig 0), wH E a 52 (iF 1 0) (iF 1 1) (iF 1 2) (iF 1 3) (iF 1 4) (iF 1 5) (iF 1 6) (iF 1 7) (iF 1 8) (nI (iR 1)) (nI (iK 1)) (nI (iG 1)) (iu 1) (ig 1), wA E a 62 kp (nI h) (nI x), wF E a 64 31 65 75 (uI 0) (uI 1) (uI 2), wH E a 65 (cF 0) (cF 1) (cF 2) (cF 3) (cF 4) (cF 5) (cF 6) (cF 7) (cF 8) (cI 0) (cI 1) (cI 2) (cI 3) (nI cg), [(a 75, iA E 5 fi), (a 76, iA E 5 sr)], wQ E a 77 31 s] [wH E a 31 se sn be so lo he n1 n2 n3 (nI R) (nI K) (nI G) (nI 0) (nI 0)] rfl (by decide) rfl rfl)) ?_
  refine mr_ifeq C 31 11 dX7_fewest_8 (by decide) rfl (fun c_8 => ?_) (fun c_8 => ?_)
  · rw [bI_eq] at c_8
    refine mr_ldc C 33 dX7_fewest_31 rfl kc_X7_70 ?_
    refine mr_iret C dX7_fewest_33 rfl rfl (by decide) (by decide) hlen ?_
    rw [hO]
    refine ⟨congrArg (fun z => some (Value.int z)) ((ifP_f (by omega)).symm), cF, uI, cI, cg, hcg, rfl⟩
  · rw [← Ne, bI_ne] at c_8
    refine mr_iload_n C 12 dX7_fewest_11 rfl rfl ?_
    refine mr_iconst C (nI 1) 13 dX7_fewest_12 rfl rfl ?_
    refine mr_icmplt C 31 16 dX7_fewest_13 (by decide) rfl (fun c_13 => ?_) (fun c_13 => ?_)
    · rw [tI_lt (by omega)] at c_13
      refine mr_ldc C 33 dX7_fewest_31 rfl kc_X7_70 ?_
      refine mr_iret C dX7_fewest_33 rfl rfl (by decide) (by decide) hlen ?_
      rw [hO]
      refine ⟨congrArg (fun z => some (Value.int z)) ((ifP_f (by omega)).symm), cF, uI, cI, cg, hcg, rfl⟩
    · rw [tI_lt (by omega)] at c_13
      refine mr_iload_n C 17 dX7_fewest_16 rfl rfl ?_
      refine mr_bipush C (nI 20) 19 dX7_fewest_17 rfl rfl ?_
      refine mr_icmpgt C 31 22 dX7_fewest_19 (by decide) rfl (fun c_19 => ?_) (fun c_19 => ?_)
      · rw [tI_gt (by omega)] at c_19
        refine mr_ldc C 33 dX7_fewest_31 rfl kc_X7_70 ?_
        refine mr_iret C dX7_fewest_33 rfl rfl (by decide) (by decide) hlen ?_
        rw [hO]
        refine ⟨congrArg (fun z => some (Value.int z)) ((ifP_f (by omega)).symm), cF, uI, cI, cg, hcg, rfl⟩
      · rw [tI_gt (by omega)] at c_19
        refine mr_iload_n C 23 dX7_fewest_22 rfl rfl ?_
        refine mr_iflt C 31 26 dX7_fewest_23 (by decide) rfl (fun c_23 => ?_) (fun c_23 => ?_)
        · rw [tI_lt0] at c_23
          refine mr_ldc C 33 dX7_fewest_31 rfl kc_X7_70 ?_
          refine mr_iret C dX7_fewest_33 rfl rfl (by decide) (by decide) hlen ?_
          rw [hO]
          refine ⟨congrArg (fun z => some (Value.int z)) ((ifP_f (by omega)).symm), cF, uI, cI, cg, hcg, rfl⟩
        · rw [tI_lt0] at c_23
          refine mr_iload_n C 27 dX7_fewest_26 rfl rfl ?_
          refine mr_iconst C (nI 1) 28 dX7_fewest_27 rfl rfl ?_
          refine mr_icmple C 34 31 dX7_fewest_28 (by decide) rfl (fun c_28 => ?_) (fun c_28 => ?_)
          · rw [tI_le (by omega)] at c_28
            obtain ⟨r, hr, rfl⟩ := tI_of (x := r0) (n := R) (by omega) (by omega)
            have er : (nI r).toInt = (r : Int) := tI_n (by omega)
            have ir_ : iN (nI r) = r := iN_n (by omega)
            obtain ⟨n, hn, rfl⟩ := tI_of (x := n0) (n := 21) (by omega) (by omega)
            have en : (nI n).toInt = (n : Int) := tI_n (by omega)
            have in_ : iN (nI n) = n := iN_n (by omega)
            refine mr_aload_n C 35 dX7_fewest_34 rfl rfl ?_
            refine mr_get C 0 38 dX7_fewest_35 rfl fl_X7_54 rfl rfl ?_
            refine mr_iload_n C 39 dX7_fewest_38 rfl rfl ?_
            refine mr_iload_n C 40 dX7_fewest_39 rfl rfl ?_
            refine mr_iload C 42 dX7_fewest_40 rfl rfl ?_
            refine mr_callV C (c_findHired E a 64 31 65 75 (uI 0) (uI 1) (uI 2) se sn be so lo he n1 n2 n3 (cF 0) (cF 1) (cF 2) (cF 3) (cF 4) (cF 5) (cF 6) (cF 7) (cF 8) (nI 0) (nI 0) (cI 0) (cI 1) (cI 2) (cI 3) R K G cg (lN_ lo) hR hK (by omega) hcg hl r n em hr (by omega) hem) [64, 31, 32, 33, 34, 35, 36, 37, 38, 39, 40, 65, 66, 67, 68, 69, 70, 71, 72, 73, 74] 64 2 45 dX7_fewest_42 rfl mk_X2_findHired mi_X2_findHired ml_X7_259 rfl rfl rfl (jn_cut [1, 1, 16, 2, 1, 10, 10, 1, 10, 10, 2, 1, 10, 2, 2] [11, 6, 12] [w0 E a fn fd, [(a 1, .inl (E.1.1 101, 8, .inr (.inr (.inr (.inr (rwA a))))))], wRS E a it th ln sz, wT E a 18 t (nI S) (tI 0) (tI 1) (tI 2) (tI 3), [(a 20, .inr (4, [.ref (a 18), .ref (a 21), .int (rI 0), .int (rI 1), .int (rI 2)]))], wH E a 21 (pF 0) (pF 1) (pF 2) (pF 3) (pF 4) (pF 5) (pF 6) (pF 7) (pF 8) (pI 0) (pI 1) (pI 2) (pI 3) (pI 4), wH E a 31 se sn be so lo he n1 n2 n3 (nI R) (nI K) (nI G) (nI 0) (nI 0), [(a 41, .inl (E.1.1 102, 2, .inr (.inr (.inr (.inr (imA a))))))], wH E a 42 (iF 0 0) (iF 0 1) (iF 0 2) (iF 0 3) (iF 0 4) (iF 0 5) (iF 0 6) (iF 0 7) (iF 0 8) (nI (iR 0)) (nI (iK 0)) (nI (iG 0)) (iu 0) (ig 0), wH E a 52 (iF 1 0) (iF 1 1) (iF 1 2) (iF 1 3) (iF 1 4) (iF 1 5) (iF 1 6) (iF 1 7) (iF 1 8) (nI (iR 1)) (nI (iK 1)) (nI (iG 1)) (iu 1) (ig 1), wA E a 62 kp (nI h) (nI x), wF E a 64 31 65 75 (uI 0) (uI 1) (uI 2), wH E a 65 (cF 0) (cF 1) (cF 2) (cF 3) (cF 4) (cF 5) (cF 6) (cF 7) (cF 8) (cI 0) (cI 1) (cI 2) (cI 3) (nI cg), [(a 75, iA E 5 fi), (a 76, iA E 5 sr)], wQ E a 77 31 s] [wF E a 64 31 65 75 (uI 0) (uI 1) (uI 2), wH E a 31 se sn be so lo he n1 n2 n3 (nI R) (nI K) (nI G) (nI 0) (nI 0), wH E a 65 (cF 0) (cF 1) (cF 2) (cF 3) (cF 4) (cF 5) (cF 6) (cF 7) (cF 8) (cI 0) (cI 1) (cI 2) (cI 3) (nI cg)] rfl (by decide) rfl rfl) rfl (Nat.le_of_ble_eq_true rfl) (by decide) (by decide) (by decide) rfl rfl (fun r w1 hpost => ?_)
            obtain ⟨wc, hh1, hr1, rfl, hwc, hd1, rfl⟩ := hpost
            obtain ⟨cF1, cI1, cg1, hcg1, rfl⟩ := hwc.fn
            refine mr_w (ws' := wX E a fn fd it th ln sz t S tI rI pF pI se sn be so lo he n1 n2 n3 R K G iF iR iK iG iu ig kp h x (f3 hh1 hr1 (uI 2)) cF1 cI1 cg1 fi sr s) (jn_put [1, 1, 16, 2, 1, 10, 10, 1, 10, 10, 2, 1, 10, 2, 2] [11, 6, 12] [w0 E a fn fd, [(a 1, .inl (E.1.1 101, 8, .inr (.inr (.inr (.inr (rwA a))))))], wRS E a it th ln sz, wT E a 18 t (nI S) (tI 0) (tI 1) (tI 2) (tI 3), [(a 20, .inr (4, [.ref (a 18), .ref (a 21), .int (rI 0), .int (rI 1), .int (rI 2)]))], wH E a 21 (pF 0) (pF 1) (pF 2) (pF 3) (pF 4) (pF 5) (pF 6) (pF 7) (pF 8) (pI 0) (pI 1) (pI 2) (pI 3) (pI 4), wH E a 31 se sn be so lo he n1 n2 n3 (nI R) (nI K) (nI G) (nI 0) (nI 0), [(a 41, .inl (E.1.1 102, 2, .inr (.inr (.inr (.inr (imA a))))))], wH E a 42 (iF 0 0) (iF 0 1) (iF 0 2) (iF 0 3) (iF 0 4) (iF 0 5) (iF 0 6) (iF 0 7) (iF 0 8) (nI (iR 0)) (nI (iK 0)) (nI (iG 0)) (iu 0) (ig 0), wH E a 52 (iF 1 0) (iF 1 1) (iF 1 2) (iF 1 3) (iF 1 4) (iF 1 5) (iF 1 6) (iF 1 7) (iF 1 8) (nI (iR 1)) (nI (iK 1)) (nI (iG 1)) (iu 1) (ig 1), wA E a 62 kp (nI h) (nI x), wF E a 64 31 65 75 (uI 0) (uI 1) (uI 2), wH E a 65 (cF 0) (cF 1) (cF 2) (cF 3) (cF 4) (cF 5) (cF 6) (cF 7) (cF 8) (cI 0) (cI 1) (cI 2) (cI 3) (nI cg), [(a 75, iA E 5 fi), (a 76, iA E 5 sr)], wQ E a 77 31 s] [wF E a 64 31 65 75 hh1 hr1 (uI 2), wH E a 31 se sn be so lo he n1 n2 n3 (nI R) (nI K) (nI G) (nI 0) (nI 0), wH E a 65 (cF1 0) (cF1 1) (cF1 2) (cF1 3) (cF1 4) (cF1 5) (cF1 6) (cF1 7) (cF1 8) (cI1 0) (cI1 1) (cI1 2) (cI1 3) (nI cg1)] [w0 E a fn fd, [(a 1, .inl (E.1.1 101, 8, .inr (.inr (.inr (.inr (rwA a))))))], wRS E a it th ln sz, wT E a 18 t (nI S) (tI 0) (tI 1) (tI 2) (tI 3), [(a 20, .inr (4, [.ref (a 18), .ref (a 21), .int (rI 0), .int (rI 1), .int (rI 2)]))], wH E a 21 (pF 0) (pF 1) (pF 2) (pF 3) (pF 4) (pF 5) (pF 6) (pF 7) (pF 8) (pI 0) (pI 1) (pI 2) (pI 3) (pI 4), wH E a 31 se sn be so lo he n1 n2 n3 (nI R) (nI K) (nI G) (nI 0) (nI 0), [(a 41, .inl (E.1.1 102, 2, .inr (.inr (.inr (.inr (imA a))))))], wH E a 42 (iF 0 0) (iF 0 1) (iF 0 2) (iF 0 3) (iF 0 4) (iF 0 5) (iF 0 6) (iF 0 7) (iF 0 8) (nI (iR 0)) (nI (iK 0)) (nI (iG 0)) (iu 0) (ig 0), wH E a 52 (iF 1 0) (iF 1 1) (iF 1 2) (iF 1 3) (iF 1 4) (iF 1 5) (iF 1 6) (iF 1 7) (iF 1 8) (nI (iR 1)) (nI (iK 1)) (nI (iG 1)) (iu 1) (ig 1), wA E a 62 kp (nI h) (nI x), wF E a 64 31 65 75 hh1 hr1 (uI 2), wH E a 65 (cF1 0) (cF1 1) (cF1 2) (cF1 3) (cF1 4) (cF1 5) (cF1 6) (cF1 7) (cF1 8) (cI1 0) (cI1 1) (cI1 2) (cI1 3) (nI cg1), [(a 75, iA E 5 fi), (a 76, iA E 5 sr)], wQ E a 77 31 s] rfl (by decide) rfl rfl rfl) ?_
            refine mr_ifne C 51 48 dX7_fewest_45 (by decide) rfl (fun c_45 => ?_) (fun c_45 => ?_)
            · rw [bP_ne] at c_45
              refine mr_iload_n C 52 dX7_fewest_51 rfl rfl ?_
              refine mr_ifne C 65 55 dX7_fewest_52 (by decide) rfl (fun c_52 => ?_) (fun c_52 => ?_)
              · rw [Ne, tI_eq0] at c_52
                refine mr_aload_n C 66 dX7_fewest_65 rfl rfl ?_
                refine mr_get C 0 69 dX7_fewest_66 rfl fl_X7_54 rfl rfl ?_
                refine mr_get C 64 72 dX7_fewest_69 rfl fl_X7_266 rfl rfl ?_
                refine mr_iret C dX7_fewest_72 rfl rfl (by decide) (by decide) hlen ?_
                rw [hO]
                refine ⟨?_, cF1, _, cI1, cg1, hcg1, rfl⟩
                refine congrArg (fun z => some (Value.int z)) (((hd1 _ rfl c_45).2.trans ?_))
                refine (((ifP_t (by omega)).trans (by rw [ir_, in_]; exact (ifP_t c_45).trans (ifP_f (by omega))))).symm
              · rw [tI_eq0] at c_52
                refine mr_aload_n C 56 dX7_fewest_55 rfl rfl ?_
                refine mr_get C 0 59 dX7_fewest_56 rfl fl_X7_54 rfl rfl ?_
                refine mr_get C 64 62 dX7_fewest_59 rfl fl_X7_263 rfl rfl ?_
                refine mr_goto C 72 dX7_fewest_62 (by decide) ?_
                refine mr_iret C dX7_fewest_72 rfl rfl (by decide) (by decide) hlen ?_
                rw [hO]
                refine ⟨?_, cF1, _, cI1, cg1, hcg1, rfl⟩
                refine congrArg (fun z => some (Value.int z)) (((hd1 _ rfl c_45).1.trans ?_))
                refine (((ifP_t (by omega)).trans (by rw [ir_, in_]; exact (ifP_t c_45).trans (ifP_t (by omega))))).symm
            · rw [bP_eq] at c_45
              refine mr_ldc C 50 dX7_fewest_48 rfl kc_X7_233 ?_
              refine mr_iret C dX7_fewest_50 rfl rfl (by decide) (by decide) hlen ?_
              rw [hO]
              refine ⟨congrArg (fun z => some (Value.int z)) (((ifP_t (by omega)).trans (by rw [ir_, in_]; exact ifP_f c_45)).symm), cF1, _, cI1, cg1, hcg1, rfl⟩
          · rw [tI_le (by omega)] at c_28
            refine mr_ldc C 33 dX7_fewest_31 rfl kc_X7_70 ?_
            refine mr_iret C dX7_fewest_33 rfl rfl (by decide) (by decide) hlen ?_
            rw [hO]
            refine ⟨congrArg (fun z => some (Value.int z)) ((ifP_f (by omega)).symm), cF, uI, cI, cg, hcg, rfl⟩

set_option maxRecDepth 20000 in
set_option maxHeartbeats 4000000 in
theorem c_x_hired (E : EG) (a : Nat → Nat) (fn fd : Int32) (it : Nat → FN) (th ln sz t : FN) (S : Nat) (tI rI : FN) (pF : Nat → FN) (pI se sn be so lo he n1 n2 n3 : FN) (R K G : Nat) (iF : Nat → Nat → FN) (iR iK iG : Nat → Nat) (iu ig kp : FN) (h x : Nat) (uI : FN) (cF : Nat → FN) (cI : FN) (cg : Nat) (fi sr : FN) (s : TRC) (r0 n0 y0 : Int32) (hR : R ≤ 6) (hK : K ≤ 5) (hG : G ≤ 9999) (hl : ∀ c, c < K → lo c = nI (lN_ lo c) ∧ lN_ lo c < R) (hcg : cg < 6) : Ctr E mX7_hired (8, 0, 0) [.ref (a 0), .int r0, .int n0, .int y0] (wX E a fn fd it th ln sz t S tI rI pF pI se sn be so lo he n1 n2 n3 R K G iF iR iK iG iu ig kp h x uI cF cI cg fi sr s) (fun v w => v = some (.int (hireV r0 n0 y0 0 R K sn so he (G, be, lN_ lo))) ∧ ∃ (cF' : Nat → FN) (uI' cI' : FN) (cg' : Nat), cg' < 6 ∧ w = wX E a fn fd it th ln sz t S tI rI pF pI se sn be so lo he n1 n2 n3 R K G iF iR iK iG iu ig kp h x uI' cF' cI' cg' fi sr s) := by
  refine Ctr.of (by decide) (Nat.le_of_ble_eq_true rfl) ?_
  intro Z hO hn C
  have hlen : zn Z ≤ 79 := by rw [hn]; exact Nat.le_of_ble_eq_true rfl
  refine mr_aload_n C 1 dX7_hired_0 rfl rfl ?_
  refine mr_iload_n C 2 dX7_hired_1 rfl rfl ?_
  refine mr_iload_n C 3 dX7_hired_2 rfl rfl ?_
  refine mr_iload_n C 4 dX7_hired_3 rfl rfl ?_
  refine mr_iconst C (nI 0) 5 dX7_hired_4 rfl rfl ?_
  refine mr_callV C (c_x_fewest E a fn fd it th ln sz t S tI rI pF pI se sn be so lo he n1 n2 n3 R K G iF iR iK iG iu ig kp h x uI cF cI cg fi sr s r0 n0 y0 0 (by decide) hR hK hG hl hcg) [0, 1, 2, 3, 4, 5, 6, 7, 8, 9, 10, 11, 12, 13, 14, 15, 16, 17, 18, 19, 20, 21, 22, 23, 24, 25, 26, 27, 28, 29, 30, 31, 32, 33, 34, 35, 36, 37, 38, 39, 40, 41, 42, 43, 44, 45, 46, 47, 48, 49, 50, 51, 52, 53, 54, 55, 56, 57, 58, 59, 60, 61, 62, 63, 64, 65, 66, 67, 68, 69, 70, 71, 72, 73, 74, 75, 76, 77, 78] 0 7 8 dX7_hired_5 rfl mk_X7_fewest mi_X7_fewest ml_X7_219 rfl rfl rfl rfl rfl (Nat.le_of_ble_eq_true rfl) (by decide) (by decide) (by decide) rfl rfl (fun r w1 hpost => ?_)
  obtain ⟨rfl, cF1, uI1, cI1, cg1, hcg1, rfl⟩ := hpost
  refine mr_w (wput_all _ _ 79 rfl rfl) ?_
  refine mr_iret C dX7_hired_8 rfl rfl (by decide) (by decide) hlen ?_
  rw [hO]
  exact ⟨rfl, cF1, uI1, cI1, cg1, hcg1, rfl⟩

set_option maxRecDepth 20000 in
set_option maxHeartbeats 4000000 in
theorem c_x_empty (E : EG) (a : Nat → Nat) (fn fd : Int32) (it : Nat → FN) (th ln sz t : FN) (S : Nat) (tI rI : FN) (pF : Nat → FN) (pI se sn be so lo he n1 n2 n3 : FN) (R K G : Nat) (iF : Nat → Nat → FN) (iR iK iG : Nat → Nat) (iu ig kp : FN) (h x : Nat) (uI : FN) (cF : Nat → FN) (cI : FN) (cg : Nat) (fi sr : FN) (s : TRC) (r0 n0 y0 : Int32) (hR : R ≤ 6) (hK : K ≤ 5) (hG : G ≤ 9999) (hl : ∀ c, c < K → lo c = nI (lN_ lo c) ∧ lN_ lo c < R) (hcg : cg < 6) : Ctr E mX7_empty (8, 0, 0) [.ref (a 0), .int r0, .int n0, .int y0] (wX E a fn fd it th ln sz t S tI rI pF pI se sn be so lo he n1 n2 n3 R K G iF iR iK iG iu ig kp h x uI cF cI cg fi sr s) (fun v w => v = some (.int (hireV r0 n0 y0 1 R K sn so he (G, be, lN_ lo))) ∧ ∃ (cF' : Nat → FN) (uI' cI' : FN) (cg' : Nat), cg' < 6 ∧ w = wX E a fn fd it th ln sz t S tI rI pF pI se sn be so lo he n1 n2 n3 R K G iF iR iK iG iu ig kp h x uI' cF' cI' cg' fi sr s) := by
  refine Ctr.of (by decide) (Nat.le_of_ble_eq_true rfl) ?_
  intro Z hO hn C
  have hlen : zn Z ≤ 79 := by rw [hn]; exact Nat.le_of_ble_eq_true rfl
  refine mr_aload_n C 1 dX7_empty_0 rfl rfl ?_
  refine mr_iload_n C 2 dX7_empty_1 rfl rfl ?_
  refine mr_iload_n C 3 dX7_empty_2 rfl rfl ?_
  refine mr_iload_n C 4 dX7_empty_3 rfl rfl ?_
  refine mr_iconst C (nI 1) 5 dX7_empty_4 rfl rfl ?_
  refine mr_callV C (c_x_fewest E a fn fd it th ln sz t S tI rI pF pI se sn be so lo he n1 n2 n3 R K G iF iR iK iG iu ig kp h x uI cF cI cg fi sr s r0 n0 y0 1 (by decide) hR hK hG hl hcg) [0, 1, 2, 3, 4, 5, 6, 7, 8, 9, 10, 11, 12, 13, 14, 15, 16, 17, 18, 19, 20, 21, 22, 23, 24, 25, 26, 27, 28, 29, 30, 31, 32, 33, 34, 35, 36, 37, 38, 39, 40, 41, 42, 43, 44, 45, 46, 47, 48, 49, 50, 51, 52, 53, 54, 55, 56, 57, 58, 59, 60, 61, 62, 63, 64, 65, 66, 67, 68, 69, 70, 71, 72, 73, 74, 75, 76, 77, 78] 0 7 8 dX7_empty_5 rfl mk_X7_fewest mi_X7_fewest ml_X7_219 rfl rfl rfl rfl rfl (Nat.le_of_ble_eq_true rfl) (by decide) (by decide) (by decide) rfl rfl (fun r w1 hpost => ?_)
  obtain ⟨rfl, cF1, uI1, cI1, cg1, hcg1, rfl⟩ := hpost
  refine mr_w (wput_all _ _ 79 rfl rfl) ?_
  refine mr_iret C dX7_empty_8 rfl rfl (by decide) (by decide) hlen ?_
  rw [hO]
  exact ⟨rfl, cF1, uI1, cI1, cg1, hcg1, rfl⟩

set_option maxRecDepth 20000 in
set_option maxHeartbeats 4000000 in
theorem c_x_apart (E : EG) (a : Nat → Nat) (fn fd : Int32) (it : Nat → FN) (th ln sz t : FN) (S : Nat) (tI rI : FN) (pF : Nat → FN) (pI se sn be so lo he n1 n2 n3 : FN) (R K G : Nat) (iF : Nat → Nat → FN) (iR iK iG : Nat → Nat) (iu ig kp : FN) (h x : Nat) (uI : FN) (cF : Nat → FN) (cI : FN) (cg : Nat) (fi sr : FN) (s : TRC) (c0 u0 n0 : Int32) (hR : R ≤ 6) (hK : K ≤ 5) (hG : G ≤ 9999) (hl : ∀ c, c < K → lo c = nI (lN_ lo c) ∧ lN_ lo c < R) (hcg : cg < 6) : Ctr E mX7_apart (8, 0, 0) [.ref (a 0), .int c0, .int u0, .int n0] (wX E a fn fd it th ln sz t S tI rI pF pI se sn be so lo he n1 n2 n3 R K G iF iR iK iG iu ig kp h x uI cF cI cg fi sr s) (fun v w => v = some (.int (apartV c0 u0 n0 R K sn so he (G, be, lN_ lo))) ∧ ∃ (cF' : Nat → FN) (cI' : FN) (cg' : Nat), cg' < 6 ∧ w = wX E a fn fd it th ln sz t S tI rI pF pI se sn be so lo he n1 n2 n3 R K G iF iR iK iG iu ig kp h x uI cF' cI' cg' fi sr s) := by
  refine Ctr.of (by decide) (Nat.le_of_ble_eq_true rfl) ?_
  intro Z hO hn C
  have hlen : zn Z ≤ 79 := by rw [hn]; exact Nat.le_of_ble_eq_true rfl
  refine mr_aload_n C 1 dX7_apart_0 rfl rfl ?_
  refine mr_get C 0 4 dX7_apart_1 rfl fl_X7_34 rfl rfl ?_
  refine mr_iload_n C 5 dX7_apart_4 rfl rfl ?_
  refine mr_callV C (c_isCrowdI E a 31 se sn be so lo he n1 n2 n3 (nI R) (nI G) (nI 0) (nI 0) K (by omega) c0) [31, 32, 33, 34, 35, 36, 37, 38, 39, 40] 31 3 8 dX7_apart_5 rfl mk_X3_isCrowd mi_X3_isCrowd ml_X7_180 rfl rfl rfl (jn_cut [1, 1, 16, 2, 1, 10, 10, 1, 10, 10, 2, 1, 10, 2, 2] [6] [w0 E a fn fd, [(a 1, .inl (E.1.1 101, 8, .inr (.inr (.inr (.inr (rwA a))))))], wRS E a it th ln sz, wT E a 18 t (nI S) (tI 0) (tI 1) (tI 2) (tI 3), [(a 20, .inr (4, [.ref (a 18), .ref (a 21), .int (rI 0), .int (rI 1), .int (rI 2)]))], wH E a 21 (pF 0) (pF 1) (pF 2) (pF 3) (pF 4) (pF 5) (pF 6) (pF 7) (pF 8) (pI 0) (pI 1) (pI 2) (pI 3) (pI 4), wH E a 31 se sn be so lo he n1 n2 n3 (nI R) (nI K) (nI G) (nI 0) (nI 0), [(a 41, .inl (E.1.1 102, 2, .inr (.inr (.inr (.inr (imA a))))))], wH E a 42 (iF 0 0) (iF 0 1) (iF 0 2) (iF 0 3) (iF 0 4) (iF 0 5) (iF 0 6) (iF 0 7) (iF 0 8) (nI (iR 0)) (nI (iK 0)) (nI (iG 0)) (iu 0) (ig 0), wH E a 52 (iF 1 0) (iF 1 1) (iF 1 2) (iF 1 3) (iF 1 4) (iF 1 5) (iF 1 6) (iF 1 7) (iF 1 8) (nI (iR 1)) (nI (iK 1)) (nI (iG 1)) (iu 1) (ig 1), wA E a 62 kp (nI h) (nI x), wF E a 64 31 65 75 (uI 0) (uI 1) (uI 2), wH E a 65 (cF 0) (cF 1) (cF 2) (cF 3) (cF 4) (cF 5) (cF 6) (cF 7) (cF 8) (cI 0) (cI 1) (cI 2) (cI 3) (nI cg), [(a 75, iA E 5 fi), (a 76, iA E 5 sr)], wQ E a 77 31 s] [wH E a 31 se sn be so lo he n1 n2 n3 (nI R) (nI K) (nI G) (nI 0) (nI 0)] rfl (by decide) rfl rfl) rfl (Nat.le_of_ble_eq_true rfl) (by decide) (by decide) (by decide) rfl rfl (fun r w1 hpost => ?_)
  obtain ⟨rfl, rfl⟩ := hpost
  refine mr_w (wput_id (jn_cut [1, 1, 16, 2, 1, 10, 10, 1, 10, 10, 2, 1, 10, 2, 2] [6] [w0 E a fn fd, [(a 1, .inl (E.1.1 101, 8, .inr (.inr (.inr (.inr (rwA a))))))], wRS E a it th ln sz, wT E a 18 t (nI S) (tI 0) (tI 1) (tI 2) (tI 3), [(a 20, .inr (4, [.ref (a 18), .ref (a 21), .int (rI 0), .int (rI 1), .int (rI 2)]))], wH E a 21 (pF 0) (pF 1) (pF 2) (pF 3) (pF 4) (pF 5) (pF 6) (pF 7) (pF 8) (pI 0) (pI 1) (pI 2) (pI 3) (pI 4), wH E a 31 se sn be so lo he n1 n2 n3 (nI R) (nI K) (nI G) (nI 0) (nI 0), [(a 41, .inl (E.1.1 102, 2, .inr (.inr (.inr (.inr (imA a))))))], wH E a 42 (iF 0 0) (iF 0 1) (iF 0 2) (iF 0 3) (iF 0 4) (iF 0 5) (iF 0 6) (iF 0 7) (iF 0 8) (nI (iR 0)) (nI (iK 0)) (nI (iG 0)) (iu 0) (ig 0), wH E a 52 (iF 1 0) (iF 1 1) (iF 1 2) (iF 1 3) (iF 1 4) (iF 1 5) (iF 1 6) (iF 1 7) (iF 1 8) (nI (iR 1)) (nI (iK 1)) (nI (iG 1)) (iu 1) (ig 1), wA E a 62 kp (nI h) (nI x), wF E a 64 31 65 75 (uI 0) (uI 1) (uI 2), wH E a 65 (cF 0) (cF 1) (cF 2) (cF 3) (cF 4) (cF 5) (cF 6) (cF 7) (cF 8) (cI 0) (cI 1) (cI 2) (cI 3) (nI cg), [(a 75, iA E 5 fi), (a 76, iA E 5 sr)], wQ E a 77 31 s] [wH E a 31 se sn be so lo he n1 n2 n3 (nI R) (nI K) (nI G) (nI 0) (nI 0)] rfl (by decide) rfl rfl)) ?_
  refine mr_ifeq C 38 11 dX7_apart_8 (by decide) rfl (fun c_8 => ?_) (fun c_8 => ?_)
  · rw [bI_eq] at c_8
    refine mr_ldc C 40 dX7_apart_38 rfl kc_X7_70 ?_
    refine mr_iret C dX7_apart_40 rfl rfl (by decide) (by decide) hlen ?_
    rw [hO]
    refine ⟨congrArg (fun z => some (Value.int z)) (ifP_f (by omega)).symm, cF, cI, cg, hcg, rfl⟩
  · rw [← Ne, bI_ne] at c_8
    refine mr_aload_n C 12 dX7_apart_11 rfl rfl ?_
    refine mr_get C 0 15 dX7_apart_12 rfl fl_X7_34 rfl rfl ?_
    refine mr_iload_n C 16 dX7_apart_15 rfl rfl ?_
    refine mr_callV C (c_isCrowdI E a 31 se sn be so lo he n1 n2 n3 (nI R) (nI G) (nI 0) (nI 0) K (by omega) u0) [31, 32, 33, 34, 35, 36, 37, 38, 39, 40] 31 3 19 dX7_apart_16 rfl mk_X3_isCrowd mi_X3_isCrowd ml_X7_180 rfl rfl rfl (jn_cut [1, 1, 16, 2, 1, 10, 10, 1, 10, 10, 2, 1, 10, 2, 2] [6] [w0 E a fn fd, [(a 1, .inl (E.1.1 101, 8, .inr (.inr (.inr (.inr (rwA a))))))], wRS E a it th ln sz, wT E a 18 t (nI S) (tI 0) (tI 1) (tI 2) (tI 3), [(a 20, .inr (4, [.ref (a 18), .ref (a 21), .int (rI 0), .int (rI 1), .int (rI 2)]))], wH E a 21 (pF 0) (pF 1) (pF 2) (pF 3) (pF 4) (pF 5) (pF 6) (pF 7) (pF 8) (pI 0) (pI 1) (pI 2) (pI 3) (pI 4), wH E a 31 se sn be so lo he n1 n2 n3 (nI R) (nI K) (nI G) (nI 0) (nI 0), [(a 41, .inl (E.1.1 102, 2, .inr (.inr (.inr (.inr (imA a))))))], wH E a 42 (iF 0 0) (iF 0 1) (iF 0 2) (iF 0 3) (iF 0 4) (iF 0 5) (iF 0 6) (iF 0 7) (iF 0 8) (nI (iR 0)) (nI (iK 0)) (nI (iG 0)) (iu 0) (ig 0), wH E a 52 (iF 1 0) (iF 1 1) (iF 1 2) (iF 1 3) (iF 1 4) (iF 1 5) (iF 1 6) (iF 1 7) (iF 1 8) (nI (iR 1)) (nI (iK 1)) (nI (iG 1)) (iu 1) (ig 1), wA E a 62 kp (nI h) (nI x), wF E a 64 31 65 75 (uI 0) (uI 1) (uI 2), wH E a 65 (cF 0) (cF 1) (cF 2) (cF 3) (cF 4) (cF 5) (cF 6) (cF 7) (cF 8) (cI 0) (cI 1) (cI 2) (cI 3) (nI cg), [(a 75, iA E 5 fi), (a 76, iA E 5 sr)], wQ E a 77 31 s] [wH E a 31 se sn be so lo he n1 n2 n3 (nI R) (nI K) (nI G) (nI 0) (nI 0)] rfl (by decide) rfl rfl) rfl (Nat.le_of_ble_eq_true rfl) (by decide) (by decide) (by decide) rfl rfl (fun r w1 hpost => ?_)
    obtain ⟨rfl, rfl⟩ := hpost
    refine mr_w (wput_id (jn_cut [1, 1, 16, 2, 1, 10, 10, 1, 10, 10, 2, 1, 10, 2, 2] [6] [w0 E a fn fd, [(a 1, .inl (E.1.1 101, 8, .inr (.inr (.inr (.inr (rwA a))))))], wRS E a it th ln sz, wT E a 18 t (nI S) (tI 0) (tI 1) (tI 2) (tI 3), [(a 20, .inr (4, [.ref (a 18), .ref (a 21), .int (rI 0), .int (rI 1), .int (rI 2)]))], wH E a 21 (pF 0) (pF 1) (pF 2) (pF 3) (pF 4) (pF 5) (pF 6) (pF 7) (pF 8) (pI 0) (pI 1) (pI 2) (pI 3) (pI 4), wH E a 31 se sn be so lo he n1 n2 n3 (nI R) (nI K) (nI G) (nI 0) (nI 0), [(a 41, .inl (E.1.1 102, 2, .inr (.inr (.inr (.inr (imA a))))))], wH E a 42 (iF 0 0) (iF 0 1) (iF 0 2) (iF 0 3) (iF 0 4) (iF 0 5) (iF 0 6) (iF 0 7) (iF 0 8) (nI (iR 0)) (nI (iK 0)) (nI (iG 0)) (iu 0) (ig 0), wH E a 52 (iF 1 0) (iF 1 1) (iF 1 2) (iF 1 3) (iF 1 4) (iF 1 5) (iF 1 6) (iF 1 7) (iF 1 8) (nI (iR 1)) (nI (iK 1)) (nI (iG 1)) (iu 1) (ig 1), wA E a 62 kp (nI h) (nI x), wF E a 64 31 65 75 (uI 0) (uI 1) (uI 2), wH E a 65 (cF 0) (cF 1) (cF 2) (cF 3) (cF 4) (cF 5) (cF 6) (cF 7) (cF 8) (cI 0) (cI 1) (cI 2) (cI 3) (nI cg), [(a 75, iA E 5 fi), (a 76, iA E 5 sr)], wQ E a 77 31 s] [wH E a 31 se sn be so lo he n1 n2 n3 (nI R) (nI K) (nI G) (nI 0) (nI 0)] rfl (by decide) rfl rfl)) ?_
    refine mr_ifeq C 38 22 dX7_apart_19 (by decide) rfl (fun c_19 => ?_) (fun c_19 => ?_)
    · rw [bI_eq] at c_19
      refine mr_ldc C 40 dX7_apart_38 rfl kc_X7_70 ?_
      refine mr_iret C dX7_apart_40 rfl rfl (by decide) (by decide) hlen ?_
      rw [hO]
      refine ⟨congrArg (fun z => some (Value.int z)) (ifP_f (by omega)).symm, cF, cI, cg, hcg, rfl⟩
    · rw [← Ne, bI_ne] at c_19
      refine mr_iload_n C 23 dX7_apart_22 rfl rfl ?_
      refine mr_iload_n C 24 dX7_apart_23 rfl rfl ?_
      refine mr_icmpeq C 38 27 dX7_apart_24 (by decide) rfl (fun c_24 => ?_) (fun c_24 => ?_)
      · rw [tI_xx] at c_24
        refine mr_ldc C 40 dX7_apart_38 rfl kc_X7_70 ?_
        refine mr_iret C dX7_apart_40 rfl rfl (by decide) (by decide) hlen ?_
        rw [hO]
        refine ⟨congrArg (fun z => some (Value.int z)) (ifP_f (by omega)).symm, cF, cI, cg, hcg, rfl⟩
      · rw [tI_xx] at c_24
        refine mr_iload_n C 28 dX7_apart_27 rfl rfl ?_
        refine mr_iconst C (nI 1) 29 dX7_apart_28 rfl rfl ?_
        refine mr_icmplt C 38 32 dX7_apart_29 (by decide) rfl (fun c_29 => ?_) (fun c_29 => ?_)
        · rw [tI_lt (by omega)] at c_29
          refine mr_ldc C 40 dX7_apart_38 rfl kc_X7_70 ?_
          refine mr_iret C dX7_apart_40 rfl rfl (by decide) (by decide) hlen ?_
          rw [hO]
          refine ⟨congrArg (fun z => some (Value.int z)) (ifP_f (by omega)).symm, cF, cI, cg, hcg, rfl⟩
        · rw [tI_lt (by omega)] at c_29
          refine mr_iload_n C 33 dX7_apart_32 rfl rfl ?_
          refine mr_bipush C (nI 60) 35 dX7_apart_33 rfl rfl ?_
          refine mr_icmple C 41 38 dX7_apart_35 (by decide) rfl (fun c_35 => ?_) (fun c_35 => ?_)
          · rw [tI_le (by omega)] at c_35
            obtain ⟨c, hc, rfl⟩ := tI_of (x := c0) (n := K) (by omega) (by omega)
            have ec : (nI c).toInt = (c : Int) := tI_n (by omega)
            have ic_ : iN (nI c) = c := iN_n (by omega)
            obtain ⟨u, hu, rfl⟩ := tI_of (x := u0) (n := K) (by omega) (by omega)
            have eu : (nI u).toInt = (u : Int) := tI_n (by omega)
            have iu_ : iN (nI u) = u := iN_n (by omega)
            obtain ⟨n, hn, rfl⟩ := tI_of (x := n0) (n := 61) (by omega) (by omega)
            have en : (nI n).toInt = (n : Int) := tI_n (by omega)
            have in_ : iN (nI n) = n := iN_n (by omega)
            refine mr_aload_n C 42 dX7_apart_41 rfl rfl ?_
            refine mr_get C 0 45 dX7_apart_42 rfl fl_X7_54 rfl rfl ?_
            refine mr_iload_n C 46 dX7_apart_45 rfl rfl ?_
            refine mr_iload_n C 47 dX7_apart_46 rfl rfl ?_
            refine mr_iload_n C 48 dX7_apart_47 rfl rfl ?_
            refine mr_callV C (c_doorToShut E a 64 31 65 75 (uI 0) (uI 1) (uI 2) se sn be so lo he n1 n2 n3 (cF 0) (cF 1) (cF 2) (cF 3) (cF 4) (cF 5) (cF 6) (cF 7) (cF 8) (nI 0) (nI 0) (cI 0) (cI 1) (cI 2) (cI 3) R K G cg (lN_ lo) hR hK (by omega) hcg hl c u n hc hu (by omega)) [64, 31, 32, 33, 34, 35, 36, 37, 38, 39, 40, 65, 66, 67, 68, 69, 70, 71, 72, 73, 74] 64 2 51 dX7_apart_48 rfl mk_X2_doorToShut mi_X2_doorToShut ml_X7_223 rfl rfl rfl (jn_cut [1, 1, 16, 2, 1, 10, 10, 1, 10, 10, 2, 1, 10, 2, 2] [11, 6, 12] [w0 E a fn fd, [(a 1, .inl (E.1.1 101, 8, .inr (.inr (.inr (.inr (rwA a))))))], wRS E a it th ln sz, wT E a 18 t (nI S) (tI 0) (tI 1) (tI 2) (tI 3), [(a 20, .inr (4, [.ref (a 18), .ref (a 21), .int (rI 0), .int (rI 1), .int (rI 2)]))], wH E a 21 (pF 0) (pF 1) (pF 2) (pF 3) (pF 4) (pF 5) (pF 6) (pF 7) (pF 8) (pI 0) (pI 1) (pI 2) (pI 3) (pI 4), wH E a 31 se sn be so lo he n1 n2 n3 (nI R) (nI K) (nI G) (nI 0) (nI 0), [(a 41, .inl (E.1.1 102, 2, .inr (.inr (.inr (.inr (imA a))))))], wH E a 42 (iF 0 0) (iF 0 1) (iF 0 2) (iF 0 3) (iF 0 4) (iF 0 5) (iF 0 6) (iF 0 7) (iF 0 8) (nI (iR 0)) (nI (iK 0)) (nI (iG 0)) (iu 0) (ig 0), wH E a 52 (iF 1 0) (iF 1 1) (iF 1 2) (iF 1 3) (iF 1 4) (iF 1 5) (iF 1 6) (iF 1 7) (iF 1 8) (nI (iR 1)) (nI (iK 1)) (nI (iG 1)) (iu 1) (ig 1), wA E a 62 kp (nI h) (nI x), wF E a 64 31 65 75 (uI 0) (uI 1) (uI 2), wH E a 65 (cF 0) (cF 1) (cF 2) (cF 3) (cF 4) (cF 5) (cF 6) (cF 7) (cF 8) (cI 0) (cI 1) (cI 2) (cI 3) (nI cg), [(a 75, iA E 5 fi), (a 76, iA E 5 sr)], wQ E a 77 31 s] [wF E a 64 31 65 75 (uI 0) (uI 1) (uI 2), wH E a 31 se sn be so lo he n1 n2 n3 (nI R) (nI K) (nI G) (nI 0) (nI 0), wH E a 65 (cF 0) (cF 1) (cF 2) (cF 3) (cF 4) (cF 5) (cF 6) (cF 7) (cF 8) (cI 0) (cI 1) (cI 2) (cI 3) (nI cg)] rfl (by decide) rfl rfl) rfl (Nat.le_of_ble_eq_true rfl) (by decide) (by decide) (by decide) rfl rfl (fun r w1 hpost => ?_)
            obtain ⟨wc, rfl, hwc, rfl⟩ := hpost
            obtain ⟨cF1, cI1, cg1, hcg1, rfl⟩ := hwc.fn
            refine mr_w (ws' := wX E a fn fd it th ln sz t S tI rI pF pI se sn be so lo he n1 n2 n3 R K G iF iR iK iG iu ig kp h x uI cF1 cI1 cg1 fi sr s) (jn_put [1, 1, 16, 2, 1, 10, 10, 1, 10, 10, 2, 1, 10, 2, 2] [11, 6, 12] [w0 E a fn fd, [(a 1, .inl (E.1.1 101, 8, .inr (.inr (.inr (.inr (rwA a))))))], wRS E a it th ln sz, wT E a 18 t (nI S) (tI 0) (tI 1) (tI 2) (tI 3), [(a 20, .inr (4, [.ref (a 18), .ref (a 21), .int (rI 0), .int (rI 1), .int (rI 2)]))], wH E a 21 (pF 0) (pF 1) (pF 2) (pF 3) (pF 4) (pF 5) (pF 6) (pF 7) (pF 8) (pI 0) (pI 1) (pI 2) (pI 3) (pI 4), wH E a 31 se sn be so lo he n1 n2 n3 (nI R) (nI K) (nI G) (nI 0) (nI 0), [(a 41, .inl (E.1.1 102, 2, .inr (.inr (.inr (.inr (imA a))))))], wH E a 42 (iF 0 0) (iF 0 1) (iF 0 2) (iF 0 3) (iF 0 4) (iF 0 5) (iF 0 6) (iF 0 7) (iF 0 8) (nI (iR 0)) (nI (iK 0)) (nI (iG 0)) (iu 0) (ig 0), wH E a 52 (iF 1 0) (iF 1 1) (iF 1 2) (iF 1 3) (iF 1 4) (iF 1 5) (iF 1 6) (iF 1 7) (iF 1 8) (nI (iR 1)) (nI (iK 1)) (nI (iG 1)) (iu 1) (ig 1), wA E a 62 kp (nI h) (nI x), wF E a 64 31 65 75 (uI 0) (uI 1) (uI 2), wH E a 65 (cF 0) (cF 1) (cF 2) (cF 3) (cF 4) (cF 5) (cF 6) (cF 7) (cF 8) (cI 0) (cI 1) (cI 2) (cI 3) (nI cg), [(a 75, iA E 5 fi), (a 76, iA E 5 sr)], wQ E a 77 31 s] [wF E a 64 31 65 75 (uI 0) (uI 1) (uI 2), wH E a 31 se sn be so lo he n1 n2 n3 (nI R) (nI K) (nI G) (nI 0) (nI 0), wH E a 65 (cF1 0) (cF1 1) (cF1 2) (cF1 3) (cF1 4) (cF1 5) (cF1 6) (cF1 7) (cF1 8) (cI1 0) (cI1 1) (cI1 2) (cI1 3) (nI cg1)] [w0 E a fn fd, [(a 1, .inl (E.1.1 101, 8, .inr (.inr (.inr (.inr (rwA a))))))], wRS E a it th ln sz, wT E a 18 t (nI S) (tI 0) (tI 1) (tI 2) (tI 3), [(a 20, .inr (4, [.ref (a 18), .ref (a 21), .int (rI 0), .int (rI 1), .int (rI 2)]))], wH E a 21 (pF 0) (pF 1) (pF 2) (pF 3) (pF 4) (pF 5) (pF 6) (pF 7) (pF 8) (pI 0) (pI 1) (pI 2) (pI 3) (pI 4), wH E a 31 se sn be so lo he n1 n2 n3 (nI R) (nI K) (nI G) (nI 0) (nI 0), [(a 41, .inl (E.1.1 102, 2, .inr (.inr (.inr (.inr (imA a))))))], wH E a 42 (iF 0 0) (iF 0 1) (iF 0 2) (iF 0 3) (iF 0 4) (iF 0 5) (iF 0 6) (iF 0 7) (iF 0 8) (nI (iR 0)) (nI (iK 0)) (nI (iG 0)) (iu 0) (ig 0), wH E a 52 (iF 1 0) (iF 1 1) (iF 1 2) (iF 1 3) (iF 1 4) (iF 1 5) (iF 1 6) (iF 1 7) (iF 1 8) (nI (iR 1)) (nI (iK 1)) (nI (iG 1)) (iu 1) (ig 1), wA E a 62 kp (nI h) (nI x), wF E a 64 31 65 75 (uI 0) (uI 1) (uI 2), wH E a 65 (cF1 0) (cF1 1) (cF1 2) (cF1 3) (cF1 4) (cF1 5) (cF1 6) (cF1 7) (cF1 8) (cI1 0) (cI1 1) (cI1 2) (cI1 3) (nI cg1), [(a 75, iA E 5 fi), (a 76, iA E 5 sr)], wQ E a 77 31 s] rfl (by decide) rfl rfl rfl) ?_
            refine mr_iret C dX7_apart_51 rfl rfl (by decide) (by decide) hlen ?_
            rw [hO]
            refine ⟨congrArg (fun z => some (Value.int z)) (((ifP_t (by omega)).trans (by rw [ic_, iu_, in_])).symm), cF1, cI1, cg1, hcg1, rfl⟩
          · rw [tI_le (by omega)] at c_35
            refine mr_ldc C 40 dX7_apart_38 rfl kc_X7_70 ?_
            refine mr_iret C dX7_apart_40 rfl rfl (by decide) (by decide) hlen ?_
            rw [hO]
            refine ⟨congrArg (fun z => some (Value.int z)) (ifP_f (by omega)).symm, cF, cI, cg, hcg, rfl⟩

set_option maxRecDepth 20000 in
set_option maxHeartbeats 4000000 in
theorem c_x_began (E : EG) (a : Nat → Nat) (fn fd : Int32) (it : Nat → FN) (th ln sz t : FN) (S : Nat) (tI rI : FN) (pF : Nat → FN) (pI se sn be so lo he n1 n2 n3 : FN) (R K G : Nat) (iF : Nat → Nat → FN) (iR iK iG : Nat → Nat) (iu ig kp : FN) (h x : Nat) (uI : FN) (cF : Nat → FN) (cI : FN) (cg : Nat) (fi sr : FN) (s : TRC) (c0 n0 : Int32) (hR : R ≤ 6) (hK : K ≤ 5) (hG : G ≤ 9999) (hl : ∀ c, c < K → lo c = nI (lN_ lo c) ∧ lN_ lo c < R) (hcg : cg < 6) (hsy : SY R sn) : Ctr E mX7_began (8, 0, 0) [.ref (a 0), .int c0, .int n0] (wX E a fn fd it th ln sz t S tI rI pF pI se sn be so lo he n1 n2 n3 R K G iF iR iK iG iu ig kp h x uI cF cI cg fi sr s) (fun v w => v = some (.int (beganV c0 n0 R K sn so he (lN_ lo))) ∧ ∃ (cF' : Nat → FN) (uI' cI' fi' sr' : FN) (cg' : Nat), cg' < 6 ∧ w = wX E a fn fd it th ln sz t S tI rI pF pI se sn be so lo he n1 n2 n3 R K G iF iR iK iG iu ig kp h x uI' cF' cI' cg' fi' sr' s) := by
  refine Ctr.of (by decide) (Nat.le_of_ble_eq_true rfl) ?_
  intro Z hO hn C
  have hlen : zn Z ≤ 79 := by rw [hn]; exact Nat.le_of_ble_eq_true rfl
  refine mr_aload_n C 1 dX7_began_0 rfl rfl ?_
  refine mr_get C 0 4 dX7_began_1 rfl fl_X7_34 rfl rfl ?_
  refine mr_get C 31 7 dX7_began_4 rfl fl_X7_138 rfl rfl ?_
  refine mr_ifne C 13 10 dX7_began_7 (by decide) rfl (fun c_7 => ?_) (fun c_7 => ?_)
  · have c_7 : ¬ R = 0 := fun h => c_7 (by rw [h]; rfl)
    refine mr_iload_n C 14 dX7_began_13 rfl rfl ?_
    refine mr_iconst C (-1) 15 dX7_began_14 rfl rfl ?_
    refine mr_icmpeq C 29 18 dX7_began_15 (by decide) rfl (fun c_15 => ?_) (fun c_15 => ?_)
    · rw [tI_m1] at c_15
      refine mr_iload_n C 30 dX7_began_29 rfl rfl ?_
      refine mr_iflt C 39 33 dX7_began_30 (by decide) rfl (fun c_30 => ?_) (fun c_30 => ?_)
      · rw [tI_lt0] at c_30
        refine mr_ldc C 41 dX7_began_39 rfl kc_X7_70 ?_
        refine mr_iret C dX7_began_41 rfl rfl (by decide) (by decide) hlen ?_
        rw [hO]
        refine ⟨congrArg (fun z => some (Value.int z)) (((ifP_f c_7).trans (ifP_f (by omega))).symm), cF, uI, cI, fi, sr, cg, hcg, rfl⟩
      · rw [tI_lt0] at c_30
        refine mr_iload_n C 34 dX7_began_33 rfl rfl ?_
        refine mr_bipush C (nI 9) 36 dX7_began_34 rfl rfl ?_
        refine mr_icmple C 42 39 dX7_began_36 (by decide) rfl (fun c_36 => ?_) (fun c_36 => ?_)
        · rw [tI_le (by omega)] at c_36
          obtain ⟨n, hn, rfl⟩ := tI_of (x := n0) (n := 10) (by omega) (by omega)
          have en : (nI n).toInt = (n : Int) := tI_n (by omega)
          have in_ : iN (nI n) = n := iN_n (by omega)
          refine mr_aload_n C 43 dX7_began_42 rfl rfl ?_
          refine mr_get C 0 46 dX7_began_43 rfl fl_X7_54 rfl rfl ?_
          refine mr_iload_n C 47 dX7_began_46 rfl rfl ?_
          refine mr_callV C (c_findBeginnings E a 64 31 65 75 (uI 0) (uI 1) (uI 2) se sn be so lo he n1 n2 n3 (cF 0) (cF 1) (cF 2) (cF 3) (cF 4) (cF 5) (cF 6) (cF 7) (cF 8) fi sr (nI 0) (nI 0) (cI 0) (cI 1) (cI 2) (cI 3) R K G hR (by omega) hK cg hcg (lN_ lo) hl hsy n (by omega)) [64, 31, 32, 33, 34, 35, 36, 37, 38, 39, 40, 65, 66, 67, 68, 69, 70, 71, 72, 73, 74, 75, 76] 64 2 50 dX7_began_47 rfl mk_X2_findBeginnings mi_X2_findBeginnings ml_X7_227 rfl rfl rfl (jn_cut [1, 1, 16, 2, 1, 10, 10, 1, 10, 10, 2, 1, 10, 2, 2] [11, 6, 12, 13] [w0 E a fn fd, [(a 1, .inl (E.1.1 101, 8, .inr (.inr (.inr (.inr (rwA a))))))], wRS E a it th ln sz, wT E a 18 t (nI S) (tI 0) (tI 1) (tI 2) (tI 3), [(a 20, .inr (4, [.ref (a 18), .ref (a 21), .int (rI 0), .int (rI 1), .int (rI 2)]))], wH E a 21 (pF 0) (pF 1) (pF 2) (pF 3) (pF 4) (pF 5) (pF 6) (pF 7) (pF 8) (pI 0) (pI 1) (pI 2) (pI 3) (pI 4), wH E a 31 se sn be so lo he n1 n2 n3 (nI R) (nI K) (nI G) (nI 0) (nI 0), [(a 41, .inl (E.1.1 102, 2, .inr (.inr (.inr (.inr (imA a))))))], wH E a 42 (iF 0 0) (iF 0 1) (iF 0 2) (iF 0 3) (iF 0 4) (iF 0 5) (iF 0 6) (iF 0 7) (iF 0 8) (nI (iR 0)) (nI (iK 0)) (nI (iG 0)) (iu 0) (ig 0), wH E a 52 (iF 1 0) (iF 1 1) (iF 1 2) (iF 1 3) (iF 1 4) (iF 1 5) (iF 1 6) (iF 1 7) (iF 1 8) (nI (iR 1)) (nI (iK 1)) (nI (iG 1)) (iu 1) (ig 1), wA E a 62 kp (nI h) (nI x), wF E a 64 31 65 75 (uI 0) (uI 1) (uI 2), wH E a 65 (cF 0) (cF 1) (cF 2) (cF 3) (cF 4) (cF 5) (cF 6) (cF 7) (cF 8) (cI 0) (cI 1) (cI 2) (cI 3) (nI cg), [(a 75, iA E 5 fi), (a 76, iA E 5 sr)], wQ E a 77 31 s] [wF E a 64 31 65 75 (uI 0) (uI 1) (uI 2), wH E a 31 se sn be so lo he n1 n2 n3 (nI R) (nI K) (nI G) (nI 0) (nI 0), wH E a 65 (cF 0) (cF 1) (cF 2) (cF 3) (cF 4) (cF 5) (cF 6) (cF 7) (cF 8) (cI 0) (cI 1) (cI 2) (cI 3) (nI cg), [(a 75, iA E 5 fi), (a 76, iA E 5 sr)]] rfl (by decide) rfl rfl) rfl (Nat.le_of_ble_eq_true rfl) (by decide) (by decide) (by decide) rfl rfl (fun r w1 hpost => ?_)
          obtain ⟨wc, fi1, sr1, rfl, hwc, rfl, hfi⟩ := hpost
          obtain ⟨cF1, cI1, cg1, hcg1, rfl⟩ := hwc.fn
          refine mr_w (ws' := wX E a fn fd it th ln sz t S tI rI pF pI se sn be so lo he n1 n2 n3 R K G iF iR iK iG iu ig kp h x (f3 (uI 0) (uI 1) (nI (cntP (begP R K n sn so he (lN_ lo)) (R ^ K)))) cF1 cI1 cg1 fi1 sr1 s) (jn_put [1, 1, 16, 2, 1, 10, 10, 1, 10, 10, 2, 1, 10, 2, 2] [11, 6, 12, 13] [w0 E a fn fd, [(a 1, .inl (E.1.1 101, 8, .inr (.inr (.inr (.inr (rwA a))))))], wRS E a it th ln sz, wT E a 18 t (nI S) (tI 0) (tI 1) (tI 2) (tI 3), [(a 20, .inr (4, [.ref (a 18), .ref (a 21), .int (rI 0), .int (rI 1), .int (rI 2)]))], wH E a 21 (pF 0) (pF 1) (pF 2) (pF 3) (pF 4) (pF 5) (pF 6) (pF 7) (pF 8) (pI 0) (pI 1) (pI 2) (pI 3) (pI 4), wH E a 31 se sn be so lo he n1 n2 n3 (nI R) (nI K) (nI G) (nI 0) (nI 0), [(a 41, .inl (E.1.1 102, 2, .inr (.inr (.inr (.inr (imA a))))))], wH E a 42 (iF 0 0) (iF 0 1) (iF 0 2) (iF 0 3) (iF 0 4) (iF 0 5) (iF 0 6) (iF 0 7) (iF 0 8) (nI (iR 0)) (nI (iK 0)) (nI (iG 0)) (iu 0) (ig 0), wH E a 52 (iF 1 0) (iF 1 1) (iF 1 2) (iF 1 3) (iF 1 4) (iF 1 5) (iF 1 6) (iF 1 7) (iF 1 8) (nI (iR 1)) (nI (iK 1)) (nI (iG 1)) (iu 1) (ig 1), wA E a 62 kp (nI h) (nI x), wF E a 64 31 65 75 (uI 0) (uI 1) (uI 2), wH E a 65 (cF 0) (cF 1) (cF 2) (cF 3) (cF 4) (cF 5) (cF 6) (cF 7) (cF 8) (cI 0) (cI 1) (cI 2) (cI 3) (nI cg), [(a 75, iA E 5 fi), (a 76, iA E 5 sr)], wQ E a 77 31 s] [wF E a 64 31 65 75 (uI 0) (uI 1) (nI (cntP (begP R K n sn so he (lN_ lo)) (R ^ K))), wH E a 31 se sn be so lo he n1 n2 n3 (nI R) (nI K) (nI G) (nI 0) (nI 0), wH E a 65 (cF1 0) (cF1 1) (cF1 2) (cF1 3) (cF1 4) (cF1 5) (cF1 6) (cF1 7) (cF1 8) (cI1 0) (cI1 1) (cI1 2) (cI1 3) (nI cg1), [(a 75, iA E 5 fi1), (a 76, iA E 5 sr1)]] [w0 E a fn fd, [(a 1, .inl (E.1.1 101, 8, .inr (.inr (.inr (.inr (rwA a))))))], wRS E a it th ln sz, wT E a 18 t (nI S) (tI 0) (tI 1) (tI 2) (tI 3), [(a 20, .inr (4, [.ref (a 18), .ref (a 21), .int (rI 0), .int (rI 1), .int (rI 2)]))], wH E a 21 (pF 0) (pF 1) (pF 2) (pF 3) (pF 4) (pF 5) (pF 6) (pF 7) (pF 8) (pI 0) (pI 1) (pI 2) (pI 3) (pI 4), wH E a 31 se sn be so lo he n1 n2 n3 (nI R) (nI K) (nI G) (nI 0) (nI 0), [(a 41, .inl (E.1.1 102, 2, .inr (.inr (.inr (.inr (imA a))))))], wH E a 42 (iF 0 0) (iF 0 1) (iF 0 2) (iF 0 3) (iF 0 4) (iF 0 5) (iF 0 6) (iF 0 7) (iF 0 8) (nI (iR 0)) (nI (iK 0)) (nI (iG 0)) (iu 0) (ig 0), wH E a 52 (iF 1 0) (iF 1 1) (iF 1 2) (iF 1 3) (iF 1 4) (iF 1 5) (iF 1 6) (iF 1 7) (iF 1 8) (nI (iR 1)) (nI (iK 1)) (nI (iG 1)) (iu 1) (ig 1), wA E a 62 kp (nI h) (nI x), wF E a 64 31 65 75 (uI 0) (uI 1) (nI (cntP (begP R K n sn so he (lN_ lo)) (R ^ K))), wH E a 65 (cF1 0) (cF1 1) (cF1 2) (cF1 3) (cF1 4) (cF1 5) (cF1 6) (cF1 7) (cF1 8) (cI1 0) (cI1 1) (cI1 2) (cI1 3) (nI cg1), [(a 75, iA E 5 fi1), (a 76, iA E 5 sr1)], wQ E a 77 31 s] rfl (by decide) rfl rfl rfl) ?_
          refine mr_iload_n C 51 dX7_began_50 rfl rfl ?_
          refine mr_iconst C (-1) 52 dX7_began_51 rfl rfl ?_
          refine mr_icmpne C 63 55 dX7_began_52 (by decide) rfl (fun c_52 => ?_) (fun c_52 => ?_)
          · rw [Ne, tI_m1] at c_52
            refine mr_aload_n C 64 dX7_began_63 rfl rfl ?_
            refine mr_get C 0 67 dX7_began_64 rfl fl_X7_54 rfl rfl ?_
            refine mr_get C 64 70 dX7_began_67 rfl fl_X7_230 rfl rfl ?_
            refine mr_ifne C 78 73 dX7_began_70 (by decide) rfl (fun c_70 => ?_) (fun c_70 => ?_)
            · have c_70 : ¬ cntP (begP R K n sn so he (lN_ lo)) (R ^ K) = 0 := fun h => c_70 (by rw [h]; rfl)
              obtain ⟨c, hc, rfl⟩ := tI_of (x := c0) (n := K) (by omega) (by omega)
              have ec : (nI c).toInt = (c : Int) := tI_n (by omega)
              have ic_ : iN (nI c) = c := iN_n (by omega)
              refine mr_aload_n C 79 dX7_began_78 rfl rfl ?_
              refine mr_get C 0 82 dX7_began_79 rfl fl_X7_54 rfl rfl ?_
              refine mr_get C 64 85 dX7_began_82 rfl fl_X7_234 rfl rfl ?_
              refine mr_iload_n C 86 dX7_began_85 rfl rfl ?_
              refine mr_iald C 75 c 87 dX7_began_86 rfl rfl rfl (by omega) (by decide) ?_
              refine mr_iret C dX7_began_87 rfl rfl (by decide) (by decide) hlen ?_
              rw [hO]
              have hp7 := powRK hR hK
              obtain ⟨j, hj1, hj2, hj3, hj4⟩ := hfi (by omega)
              have e9 : fstN (begP R K n sn so he (lN_ lo)) (R ^ K) 0 = j := fstN_hit (R ^ K) 0 j (by omega) (by omega) (fun k _ h => hj3 k h) hj2
              refine ⟨?_, cF1, _, cI1, fi1, sr1, cg1, hcg1, rfl⟩
              refine congrArg (fun z => some (Value.int z)) (((hj4 c hc).trans ?_))
              refine ((ifP_f c_7).trans ((ifP_t (by omega)).trans ((ifP_f (by omega)).trans (by rw [in_, ic_]; exact (ifP_f c_70).trans (by rw [e9]))))).symm
            · have c_70 : cntP (begP R K n sn so he (lN_ lo)) (R ^ K) = 0 := (nI_eq (b := 0) (by have := cntP_le (P := begP R K n sn so he (lN_ lo)) (R ^ K); have := powRK hR hK; omega) (by omega)).mp c_70
              refine mr_ldc C 75 dX7_began_73 rfl kc_X7_233 ?_
              refine mr_goto C 87 dX7_began_75 (by decide) ?_
              refine mr_iret C dX7_began_87 rfl rfl (by decide) (by decide) hlen ?_
              rw [hO]
              refine ⟨congrArg (fun z => some (Value.int z)) (((ifP_f c_7).trans ((ifP_t (by omega)).trans ((ifP_f (by omega)).trans (by rw [in_]; exact ifP_t c_70)))).symm), cF1, _, cI1, fi1, sr1, cg1, hcg1, rfl⟩
          · rw [tI_m1] at c_52
            refine mr_aload_n C 56 dX7_began_55 rfl rfl ?_
            refine mr_get C 0 59 dX7_began_56 rfl fl_X7_54 rfl rfl ?_
            refine mr_get C 64 62 dX7_began_59 rfl fl_X7_230 rfl rfl ?_
            refine mr_iret C dX7_began_62 rfl rfl (by decide) (by decide) hlen ?_
            rw [hO]
            refine ⟨congrArg (fun z => some (Value.int z)) (((ifP_f c_7).trans ((ifP_t (by omega)).trans ((ifP_t (by omega)).trans (by rw [in_]; rfl)))).symm), cF1, _, cI1, fi1, sr1, cg1, hcg1, rfl⟩
        · rw [tI_le (by omega)] at c_36
          refine mr_ldc C 41 dX7_began_39 rfl kc_X7_70 ?_
          refine mr_iret C dX7_began_41 rfl rfl (by decide) (by decide) hlen ?_
          rw [hO]
          refine ⟨congrArg (fun z => some (Value.int z)) (((ifP_f c_7).trans (ifP_f (by omega))).symm), cF, uI, cI, fi, sr, cg, hcg, rfl⟩
    · rw [tI_m1] at c_15
      refine mr_aload_n C 19 dX7_began_18 rfl rfl ?_
      refine mr_get C 0 22 dX7_began_19 rfl fl_X7_34 rfl rfl ?_
      refine mr_iload_n C 23 dX7_began_22 rfl rfl ?_
      refine mr_callV C (c_isCrowdI E a 31 se sn be so lo he n1 n2 n3 (nI R) (nI G) (nI 0) (nI 0) K (by omega) c0) [31, 32, 33, 34, 35, 36, 37, 38, 39, 40] 31 3 26 dX7_began_23 rfl mk_X3_isCrowd mi_X3_isCrowd ml_X7_180 rfl rfl rfl (jn_cut [1, 1, 16, 2, 1, 10, 10, 1, 10, 10, 2, 1, 10, 2, 2] [6] [w0 E a fn fd, [(a 1, .inl (E.1.1 101, 8, .inr (.inr (.inr (.inr (rwA a))))))], wRS E a it th ln sz, wT E a 18 t (nI S) (tI 0) (tI 1) (tI 2) (tI 3), [(a 20, .inr (4, [.ref (a 18), .ref (a 21), .int (rI 0), .int (rI 1), .int (rI 2)]))], wH E a 21 (pF 0) (pF 1) (pF 2) (pF 3) (pF 4) (pF 5) (pF 6) (pF 7) (pF 8) (pI 0) (pI 1) (pI 2) (pI 3) (pI 4), wH E a 31 se sn be so lo he n1 n2 n3 (nI R) (nI K) (nI G) (nI 0) (nI 0), [(a 41, .inl (E.1.1 102, 2, .inr (.inr (.inr (.inr (imA a))))))], wH E a 42 (iF 0 0) (iF 0 1) (iF 0 2) (iF 0 3) (iF 0 4) (iF 0 5) (iF 0 6) (iF 0 7) (iF 0 8) (nI (iR 0)) (nI (iK 0)) (nI (iG 0)) (iu 0) (ig 0), wH E a 52 (iF 1 0) (iF 1 1) (iF 1 2) (iF 1 3) (iF 1 4) (iF 1 5) (iF 1 6) (iF 1 7) (iF 1 8) (nI (iR 1)) (nI (iK 1)) (nI (iG 1)) (iu 1) (ig 1), wA E a 62 kp (nI h) (nI x), wF E a 64 31 65 75 (uI 0) (uI 1) (uI 2), wH E a 65 (cF 0) (cF 1) (cF 2) (cF 3) (cF 4) (cF 5) (cF 6) (cF 7) (cF 8) (cI 0) (cI 1) (cI 2) (cI 3) (nI cg), [(a 75, iA E 5 fi), (a 76, iA E 5 sr)], wQ E a 77 31 s] [wH E a 31 se sn be so lo he n1 n2 n3 (nI R) (nI K) (nI G) (nI 0) (nI 0)] rfl (by decide) rfl rfl) rfl (Nat.le_of_ble_eq_true rfl) (by decide) (by decide) (by decide) rfl rfl (fun r w1 hpost => ?_)
      obtain ⟨rfl, rfl⟩ := hpost
      refine mr_w (wput_id (jn_cut [1, 1, 16, 2, 1, 10, 10, 1, 10, 10, 2, 1, 10, 2, 2] [6] [w0 E a fn fd, [(a 1, .inl (E.1.1 101, 8, .inr (.inr (.inr (.inr (rwA a))))))], wRS E a it th ln sz, wT E a 18 t (nI S) (tI 0) (tI 1) (tI 2) (tI 3), [(a 20, .inr (4, [.ref (a 18), .ref (a 21), .int (rI 0), .int (rI 1), .int (rI 2)]))], wH E a 21 (pF 0) (pF 1) (pF 2) (pF 3) (pF 4) (pF 5) (pF 6) (pF 7) (pF 8) (pI 0) (pI 1) (pI 2) (pI 3) (pI 4), wH E a 31 se sn be so lo he n1 n2 n3 (nI R) (nI K) (nI G) (nI 0) (nI 0), [(a 41, .inl (E.1.1 102, 2, .inr (.inr (.inr (.inr (imA a))))))], wH E a 42 (iF 0 0) (iF 0 1) (iF 0 2) (iF 0 3) (iF 0 4) (iF 0 5) (iF 0 6) (iF 0 7) (iF 0 8) (nI (iR 0)) (nI (iK 0)) (nI (iG 0)) (iu 0) (ig 0), wH E a 52 (iF 1 0) (iF 1 1) (iF 1 2) (iF 1 3) (iF 1 4) (iF 1 5) (iF 1 6) (iF 1 7) (iF 1 8) (nI (iR 1)) (nI (iK 1)) (nI (iG 1)) (iu 1) (ig 1), wA E a 62 kp (nI h) (nI x), wF E a 64 31 65 75 (uI 0) (uI 1) (uI 2), wH E a 65 (cF 0) (cF 1) (cF 2) (cF 3) (cF 4) (cF 5) (cF 6) (cF 7) (cF 8) (cI 0) (cI 1) (cI 2) (cI 3) (nI cg), [(a 75, iA E 5 fi), (a 76, iA E 5 sr)], wQ E a 77 31 s] [wH E a 31 se sn be so lo he n1 n2 n3 (nI R) (nI K) (nI G) (nI 0) (nI 0)] rfl (by decide) rfl rfl)) ?_
      refine mr_ifeq C 39 29 dX7_began_26 (by decide) rfl (fun c_26 => ?_) (fun c_26 => ?_)
      · rw [bI_eq] at c_26
        refine mr_ldc C 41 dX7_began_39 rfl kc_X7_70 ?_
        refine mr_iret C dX7_began_41 rfl rfl (by decide) (by decide) hlen ?_
        rw [hO]
        refine ⟨congrArg (fun z => some (Value.int z)) (((ifP_f c_7).trans (ifP_f (by omega))).symm), cF, uI, cI, fi, sr, cg, hcg, rfl⟩
      · rw [← Ne, bI_ne] at c_26
        refine mr_iload_n C 30 dX7_began_29 rfl rfl ?_
        refine mr_iflt C 39 33 dX7_began_30 (by decide) rfl (fun c_30 => ?_) (fun c_30 => ?_)
        · rw [tI_lt0] at c_30
          refine mr_ldc C 41 dX7_began_39 rfl kc_X7_70 ?_
          refine mr_iret C dX7_began_41 rfl rfl (by decide) (by decide) hlen ?_
          rw [hO]
          refine ⟨congrArg (fun z => some (Value.int z)) (((ifP_f c_7).trans (ifP_f (by omega))).symm), cF, uI, cI, fi, sr, cg, hcg, rfl⟩
        · rw [tI_lt0] at c_30
          refine mr_iload_n C 34 dX7_began_33 rfl rfl ?_
          refine mr_bipush C (nI 9) 36 dX7_began_34 rfl rfl ?_
          refine mr_icmple C 42 39 dX7_began_36 (by decide) rfl (fun c_36 => ?_) (fun c_36 => ?_)
          · rw [tI_le (by omega)] at c_36
            obtain ⟨n, hn, rfl⟩ := tI_of (x := n0) (n := 10) (by omega) (by omega)
            have en : (nI n).toInt = (n : Int) := tI_n (by omega)
            have in_ : iN (nI n) = n := iN_n (by omega)
            refine mr_aload_n C 43 dX7_began_42 rfl rfl ?_
            refine mr_get C 0 46 dX7_began_43 rfl fl_X7_54 rfl rfl ?_
            refine mr_iload_n C 47 dX7_began_46 rfl rfl ?_
            refine mr_callV C (c_findBeginnings E a 64 31 65 75 (uI 0) (uI 1) (uI 2) se sn be so lo he n1 n2 n3 (cF 0) (cF 1) (cF 2) (cF 3) (cF 4) (cF 5) (cF 6) (cF 7) (cF 8) fi sr (nI 0) (nI 0) (cI 0) (cI 1) (cI 2) (cI 3) R K G hR (by omega) hK cg hcg (lN_ lo) hl hsy n (by omega)) [64, 31, 32, 33, 34, 35, 36, 37, 38, 39, 40, 65, 66, 67, 68, 69, 70, 71, 72, 73, 74, 75, 76] 64 2 50 dX7_began_47 rfl mk_X2_findBeginnings mi_X2_findBeginnings ml_X7_227 rfl rfl rfl (jn_cut [1, 1, 16, 2, 1, 10, 10, 1, 10, 10, 2, 1, 10, 2, 2] [11, 6, 12, 13] [w0 E a fn fd, [(a 1, .inl (E.1.1 101, 8, .inr (.inr (.inr (.inr (rwA a))))))], wRS E a it th ln sz, wT E a 18 t (nI S) (tI 0) (tI 1) (tI 2) (tI 3), [(a 20, .inr (4, [.ref (a 18), .ref (a 21), .int (rI 0), .int (rI 1), .int (rI 2)]))], wH E a 21 (pF 0) (pF 1) (pF 2) (pF 3) (pF 4) (pF 5) (pF 6) (pF 7) (pF 8) (pI 0) (pI 1) (pI 2) (pI 3) (pI 4), wH E a 31 se sn be so lo he n1 n2 n3 (nI R) (nI K) (nI G) (nI 0) (nI 0), [(a 41, .inl (E.1.1 102, 2, .inr (.inr (.inr (.inr (imA a))))))], wH E a 42 (iF 0 0) (iF 0 1) (iF 0 2) (iF 0 3) (iF 0 4) (iF 0 5) (iF 0 6) (iF 0 7) (iF 0 8) (nI (iR 0)) (nI (iK 0)) (nI (iG 0)) (iu 0) (ig 0), wH E a 52 (iF 1 0) (iF 1 1) (iF 1 2) (iF 1 3) (iF 1 4) (iF 1 5) (iF 1 6) (iF 1 7) (iF 1 8) (nI (iR 1)) (nI (iK 1)) (nI (iG 1)) (iu 1) (ig 1), wA E a 62 kp (nI h) (nI x), wF E a 64 31 65 75 (uI 0) (uI 1) (uI 2), wH E a 65 (cF 0) (cF 1) (cF 2) (cF 3) (cF 4) (cF 5) (cF 6) (cF 7) (cF 8) (cI 0) (cI 1) (cI 2) (cI 3) (nI cg), [(a 75, iA E 5 fi), (a 76, iA E 5 sr)], wQ E a 77 31 s] [wF E a 64 31 65 75 (uI 0) (uI 1) (uI 2), wH E a 31 se sn be so lo he n1 n2 n3 (nI R) (nI K) (nI G) (nI 0) (nI 0), wH E a 65 (cF 0) (cF 1) (cF 2) (cF 3) (cF 4) (cF 5) (cF 6) (cF 7) (cF 8) (cI 0) (cI 1) (cI 2) (cI 3) (nI cg), [(a 75, iA E 5 fi), (a 76, iA E 5 sr)]] rfl (by decide) rfl rfl) rfl (Nat.le_of_ble_eq_true rfl) (by decide) (by decide) (by decide) rfl rfl (fun r w1 hpost => ?_)
            obtain ⟨wc, fi1, sr1, rfl, hwc, rfl, hfi⟩ := hpost
            obtain ⟨cF1, cI1, cg1, hcg1, rfl⟩ := hwc.fn
            refine mr_w (ws' := wX E a fn fd it th ln sz t S tI rI pF pI se sn be so lo he n1 n2 n3 R K G iF iR iK iG iu ig kp h x (f3 (uI 0) (uI 1) (nI (cntP (begP R K n sn so he (lN_ lo)) (R ^ K)))) cF1 cI1 cg1 fi1 sr1 s) (jn_put [1, 1, 16, 2, 1, 10, 10, 1, 10, 10, 2, 1, 10, 2, 2] [11, 6, 12, 13] [w0 E a fn fd, [(a 1, .inl (E.1.1 101, 8, .inr (.inr (.inr (.inr (rwA a))))))], wRS E a it th ln sz, wT E a 18 t (nI S) (tI 0) (tI 1) (tI 2) (tI 3), [(a 20, .inr (4, [.ref (a 18), .ref (a 21), .int (rI 0), .int (rI 1), .int (rI 2)]))], wH E a 21 (pF 0) (pF 1) (pF 2) (pF 3) (pF 4) (pF 5) (pF 6) (pF 7) (pF 8) (pI 0) (pI 1) (pI 2) (pI 3) (pI 4), wH E a 31 se sn be so lo he n1 n2 n3 (nI R) (nI K) (nI G) (nI 0) (nI 0), [(a 41, .inl (E.1.1 102, 2, .inr (.inr (.inr (.inr (imA a))))))], wH E a 42 (iF 0 0) (iF 0 1) (iF 0 2) (iF 0 3) (iF 0 4) (iF 0 5) (iF 0 6) (iF 0 7) (iF 0 8) (nI (iR 0)) (nI (iK 0)) (nI (iG 0)) (iu 0) (ig 0), wH E a 52 (iF 1 0) (iF 1 1) (iF 1 2) (iF 1 3) (iF 1 4) (iF 1 5) (iF 1 6) (iF 1 7) (iF 1 8) (nI (iR 1)) (nI (iK 1)) (nI (iG 1)) (iu 1) (ig 1), wA E a 62 kp (nI h) (nI x), wF E a 64 31 65 75 (uI 0) (uI 1) (uI 2), wH E a 65 (cF 0) (cF 1) (cF 2) (cF 3) (cF 4) (cF 5) (cF 6) (cF 7) (cF 8) (cI 0) (cI 1) (cI 2) (cI 3) (nI cg), [(a 75, iA E 5 fi), (a 76, iA E 5 sr)], wQ E a 77 31 s] [wF E a 64 31 65 75 (uI 0) (uI 1) (nI (cntP (begP R K n sn so he (lN_ lo)) (R ^ K))), wH E a 31 se sn be so lo he n1 n2 n3 (nI R) (nI K) (nI G) (nI 0) (nI 0), wH E a 65 (cF1 0) (cF1 1) (cF1 2) (cF1 3) (cF1 4) (cF1 5) (cF1 6) (cF1 7) (cF1 8) (cI1 0) (cI1 1) (cI1 2) (cI1 3) (nI cg1), [(a 75, iA E 5 fi1), (a 76, iA E 5 sr1)]] [w0 E a fn fd, [(a 1, .inl (E.1.1 101, 8, .inr (.inr (.inr (.inr (rwA a))))))], wRS E a it th ln sz, wT E a 18 t (nI S) (tI 0) (tI 1) (tI 2) (tI 3), [(a 20, .inr (4, [.ref (a 18), .ref (a 21), .int (rI 0), .int (rI 1), .int (rI 2)]))], wH E a 21 (pF 0) (pF 1) (pF 2) (pF 3) (pF 4) (pF 5) (pF 6) (pF 7) (pF 8) (pI 0) (pI 1) (pI 2) (pI 3) (pI 4), wH E a 31 se sn be so lo he n1 n2 n3 (nI R) (nI K) (nI G) (nI 0) (nI 0), [(a 41, .inl (E.1.1 102, 2, .inr (.inr (.inr (.inr (imA a))))))], wH E a 42 (iF 0 0) (iF 0 1) (iF 0 2) (iF 0 3) (iF 0 4) (iF 0 5) (iF 0 6) (iF 0 7) (iF 0 8) (nI (iR 0)) (nI (iK 0)) (nI (iG 0)) (iu 0) (ig 0), wH E a 52 (iF 1 0) (iF 1 1) (iF 1 2) (iF 1 3) (iF 1 4) (iF 1 5) (iF 1 6) (iF 1 7) (iF 1 8) (nI (iR 1)) (nI (iK 1)) (nI (iG 1)) (iu 1) (ig 1), wA E a 62 kp (nI h) (nI x), wF E a 64 31 65 75 (uI 0) (uI 1) (nI (cntP (begP R K n sn so he (lN_ lo)) (R ^ K))), wH E a 65 (cF1 0) (cF1 1) (cF1 2) (cF1 3) (cF1 4) (cF1 5) (cF1 6) (cF1 7) (cF1 8) (cI1 0) (cI1 1) (cI1 2) (cI1 3) (nI cg1), [(a 75, iA E 5 fi1), (a 76, iA E 5 sr1)], wQ E a 77 31 s] rfl (by decide) rfl rfl rfl) ?_
            refine mr_iload_n C 51 dX7_began_50 rfl rfl ?_
            refine mr_iconst C (-1) 52 dX7_began_51 rfl rfl ?_
            refine mr_icmpne C 63 55 dX7_began_52 (by decide) rfl (fun c_52 => ?_) (fun c_52 => ?_)
            · rw [Ne, tI_m1] at c_52
              refine mr_aload_n C 64 dX7_began_63 rfl rfl ?_
              refine mr_get C 0 67 dX7_began_64 rfl fl_X7_54 rfl rfl ?_
              refine mr_get C 64 70 dX7_began_67 rfl fl_X7_230 rfl rfl ?_
              refine mr_ifne C 78 73 dX7_began_70 (by decide) rfl (fun c_70 => ?_) (fun c_70 => ?_)
              · have c_70 : ¬ cntP (begP R K n sn so he (lN_ lo)) (R ^ K) = 0 := fun h => c_70 (by rw [h]; rfl)
                obtain ⟨c, hc, rfl⟩ := tI_of (x := c0) (n := K) (by omega) (by omega)
                have ec : (nI c).toInt = (c : Int) := tI_n (by omega)
                have ic_ : iN (nI c) = c := iN_n (by omega)
                refine mr_aload_n C 79 dX7_began_78 rfl rfl ?_
                refine mr_get C 0 82 dX7_began_79 rfl fl_X7_54 rfl rfl ?_
                refine mr_get C 64 85 dX7_began_82 rfl fl_X7_234 rfl rfl ?_
                refine mr_iload_n C 86 dX7_began_85 rfl rfl ?_
                refine mr_iald C 75 c 87 dX7_began_86 rfl rfl rfl (by omega) (by decide) ?_
                refine mr_iret C dX7_began_87 rfl rfl (by decide) (by decide) hlen ?_
                rw [hO]
                have hp7 := powRK hR hK
                obtain ⟨j, hj1, hj2, hj3, hj4⟩ := hfi (by omega)
                have e9 : fstN (begP R K n sn so he (lN_ lo)) (R ^ K) 0 = j := fstN_hit (R ^ K) 0 j (by omega) (by omega) (fun k _ h => hj3 k h) hj2
                refine ⟨?_, cF1, _, cI1, fi1, sr1, cg1, hcg1, rfl⟩
                refine congrArg (fun z => some (Value.int z)) (((hj4 c hc).trans ?_))
                refine ((ifP_f c_7).trans ((ifP_t (by omega)).trans ((ifP_f (by omega)).trans (by rw [in_, ic_]; exact (ifP_f c_70).trans (by rw [e9]))))).symm
              · have c_70 : cntP (begP R K n sn so he (lN_ lo)) (R ^ K) = 0 := (nI_eq (b := 0) (by have := cntP_le (P := begP R K n sn so he (lN_ lo)) (R ^ K); have := powRK hR hK; omega) (by omega)).mp c_70
                refine mr_ldc C 75 dX7_began_73 rfl kc_X7_233 ?_
                refine mr_goto C 87 dX7_began_75 (by decide) ?_
                refine mr_iret C dX7_began_87 rfl rfl (by decide) (by decide) hlen ?_
                rw [hO]
                refine ⟨congrArg (fun z => some (Value.int z)) (((ifP_f c_7).trans ((ifP_t (by omega)).trans ((ifP_f (by omega)).trans (by rw [in_]; exact ifP_t c_70)))).symm), cF1, _, cI1, fi1, sr1, cg1, hcg1, rfl⟩
            · rw [tI_m1] at c_52
              refine mr_aload_n C 56 dX7_began_55 rfl rfl ?_
              refine mr_get C 0 59 dX7_began_56 rfl fl_X7_54 rfl rfl ?_
              refine mr_get C 64 62 dX7_began_59 rfl fl_X7_230 rfl rfl ?_
              refine mr_iret C dX7_began_62 rfl rfl (by decide) (by decide) hlen ?_
              rw [hO]
              refine ⟨congrArg (fun z => some (Value.int z)) (((ifP_f c_7).trans ((ifP_t (by omega)).trans ((ifP_t (by omega)).trans (by rw [in_]; rfl)))).symm), cF1, _, cI1, fi1, sr1, cg1, hcg1, rfl⟩
          · rw [tI_le (by omega)] at c_36
            refine mr_ldc C 41 dX7_began_39 rfl kc_X7_70 ?_
            refine mr_iret C dX7_began_41 rfl rfl (by decide) (by decide) hlen ?_
            rw [hO]
            refine ⟨congrArg (fun z => some (Value.int z)) (((ifP_f c_7).trans (ifP_f (by omega))).symm), cF, uI, cI, fi, sr, cg, hcg, rfl⟩
  · have c_7 : R = 0 := (nI_eq (b := 0) (by omega) (by omega)).mp c_7
    refine mr_ldc C 12 dX7_began_10 rfl kc_X7_141 ?_
    refine mr_iret C dX7_began_12 rfl rfl (by decide) (by decide) hlen ?_
    rw [hO]
    refine ⟨congrArg (fun z => some (Value.int z)) ((ifP_t c_7).symm), cF, uI, cI, fi, sr, cg, hcg, rfl⟩

