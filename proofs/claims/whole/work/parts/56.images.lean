/-! the class' calls: images, kinds, asks, counts -/
/-- the images: arrays, rooms, crowds, bells -/
abbrev IMT : Type := (Nat → Nat → FN) × (Nat → Nat) × (Nat → Nat) × (Nat → Nat)
/-- two houses that can't be told apart -/
def HE6 (se sn be so lo he se' sn' be' so' lo' he' : FN) : Prop := Ag 6 se' se ∧ Ag 6 sn' sn ∧ Ag 6 be' be ∧ Ag 5 so' so ∧ Ag 5 lo' lo ∧ Ag 5 he' he
noncomputable def NxImage (k : Int32) (R K G : Nat) (se sn be so lo he : FN) (y : IMT) (v : Int32) (y' : IMT) : Prop :=
  ifP (0 ≤ k.toInt ∧ k.toInt < 2) (ifP (R = 0) (v = -1000002 ∧ y' = y) (v = 1 ∧ ∃ F : Nat → FN, y' = (va_up y.1 (iN k) F, va_up y.2.1 (iN k) R, va_up y.2.2.1 (iN k) K, va_up y.2.2.2 (iN k) G) ∧ HE6 se sn be so lo he (F 0) (F 1) (F 2) (F 3) (F 4) (F 5))) (v = -1000001 ∧ y' = y)
/-- the house that stands -/
abbrev HST : Type := Nat × Nat × Nat × FN × FN × FN × FN × FN × FN
noncomputable def NxRestore (k : Int32) (z : HST) (c : ACT) (y : IMT) (v : Int32) (z' : HST) (c' : ACT) : Prop :=
  ifP (0 ≤ k.toInt ∧ k.toInt < 2) (ifP (y.2.1 (iN k) = 0) (v = -1000002 ∧ z' = z ∧ c' = c) (v = 1 ∧ c' = (c.1, 0, 0) ∧ z'.1 = y.2.1 (iN k) ∧ z'.2.1 = y.2.2.1 (iN k) ∧ z'.2.2.1 = y.2.2.2 (iN k) ∧
    HE6 (y.1 (iN k) 0) (y.1 (iN k) 1) (y.1 (iN k) 2) (y.1 (iN k) 3) (y.1 (iN k) 4) (y.1 (iN k) 5) z'.2.2.2.1 z'.2.2.2.2.1 z'.2.2.2.2.2.1 z'.2.2.2.2.2.2.1 z'.2.2.2.2.2.2.2.1 z'.2.2.2.2.2.2.2.2)) (v = -1000001 ∧ z' = z ∧ c' = c)
noncomputable def NxAs (c k : Int32) (K : Nat) (so : FN) (fd v fd' : Int32) : Prop :=
  ifP (0 ≤ c.toInt ∧ c.toInt < K ∧ 0 ≤ k.toInt ∧ k.toInt ≤ 5) (ifP (isaS (iN (so (iN c))) (iN k) = 0) (v = -1000010 - nI 3 ∧ fd' = nI 3) (v = c ∧ fd' = nI 0)) (v = -1000001 ∧ fd' = fd)
noncomputable def NxAsk (c y : Int32) (K : Nat) (so lo he : FN) (s : TRC) (v : Int32) (s' : TRC) : Prop :=
  ifP (0 ≤ c.toInt ∧ c.toInt < K ∧ 0 ≤ y.toInt ∧ y.toInt ≤ 1) (v = askV (iN (so (iN c))) (iN y) (iN c) (he (iN c)) (lo (iN c)) ∧ s' = lvL (askT (iN (so (iN c))) (iN y)) (s.1, 0)) (v = -1000001 ∧ s' = s)
/-- rows that are there -/
def cntT (th : FN) : Nat → Int32
  | 0 => nI 0
  | r + 1 => if th r = 0 then cntT th r else cntT th r + nI 1
noncomputable def countV (y : Int32) (th : FN) (R K G h S : Nat) (he : FN) : Int32 :=
  ifP (y = nI 0) (cntT th 8) (ifP (y = nI 1) (nI R) (ifP (y = nI 2) (nI K) (ifP (y = nI 3) (nI G) (ifP (y = nI 4) (nI h) (ifP (y = nI 5) (sumA he K) (ifP (y = nI 6) (nI S) (-1000001)))))))
theorem va1_0 {α : Type} (f : Nat → α) (x : α) : va_up f 0 x 1 = f 1 := rfl
theorem va1_1 {α : Type} (f : Nat → α) (x : α) : va_up f 1 x 0 = f 0 := rfl
set_option maxRecDepth 20000 in
set_option maxHeartbeats 4000000 in
theorem c_x_image (E : EG) (a : Nat → Nat) (fn fd : Int32) (it : Nat → FN) (th ln sz t : FN) (S : Nat) (tI rI : FN) (pF : Nat → FN) (pI se sn be so lo he n1 n2 n3 : FN) (R K G : Nat) (iF : Nat → Nat → FN) (iR iK iG : Nat → Nat) (iu ig kp : FN) (h x : Nat) (uI : FN) (cF : Nat → FN) (cI : FN) (cg : Nat) (fi sr : FN) (s : TRC) (k0 : Int32) (hR : R ≤ 6) : Ctr E mX7_image (12, 0, 0) [.ref (a 0), .int k0] (wX E a fn fd it th ln sz t S tI rI pF pI se sn be so lo he n1 n2 n3 R K G iF iR iK iG iu ig kp h x uI cF cI cg fi sr s) (fun v w => ∃ (v' : Int32) (iF' : Nat → Nat → FN) (iR' iK' iG' : Nat → Nat) (iu' : FN), v = some (.int v') ∧ w = wX E a fn fd it th ln sz t S tI rI pF pI se sn be so lo he n1 n2 n3 R K G iF' iR' iK' iG' iu' ig kp h x uI cF cI cg fi sr s ∧ NxImage k0 R K G se sn be so lo he (iF, iR, iK, iG) v' (iF', iR', iK', iG')) := by
  refine Ctr.of (by decide) (Nat.le_of_ble_eq_true rfl) ?_
  intro Z hO hn C
  have hlen : zn Z ≤ 79 := by rw [hn]; exact Nat.le_of_ble_eq_true rfl
  refine mr_iload_n C 1 dX7_image_0 rfl rfl ?_
  refine mr_iflt C 9 4 dX7_image_1 (by decide) rfl (fun c_1 => ?_) (fun c_1 => ?_)
  · rw [tI_lt0] at c_1
    refine mr_ldc C 11 dX7_image_9 rfl kc_X7_70 ?_
    refine mr_iret C dX7_image_11 rfl rfl (by decide) (by decide) hlen ?_
    rw [hO]
    exact ⟨_, iF, iR, iK, iG, iu, rfl, rfl, (ifP_f (by omega)).mpr ⟨rfl, rfl⟩⟩
  · rw [tI_lt0] at c_1
    refine mr_iload_n C 5 dX7_image_4 rfl rfl ?_
    refine mr_iconst C (nI 2) 6 dX7_image_5 rfl rfl ?_
    refine mr_icmplt C 12 9 dX7_image_6 (by decide) rfl (fun c_6 => ?_) (fun c_6 => ?_)
    · rw [tI_lt (by omega)] at c_6
      refine mr_aload_n C 13 dX7_image_12 rfl rfl ?_
      refine mr_get C 0 16 dX7_image_13 rfl fl_X7_34 rfl rfl ?_
      refine mr_get C 31 19 dX7_image_16 rfl fl_X7_138 rfl rfl ?_
      refine mr_ifne C 25 22 dX7_image_19 (by decide) rfl (fun c_19 => ?_) (fun c_19 => ?_)
      · have c_19 : ¬ R = 0 := fun h => c_19 (by rw [h]; rfl)
        have h01 : k0 = nI 0 ∨ k0 = nI 1 := by
          obtain ⟨k, hk, rfl⟩ := tI_of (x := k0) (n := 2) (by omega) (by omega)
          have h3 : k = 0 ∨ k = 1 := by omega
          rcases h3 with rfl | rfl
          · exact Or.inl rfl
          · exact Or.inr rfl
        rcases h01 with rfl | rfl
        · refine mr_aload_n C 26 dX7_image_25 rfl rfl ?_
          refine mr_get C 0 29 dX7_image_26 rfl fl_X7_38 rfl rfl ?_
          refine mr_iload_n C 30 dX7_image_29 rfl rfl ?_
          refine mr_aald C 41 0 2 (a 42) 31 dX7_image_30 rfl rfl rfl rfl (by decide) (by decide) rfl ?_
          refine mr_aload_n C 32 dX7_image_31 rfl rfl ?_
          refine mr_get C 0 35 dX7_image_32 rfl fl_X7_34 rfl rfl ?_
          refine mr_callV C (c_take E a 42 31 (iF 0 0) (iF 0 1) (iF 0 2) (iF 0 3) (iF 0 4) (iF 0 5) (iF 0 6) (iF 0 7) (iF 0 8) se sn be so lo he n1 n2 n3 (nI (iR 0)) (nI (iK 0)) (nI (iG 0)) (iu 0) (ig 0) (nI R) (nI K) (nI G) (nI 0) (nI 0)) [42, 43, 44, 45, 46, 47, 48, 49, 50, 51, 31, 32, 33, 34, 35, 36, 37, 38, 39, 40] 42 3 38 dX7_image_35 rfl mk_X3_take mi_X3_take ml_X7_132 rfl rfl rfl (jn_cut [1, 1, 16, 2, 1, 10, 10, 1, 10, 10, 2, 1, 10, 2, 2] [8, 6] [w0 E a fn fd, [(a 1, .inl (E.1.1 101, 8, .inr (.inr (.inr (.inr (rwA a))))))], wRS E a it th ln sz, wT E a 18 t (nI S) (tI 0) (tI 1) (tI 2) (tI 3), [(a 20, .inr (4, [.ref (a 18), .ref (a 21), .int (rI 0), .int (rI 1), .int (rI 2)]))], wH E a 21 (pF 0) (pF 1) (pF 2) (pF 3) (pF 4) (pF 5) (pF 6) (pF 7) (pF 8) (pI 0) (pI 1) (pI 2) (pI 3) (pI 4), wH E a 31 se sn be so lo he n1 n2 n3 (nI R) (nI K) (nI G) (nI 0) (nI 0), [(a 41, .inl (E.1.1 102, 2, .inr (.inr (.inr (.inr (imA a))))))], wH E a 42 (iF 0 0) (iF 0 1) (iF 0 2) (iF 0 3) (iF 0 4) (iF 0 5) (iF 0 6) (iF 0 7) (iF 0 8) (nI (iR 0)) (nI (iK 0)) (nI (iG 0)) (iu 0) (ig 0), wH E a 52 (iF 1 0) (iF 1 1) (iF 1 2) (iF 1 3) (iF 1 4) (iF 1 5) (iF 1 6) (iF 1 7) (iF 1 8) (nI (iR 1)) (nI (iK 1)) (nI (iG 1)) (iu 1) (ig 1), wA E a 62 kp (nI h) (nI x), wF E a 64 31 65 75 (uI 0) (uI 1) (uI 2), wH E a 65 (cF 0) (cF 1) (cF 2) (cF 3) (cF 4) (cF 5) (cF 6) (cF 7) (cF 8) (cI 0) (cI 1) (cI 2) (cI 3) (nI cg), [(a 75, iA E 5 fi), (a 76, iA E 5 sr)], wQ E a 77 31 s] [wH E a 42 (iF 0 0) (iF 0 1) (iF 0 2) (iF 0 3) (iF 0 4) (iF 0 5) (iF 0 6) (iF 0 7) (iF 0 8) (nI (iR 0)) (nI (iK 0)) (nI (iG 0)) (iu 0) (ig 0), wH E a 31 se sn be so lo he n1 n2 n3 (nI R) (nI K) (nI G) (nI 0) (nI 0)] rfl (by decide) rfl rfl) rfl (Nat.le_of_ble_eq_true rfl) (by decide) (by decide) (by decide) rfl rfl (fun r w1 hpost => ?_)
          obtain ⟨f1, f2, f3_, f4_, f5_, f6_, rfl, rfl, h1, h2, h3, h4, h5, h6⟩ := hpost
          refine mr_w (ws' := wX E a fn fd it th ln sz t S tI rI pF pI se sn be so lo he n1 n2 n3 R K G (va_up iF 0 (f9 f1 f2 f3_ f4_ f5_ f6_ (iF 0 6) (iF 0 7) (iF 0 8))) (va_up iR 0 R) (va_up iK 0 K) (va_up iG 0 G) (va_up iu 0 (nI 0)) ig kp h x uI cF cI cg fi sr s) (jn_put [1, 1, 16, 2, 1, 10, 10, 1, 10, 10, 2, 1, 10, 2, 2] [8, 6] [w0 E a fn fd, [(a 1, .inl (E.1.1 101, 8, .inr (.inr (.inr (.inr (rwA a))))))], wRS E a it th ln sz, wT E a 18 t (nI S) (tI 0) (tI 1) (tI 2) (tI 3), [(a 20, .inr (4, [.ref (a 18), .ref (a 21), .int (rI 0), .int (rI 1), .int (rI 2)]))], wH E a 21 (pF 0) (pF 1) (pF 2) (pF 3) (pF 4) (pF 5) (pF 6) (pF 7) (pF 8) (pI 0) (pI 1) (pI 2) (pI 3) (pI 4), wH E a 31 se sn be so lo he n1 n2 n3 (nI R) (nI K) (nI G) (nI 0) (nI 0), [(a 41, .inl (E.1.1 102, 2, .inr (.inr (.inr (.inr (imA a))))))], wH E a 42 (iF 0 0) (iF 0 1) (iF 0 2) (iF 0 3) (iF 0 4) (iF 0 5) (iF 0 6) (iF 0 7) (iF 0 8) (nI (iR 0)) (nI (iK 0)) (nI (iG 0)) (iu 0) (ig 0), wH E a 52 (iF 1 0) (iF 1 1) (iF 1 2) (iF 1 3) (iF 1 4) (iF 1 5) (iF 1 6) (iF 1 7) (iF 1 8) (nI (iR 1)) (nI (iK 1)) (nI (iG 1)) (iu 1) (ig 1), wA E a 62 kp (nI h) (nI x), wF E a 64 31 65 75 (uI 0) (uI 1) (uI 2), wH E a 65 (cF 0) (cF 1) (cF 2) (cF 3) (cF 4) (cF 5) (cF 6) (cF 7) (cF 8) (cI 0) (cI 1) (cI 2) (cI 3) (nI cg), [(a 75, iA E 5 fi), (a 76, iA E 5 sr)], wQ E a 77 31 s] [wH E a 42 f1 f2 f3_ f4_ f5_ f6_ (iF 0 6) (iF 0 7) (iF 0 8) (nI R) (nI K) (nI G) (nI 0) (ig 0), wH E a 31 se sn be so lo he n1 n2 n3 (nI R) (nI K) (nI G) (nI 0) (nI 0)] [w0 E a fn fd, [(a 1, .inl (E.1.1 101, 8, .inr (.inr (.inr (.inr (rwA a))))))], wRS E a it th ln sz, wT E a 18 t (nI S) (tI 0) (tI 1) (tI 2) (tI 3), [(a 20, .inr (4, [.ref (a 18), .ref (a 21), .int (rI 0), .int (rI 1), .int (rI 2)]))], wH E a 21 (pF 0) (pF 1) (pF 2) (pF 3) (pF 4) (pF 5) (pF 6) (pF 7) (pF 8) (pI 0) (pI 1) (pI 2) (pI 3) (pI 4), wH E a 31 se sn be so lo he n1 n2 n3 (nI R) (nI K) (nI G) (nI 0) (nI 0), [(a 41, .inl (E.1.1 102, 2, .inr (.inr (.inr (.inr (imA a))))))], wH E a 42 f1 f2 f3_ f4_ f5_ f6_ (iF 0 6) (iF 0 7) (iF 0 8) (nI R) (nI K) (nI G) (nI 0) (ig 0), wH E a 52 (iF 1 0) (iF 1 1) (iF 1 2) (iF 1 3) (iF 1 4) (iF 1 5) (iF 1 6) (iF 1 7) (iF 1 8) (nI (iR 1)) (nI (iK 1)) (nI (iG 1)) (iu 1) (ig 1), wA E a 62 kp (nI h) (nI x), wF E a 64 31 65 75 (uI 0) (uI 1) (uI 2), wH E a 65 (cF 0) (cF 1) (cF 2) (cF 3) (cF 4) (cF 5) (cF 6) (cF 7) (cF 8) (cI 0) (cI 1) (cI 2) (cI 3) (nI cg), [(a 75, iA E 5 fi), (a 76, iA E 5 sr)], wQ E a 77 31 s] rfl (by decide) rfl rfl rfl) ?_
          refine mr_iconst C (nI 1) 39 dX7_image_38 rfl rfl ?_
          refine mr_iret C dX7_image_39 rfl rfl (by decide) (by decide) hlen ?_
          rw [hO]
          exact ⟨_, va_up iF 0 (f9 f1 f2 f3_ f4_ f5_ f6_ (iF 0 6) (iF 0 7) (iF 0 8)), va_up iR 0 R, va_up iK 0 K, va_up iG 0 G, va_up iu 0 (nI 0), rfl, rfl, (ifP_t (by decide)).mpr ((ifP_f c_19).mpr ⟨rfl, (f9 f1 f2 f3_ f4_ f5_ f6_ (iF 0 6) (iF 0 7) (iF 0 8)), rfl, h1, h2, h3, h4, h5, h6⟩)⟩
        · refine mr_aload_n C 26 dX7_image_25 rfl rfl ?_
          refine mr_get C 0 29 dX7_image_26 rfl fl_X7_38 rfl rfl ?_
          refine mr_iload_n C 30 dX7_image_29 rfl rfl ?_
          refine mr_aald C 41 1 2 (a 52) 31 dX7_image_30 rfl rfl rfl rfl (by decide) (by decide) rfl ?_
          refine mr_aload_n C 32 dX7_image_31 rfl rfl ?_
          refine mr_get C 0 35 dX7_image_32 rfl fl_X7_34 rfl rfl ?_
          refine mr_callV C (c_take E a 52 31 (iF 1 0) (iF 1 1) (iF 1 2) (iF 1 3) (iF 1 4) (iF 1 5) (iF 1 6) (iF 1 7) (iF 1 8) se sn be so lo he n1 n2 n3 (nI (iR 1)) (nI (iK 1)) (nI (iG 1)) (iu 1) (ig 1) (nI R) (nI K) (nI G) (nI 0) (nI 0)) [52, 53, 54, 55, 56, 57, 58, 59, 60, 61, 31, 32, 33, 34, 35, 36, 37, 38, 39, 40] 52 3 38 dX7_image_35 rfl mk_X3_take mi_X3_take ml_X7_132 rfl rfl rfl (jn_cut [1, 1, 16, 2, 1, 10, 10, 1, 10, 10, 2, 1, 10, 2, 2] [9, 6] [w0 E a fn fd, [(a 1, .inl (E.1.1 101, 8, .inr (.inr (.inr (.inr (rwA a))))))], wRS E a it th ln sz, wT E a 18 t (nI S) (tI 0) (tI 1) (tI 2) (tI 3), [(a 20, .inr (4, [.ref (a 18), .ref (a 21), .int (rI 0), .int (rI 1), .int (rI 2)]))], wH E a 21 (pF 0) (pF 1) (pF 2) (pF 3) (pF 4) (pF 5) (pF 6) (pF 7) (pF 8) (pI 0) (pI 1) (pI 2) (pI 3) (pI 4), wH E a 31 se sn be so lo he n1 n2 n3 (nI R) (nI K) (nI G) (nI 0) (nI 0), [(a 41, .inl (E.1.1 102, 2, .inr (.inr (.inr (.inr (imA a))))))], wH E a 42 (iF 0 0) (iF 0 1) (iF 0 2) (iF 0 3) (iF 0 4) (iF 0 5) (iF 0 6) (iF 0 7) (iF 0 8) (nI (iR 0)) (nI (iK 0)) (nI (iG 0)) (iu 0) (ig 0), wH E a 52 (iF 1 0) (iF 1 1) (iF 1 2) (iF 1 3) (iF 1 4) (iF 1 5) (iF 1 6) (iF 1 7) (iF 1 8) (nI (iR 1)) (nI (iK 1)) (nI (iG 1)) (iu 1) (ig 1), wA E a 62 kp (nI h) (nI x), wF E a 64 31 65 75 (uI 0) (uI 1) (uI 2), wH E a 65 (cF 0) (cF 1) (cF 2) (cF 3) (cF 4) (cF 5) (cF 6) (cF 7) (cF 8) (cI 0) (cI 1) (cI 2) (cI 3) (nI cg), [(a 75, iA E 5 fi), (a 76, iA E 5 sr)], wQ E a 77 31 s] [wH E a 52 (iF 1 0) (iF 1 1) (iF 1 2) (iF 1 3) (iF 1 4) (iF 1 5) (iF 1 6) (iF 1 7) (iF 1 8) (nI (iR 1)) (nI (iK 1)) (nI (iG 1)) (iu 1) (ig 1), wH E a 31 se sn be so lo he n1 n2 n3 (nI R) (nI K) (nI G) (nI 0) (nI 0)] rfl (by decide) rfl rfl) rfl (Nat.le_of_ble_eq_true rfl) (by decide) (by decide) (by decide) rfl rfl (fun r w1 hpost => ?_)
          obtain ⟨f1, f2, f3_, f4_, f5_, f6_, rfl, rfl, h1, h2, h3, h4, h5, h6⟩ := hpost
          refine mr_w (ws' := wX E a fn fd it th ln sz t S tI rI pF pI se sn be so lo he n1 n2 n3 R K G (va_up iF 1 (f9 f1 f2 f3_ f4_ f5_ f6_ (iF 1 6) (iF 1 7) (iF 1 8))) (va_up iR 1 R) (va_up iK 1 K) (va_up iG 1 G) (va_up iu 1 (nI 0)) ig kp h x uI cF cI cg fi sr s) (jn_put [1, 1, 16, 2, 1, 10, 10, 1, 10, 10, 2, 1, 10, 2, 2] [9, 6] [w0 E a fn fd, [(a 1, .inl (E.1.1 101, 8, .inr (.inr (.inr (.inr (rwA a))))))], wRS E a it th ln sz, wT E a 18 t (nI S) (tI 0) (tI 1) (tI 2) (tI 3), [(a 20, .inr (4, [.ref (a 18), .ref (a 21), .int (rI 0), .int (rI 1), .int (rI 2)]))], wH E a 21 (pF 0) (pF 1) (pF 2) (pF 3) (pF 4) (pF 5) (pF 6) (pF 7) (pF 8) (pI 0) (pI 1) (pI 2) (pI 3) (pI 4), wH E a 31 se sn be so lo he n1 n2 n3 (nI R) (nI K) (nI G) (nI 0) (nI 0), [(a 41, .inl (E.1.1 102, 2, .inr (.inr (.inr (.inr (imA a))))))], wH E a 42 (iF 0 0) (iF 0 1) (iF 0 2) (iF 0 3) (iF 0 4) (iF 0 5) (iF 0 6) (iF 0 7) (iF 0 8) (nI (iR 0)) (nI (iK 0)) (nI (iG 0)) (iu 0) (ig 0), wH E a 52 (iF 1 0) (iF 1 1) (iF 1 2) (iF 1 3) (iF 1 4) (iF 1 5) (iF 1 6) (iF 1 7) (iF 1 8) (nI (iR 1)) (nI (iK 1)) (nI (iG 1)) (iu 1) (ig 1), wA E a 62 kp (nI h) (nI x), wF E a 64 31 65 75 (uI 0) (uI 1) (uI 2), wH E a 65 (cF 0) (cF 1) (cF 2) (cF 3) (cF 4) (cF 5) (cF 6) (cF 7) (cF 8) (cI 0) (cI 1) (cI 2) (cI 3) (nI cg), [(a 75, iA E 5 fi), (a 76, iA E 5 sr)], wQ E a 77 31 s] [wH E a 52 f1 f2 f3_ f4_ f5_ f6_ (iF 1 6) (iF 1 7) (iF 1 8) (nI R) (nI K) (nI G) (nI 0) (ig 1), wH E a 31 se sn be so lo he n1 n2 n3 (nI R) (nI K) (nI G) (nI 0) (nI 0)] [w0 E a fn fd, [(a 1, .inl (E.1.1 101, 8, .inr (.inr (.inr (.inr (rwA a))))))], wRS E a it th ln sz, wT E a 18 t (nI S) (tI 0) (tI 1) (tI 2) (tI 3), [(a 20, .inr (4, [.ref (a 18), .ref (a 21), .int (rI 0), .int (rI 1), .int (rI 2)]))], wH E a 21 (pF 0) (pF 1) (pF 2) (pF 3) (pF 4) (pF 5) (pF 6) (pF 7) (pF 8) (pI 0) (pI 1) (pI 2) (pI 3) (pI 4), wH E a 31 se sn be so lo he n1 n2 n3 (nI R) (nI K) (nI G) (nI 0) (nI 0), [(a 41, .inl (E.1.1 102, 2, .inr (.inr (.inr (.inr (imA a))))))], wH E a 42 (iF 0 0) (iF 0 1) (iF 0 2) (iF 0 3) (iF 0 4) (iF 0 5) (iF 0 6) (iF 0 7) (iF 0 8) (nI (iR 0)) (nI (iK 0)) (nI (iG 0)) (iu 0) (ig 0), wH E a 52 f1 f2 f3_ f4_ f5_ f6_ (iF 1 6) (iF 1 7) (iF 1 8) (nI R) (nI K) (nI G) (nI 0) (ig 1), wA E a 62 kp (nI h) (nI x), wF E a 64 31 65 75 (uI 0) (uI 1) (uI 2), wH E a 65 (cF 0) (cF 1) (cF 2) (cF 3) (cF 4) (cF 5) (cF 6) (cF 7) (cF 8) (cI 0) (cI 1) (cI 2) (cI 3) (nI cg), [(a 75, iA E 5 fi), (a 76, iA E 5 sr)], wQ E a 77 31 s] rfl (by decide) rfl rfl rfl) ?_
          refine mr_iconst C (nI 1) 39 dX7_image_38 rfl rfl ?_
          refine mr_iret C dX7_image_39 rfl rfl (by decide) (by decide) hlen ?_
          rw [hO]
          exact ⟨_, va_up iF 1 (f9 f1 f2 f3_ f4_ f5_ f6_ (iF 1 6) (iF 1 7) (iF 1 8)), va_up iR 1 R, va_up iK 1 K, va_up iG 1 G, va_up iu 1 (nI 0), rfl, rfl, (ifP_t (by decide)).mpr ((ifP_f c_19).mpr ⟨rfl, (f9 f1 f2 f3_ f4_ f5_ f6_ (iF 1 6) (iF 1 7) (iF 1 8)), rfl, h1, h2, h3, h4, h5, h6⟩)⟩
      · have c_19 : R = 0 := (nI_eq (b := 0) (by omega) (by omega)).mp c_19
        refine mr_ldc C 24 dX7_image_22 rfl kc_X7_141 ?_
        refine mr_iret C dX7_image_24 rfl rfl (by decide) (by decide) hlen ?_
        rw [hO]
        exact ⟨_, iF, iR, iK, iG, iu, rfl, rfl, (ifP_t (by omega)).mpr ((ifP_t c_19).mpr ⟨rfl, rfl⟩)⟩
    · rw [tI_lt (by omega)] at c_6
      refine mr_ldc C 11 dX7_image_9 rfl kc_X7_70 ?_
      refine mr_iret C dX7_image_11 rfl rfl (by decide) (by decide) hlen ?_
      rw [hO]
      exact ⟨_, iF, iR, iK, iG, iu, rfl, rfl, (ifP_f (by omega)).mpr ⟨rfl, rfl⟩⟩

set_option maxRecDepth 20000 in
set_option maxHeartbeats 4000000 in
theorem c_x_restore (E : EG) (a : Nat → Nat) (fn fd : Int32) (it : Nat → FN) (th ln sz t : FN) (S : Nat) (tI rI : FN) (pF : Nat → FN) (pI se sn be so lo he n1 n2 n3 : FN) (R K G : Nat) (iF : Nat → Nat → FN) (iR iK iG : Nat → Nat) (iu ig kp : FN) (h x : Nat) (uI : FN) (cF : Nat → FN) (cI : FN) (cg : Nat) (fi sr : FN) (s : TRC) (k0 : Int32) (hiR : ∀ i, iR i < 2 ^ 30) : Ctr E mX7_restore (12, 0, 0) [.ref (a 0), .int k0] (wX E a fn fd it th ln sz t S tI rI pF pI se sn be so lo he n1 n2 n3 R K G iF iR iK iG iu ig kp h x uI cF cI cg fi sr s) (fun v w => ∃ (v' : Int32) (z' : HST) (y' : ACT), v = some (.int v') ∧ w = wX E a fn fd it th ln sz t S tI rI pF pI z'.2.2.2.1 z'.2.2.2.2.1 z'.2.2.2.2.2.1 z'.2.2.2.2.2.2.1 z'.2.2.2.2.2.2.2.1 z'.2.2.2.2.2.2.2.2 n1 n2 n3 z'.1 z'.2.1 z'.2.2.1 iF iR iK iG iu ig y'.1 y'.2.1 y'.2.2 uI cF cI cg fi sr s ∧ NxRestore k0 (R, K, G, se, sn, be, so, lo, he) (kp, h, x) (iF, iR, iK, iG) v' z' y') := by
  refine Ctr.of (by decide) (Nat.le_of_ble_eq_true rfl) ?_
  intro Z hO hn C
  have hlen : zn Z ≤ 79 := by rw [hn]; exact Nat.le_of_ble_eq_true rfl
  refine mr_iload_n C 1 dX7_restore_0 rfl rfl ?_
  refine mr_iflt C 9 4 dX7_restore_1 (by decide) rfl (fun c_1 => ?_) (fun c_1 => ?_)
  · rw [tI_lt0] at c_1
    refine mr_ldc C 11 dX7_restore_9 rfl kc_X7_70 ?_
    refine mr_iret C dX7_restore_11 rfl rfl (by decide) (by decide) hlen ?_
    rw [hO]
    exact ⟨_, (R, K, G, se, sn, be, so, lo, he), (kp, h, x), rfl, rfl, (ifP_f (by omega)).mpr ⟨rfl, rfl, rfl⟩⟩
  · rw [tI_lt0] at c_1
    refine mr_iload_n C 5 dX7_restore_4 rfl rfl ?_
    refine mr_iconst C (nI 2) 6 dX7_restore_5 rfl rfl ?_
    refine mr_icmplt C 12 9 dX7_restore_6 (by decide) rfl (fun c_6 => ?_) (fun c_6 => ?_)
    · rw [tI_lt (by omega)] at c_6
      have h01 : k0 = nI 0 ∨ k0 = nI 1 := by
        obtain ⟨k, hk, rfl⟩ := tI_of (x := k0) (n := 2) (by omega) (by omega)
        have h3 : k = 0 ∨ k = 1 := by omega
        rcases h3 with rfl | rfl
        · exact Or.inl rfl
        · exact Or.inr rfl
      rcases h01 with rfl | rfl
      · refine mr_aload_n C 13 dX7_restore_12 rfl rfl ?_
        refine mr_get C 0 16 dX7_restore_13 rfl fl_X7_38 rfl rfl ?_
        refine mr_iload_n C 17 dX7_restore_16 rfl rfl ?_
        refine mr_aald C 41 0 2 (a 42) 18 dX7_restore_17 rfl rfl rfl rfl (by decide) (by decide) rfl ?_
        refine mr_get C 42 21 dX7_restore_18 rfl fl_X7_138 rfl rfl ?_
        refine mr_ifne C 27 24 dX7_restore_21 (by decide) rfl (fun c_21 => ?_) (fun c_21 => ?_)
        · have c_21 : ¬ iR 0 = 0 := fun h => c_21 (by rw [h]; rfl)
          refine mr_aload_n C 28 dX7_restore_27 rfl rfl ?_
          refine mr_get C 0 31 dX7_restore_28 rfl fl_X7_34 rfl rfl ?_
          refine mr_aload_n C 32 dX7_restore_31 rfl rfl ?_
          refine mr_get C 0 35 dX7_restore_32 rfl fl_X7_38 rfl rfl ?_
          refine mr_iload_n C 36 dX7_restore_35 rfl rfl ?_
          refine mr_aald C 41 0 2 (a 42) 37 dX7_restore_36 rfl rfl rfl rfl (by decide) (by decide) rfl ?_
          refine mr_callV C (c_take E a 31 42 se sn be so lo he n1 n2 n3 (iF 0 0) (iF 0 1) (iF 0 2) (iF 0 3) (iF 0 4) (iF 0 5) (iF 0 6) (iF 0 7) (iF 0 8) (nI R) (nI K) (nI G) (nI 0) (nI 0) (nI (iR 0)) (nI (iK 0)) (nI (iG 0)) (iu 0) (ig 0)) [31, 32, 33, 34, 35, 36, 37, 38, 39, 40, 42, 43, 44, 45, 46, 47, 48, 49, 50, 51] 31 3 40 dX7_restore_37 rfl mk_X3_take mi_X3_take ml_X7_132 rfl rfl rfl (jn_cut [1, 1, 16, 2, 1, 10, 10, 1, 10, 10, 2, 1, 10, 2, 2] [6, 8] [w0 E a fn fd, [(a 1, .inl (E.1.1 101, 8, .inr (.inr (.inr (.inr (rwA a))))))], wRS E a it th ln sz, wT E a 18 t (nI S) (tI 0) (tI 1) (tI 2) (tI 3), [(a 20, .inr (4, [.ref (a 18), .ref (a 21), .int (rI 0), .int (rI 1), .int (rI 2)]))], wH E a 21 (pF 0) (pF 1) (pF 2) (pF 3) (pF 4) (pF 5) (pF 6) (pF 7) (pF 8) (pI 0) (pI 1) (pI 2) (pI 3) (pI 4), wH E a 31 se sn be so lo he n1 n2 n3 (nI R) (nI K) (nI G) (nI 0) (nI 0), [(a 41, .inl (E.1.1 102, 2, .inr (.inr (.inr (.inr (imA a))))))], wH E a 42 (iF 0 0) (iF 0 1) (iF 0 2) (iF 0 3) (iF 0 4) (iF 0 5) (iF 0 6) (iF 0 7) (iF 0 8) (nI (iR 0)) (nI (iK 0)) (nI (iG 0)) (iu 0) (ig 0), wH E a 52 (iF 1 0) (iF 1 1) (iF 1 2) (iF 1 3) (iF 1 4) (iF 1 5) (iF 1 6) (iF 1 7) (iF 1 8) (nI (iR 1)) (nI (iK 1)) (nI (iG 1)) (iu 1) (ig 1), wA E a 62 kp (nI h) (nI x), wF E a 64 31 65 75 (uI 0) (uI 1) (uI 2), wH E a 65 (cF 0) (cF 1) (cF 2) (cF 3) (cF 4) (cF 5) (cF 6) (cF 7) (cF 8) (cI 0) (cI 1) (cI 2) (cI 3) (nI cg), [(a 75, iA E 5 fi), (a 76, iA E 5 sr)], wQ E a 77 31 s] [wH E a 31 se sn be so lo he n1 n2 n3 (nI R) (nI K) (nI G) (nI 0) (nI 0), wH E a 42 (iF 0 0) (iF 0 1) (iF 0 2) (iF 0 3) (iF 0 4) (iF 0 5) (iF 0 6) (iF 0 7) (iF 0 8) (nI (iR 0)) (nI (iK 0)) (nI (iG 0)) (iu 0) (ig 0)] rfl (by decide) rfl rfl) rfl (Nat.le_of_ble_eq_true rfl) (by decide) (by decide) (by decide) rfl rfl (fun r w1 hpost => ?_)
          obtain ⟨f1, f2, f3_, f4_, f5_, f6_, rfl, rfl, h1, h2, h3, h4, h5, h6⟩ := hpost
          refine mr_w (ws' := wX E a fn fd it th ln sz t S tI rI pF pI f1 f2 f3_ f4_ f5_ f6_ n1 n2 n3 (iR 0) (iK 0) (iG 0) iF iR iK iG iu ig kp h x uI cF cI cg fi sr s) (jn_put [1, 1, 16, 2, 1, 10, 10, 1, 10, 10, 2, 1, 10, 2, 2] [6, 8] [w0 E a fn fd, [(a 1, .inl (E.1.1 101, 8, .inr (.inr (.inr (.inr (rwA a))))))], wRS E a it th ln sz, wT E a 18 t (nI S) (tI 0) (tI 1) (tI 2) (tI 3), [(a 20, .inr (4, [.ref (a 18), .ref (a 21), .int (rI 0), .int (rI 1), .int (rI 2)]))], wH E a 21 (pF 0) (pF 1) (pF 2) (pF 3) (pF 4) (pF 5) (pF 6) (pF 7) (pF 8) (pI 0) (pI 1) (pI 2) (pI 3) (pI 4), wH E a 31 se sn be so lo he n1 n2 n3 (nI R) (nI K) (nI G) (nI 0) (nI 0), [(a 41, .inl (E.1.1 102, 2, .inr (.inr (.inr (.inr (imA a))))))], wH E a 42 (iF 0 0) (iF 0 1) (iF 0 2) (iF 0 3) (iF 0 4) (iF 0 5) (iF 0 6) (iF 0 7) (iF 0 8) (nI (iR 0)) (nI (iK 0)) (nI (iG 0)) (iu 0) (ig 0), wH E a 52 (iF 1 0) (iF 1 1) (iF 1 2) (iF 1 3) (iF 1 4) (iF 1 5) (iF 1 6) (iF 1 7) (iF 1 8) (nI (iR 1)) (nI (iK 1)) (nI (iG 1)) (iu 1) (ig 1), wA E a 62 kp (nI h) (nI x), wF E a 64 31 65 75 (uI 0) (uI 1) (uI 2), wH E a 65 (cF 0) (cF 1) (cF 2) (cF 3) (cF 4) (cF 5) (cF 6) (cF 7) (cF 8) (cI 0) (cI 1) (cI 2) (cI 3) (nI cg), [(a 75, iA E 5 fi), (a 76, iA E 5 sr)], wQ E a 77 31 s] [wH E a 31 f1 f2 f3_ f4_ f5_ f6_ n1 n2 n3 (nI (iR 0)) (nI (iK 0)) (nI (iG 0)) (nI 0) (nI 0), wH E a 42 (iF 0 0) (iF 0 1) (iF 0 2) (iF 0 3) (iF 0 4) (iF 0 5) (iF 0 6) (iF 0 7) (iF 0 8) (nI (iR 0)) (nI (iK 0)) (nI (iG 0)) (iu 0) (ig 0)] [w0 E a fn fd, [(a 1, .inl (E.1.1 101, 8, .inr (.inr (.inr (.inr (rwA a))))))], wRS E a it th ln sz, wT E a 18 t (nI S) (tI 0) (tI 1) (tI 2) (tI 3), [(a 20, .inr (4, [.ref (a 18), .ref (a 21), .int (rI 0), .int (rI 1), .int (rI 2)]))], wH E a 21 (pF 0) (pF 1) (pF 2) (pF 3) (pF 4) (pF 5) (pF 6) (pF 7) (pF 8) (pI 0) (pI 1) (pI 2) (pI 3) (pI 4), wH E a 31 f1 f2 f3_ f4_ f5_ f6_ n1 n2 n3 (nI (iR 0)) (nI (iK 0)) (nI (iG 0)) (nI 0) (nI 0), [(a 41, .inl (E.1.1 102, 2, .inr (.inr (.inr (.inr (imA a))))))], wH E a 42 (iF 0 0) (iF 0 1) (iF 0 2) (iF 0 3) (iF 0 4) (iF 0 5) (iF 0 6) (iF 0 7) (iF 0 8) (nI (iR 0)) (nI (iK 0)) (nI (iG 0)) (iu 0) (ig 0), wH E a 52 (iF 1 0) (iF 1 1) (iF 1 2) (iF 1 3) (iF 1 4) (iF 1 5) (iF 1 6) (iF 1 7) (iF 1 8) (nI (iR 1)) (nI (iK 1)) (nI (iG 1)) (iu 1) (ig 1), wA E a 62 kp (nI h) (nI x), wF E a 64 31 65 75 (uI 0) (uI 1) (uI 2), wH E a 65 (cF 0) (cF 1) (cF 2) (cF 3) (cF 4) (cF 5) (cF 6) (cF 7) (cF 8) (cI 0) (cI 1) (cI 2) (cI 3) (nI cg), [(a 75, iA E 5 fi), (a 76, iA E 5 sr)], wQ E a 77 31 s] rfl (by decide) rfl rfl rfl) ?_
          refine mr_aload_n C 41 dX7_restore_40 rfl rfl ?_
          refine mr_get C 0 44 dX7_restore_41 rfl fl_X7_45 rfl rfl ?_
          refine mr_callV C (c_forgetAll E a 62 kp (nI h) (nI x)) [62, 63] 62 0 47 dX7_restore_44 rfl mk_X0_forgetAll mi_X0_forgetAll ml_X7_135 rfl rfl rfl (jn_cut [1, 1, 16, 2, 1, 10, 10, 1, 10, 10, 2, 1, 10, 2, 2] [10] [w0 E a fn fd, [(a 1, .inl (E.1.1 101, 8, .inr (.inr (.inr (.inr (rwA a))))))], wRS E a it th ln sz, wT E a 18 t (nI S) (tI 0) (tI 1) (tI 2) (tI 3), [(a 20, .inr (4, [.ref (a 18), .ref (a 21), .int (rI 0), .int (rI 1), .int (rI 2)]))], wH E a 21 (pF 0) (pF 1) (pF 2) (pF 3) (pF 4) (pF 5) (pF 6) (pF 7) (pF 8) (pI 0) (pI 1) (pI 2) (pI 3) (pI 4), wH E a 31 f1 f2 f3_ f4_ f5_ f6_ n1 n2 n3 (nI ((iR 0))) (nI ((iK 0))) (nI ((iG 0))) (nI 0) (nI 0), [(a 41, .inl (E.1.1 102, 2, .inr (.inr (.inr (.inr (imA a))))))], wH E a 42 (iF 0 0) (iF 0 1) (iF 0 2) (iF 0 3) (iF 0 4) (iF 0 5) (iF 0 6) (iF 0 7) (iF 0 8) (nI (iR 0)) (nI (iK 0)) (nI (iG 0)) (iu 0) (ig 0), wH E a 52 (iF 1 0) (iF 1 1) (iF 1 2) (iF 1 3) (iF 1 4) (iF 1 5) (iF 1 6) (iF 1 7) (iF 1 8) (nI (iR 1)) (nI (iK 1)) (nI (iG 1)) (iu 1) (ig 1), wA E a 62 kp (nI h) (nI x), wF E a 64 31 65 75 (uI 0) (uI 1) (uI 2), wH E a 65 (cF 0) (cF 1) (cF 2) (cF 3) (cF 4) (cF 5) (cF 6) (cF 7) (cF 8) (cI 0) (cI 1) (cI 2) (cI 3) (nI cg), [(a 75, iA E 5 fi), (a 76, iA E 5 sr)], wQ E a 77 31 s] [wA E a 62 kp (nI h) (nI x)] rfl (by decide) rfl rfl) rfl (Nat.le_of_ble_eq_true rfl) (by decide) (by decide) (by decide) rfl rfl (fun r w1 hpost => ?_)
          obtain ⟨rfl, rfl⟩ := hpost
          refine mr_w (ws' := wX E a fn fd it th ln sz t S tI rI pF pI f1 f2 f3_ f4_ f5_ f6_ n1 n2 n3 (iR 0) (iK 0) (iG 0) iF iR iK iG iu ig kp 0 0 uI cF cI cg fi sr s) (jn_put [1, 1, 16, 2, 1, 10, 10, 1, 10, 10, 2, 1, 10, 2, 2] [10] [w0 E a fn fd, [(a 1, .inl (E.1.1 101, 8, .inr (.inr (.inr (.inr (rwA a))))))], wRS E a it th ln sz, wT E a 18 t (nI S) (tI 0) (tI 1) (tI 2) (tI 3), [(a 20, .inr (4, [.ref (a 18), .ref (a 21), .int (rI 0), .int (rI 1), .int (rI 2)]))], wH E a 21 (pF 0) (pF 1) (pF 2) (pF 3) (pF 4) (pF 5) (pF 6) (pF 7) (pF 8) (pI 0) (pI 1) (pI 2) (pI 3) (pI 4), wH E a 31 f1 f2 f3_ f4_ f5_ f6_ n1 n2 n3 (nI ((iR 0))) (nI ((iK 0))) (nI ((iG 0))) (nI 0) (nI 0), [(a 41, .inl (E.1.1 102, 2, .inr (.inr (.inr (.inr (imA a))))))], wH E a 42 (iF 0 0) (iF 0 1) (iF 0 2) (iF 0 3) (iF 0 4) (iF 0 5) (iF 0 6) (iF 0 7) (iF 0 8) (nI (iR 0)) (nI (iK 0)) (nI (iG 0)) (iu 0) (ig 0), wH E a 52 (iF 1 0) (iF 1 1) (iF 1 2) (iF 1 3) (iF 1 4) (iF 1 5) (iF 1 6) (iF 1 7) (iF 1 8) (nI (iR 1)) (nI (iK 1)) (nI (iG 1)) (iu 1) (ig 1), wA E a 62 kp (nI h) (nI x), wF E a 64 31 65 75 (uI 0) (uI 1) (uI 2), wH E a 65 (cF 0) (cF 1) (cF 2) (cF 3) (cF 4) (cF 5) (cF 6) (cF 7) (cF 8) (cI 0) (cI 1) (cI 2) (cI 3) (nI cg), [(a 75, iA E 5 fi), (a 76, iA E 5 sr)], wQ E a 77 31 s] [wA E a 62 kp (nI 0) (nI 0)] [w0 E a fn fd, [(a 1, .inl (E.1.1 101, 8, .inr (.inr (.inr (.inr (rwA a))))))], wRS E a it th ln sz, wT E a 18 t (nI S) (tI 0) (tI 1) (tI 2) (tI 3), [(a 20, .inr (4, [.ref (a 18), .ref (a 21), .int (rI 0), .int (rI 1), .int (rI 2)]))], wH E a 21 (pF 0) (pF 1) (pF 2) (pF 3) (pF 4) (pF 5) (pF 6) (pF 7) (pF 8) (pI 0) (pI 1) (pI 2) (pI 3) (pI 4), wH E a 31 f1 f2 f3_ f4_ f5_ f6_ n1 n2 n3 (nI ((iR 0))) (nI ((iK 0))) (nI ((iG 0))) (nI 0) (nI 0), [(a 41, .inl (E.1.1 102, 2, .inr (.inr (.inr (.inr (imA a))))))], wH E a 42 (iF 0 0) (iF 0 1) (iF 0 2) (iF 0 3) (iF 0 4) (iF 0 5) (iF 0 6) (iF 0 7) (iF 0 8) (nI (iR 0)) (nI (iK 0)) (nI (iG 0)) (iu 0) (ig 0), wH E a 52 (iF 1 0) (iF 1 1) (iF 1 2) (iF 1 3) (iF 1 4) (iF 1 5) (iF 1 6) (iF 1 7) (iF 1 8) (nI (iR 1)) (nI (iK 1)) (nI (iG 1)) (iu 1) (ig 1), wA E a 62 kp (nI 0) (nI 0), wF E a 64 31 65 75 (uI 0) (uI 1) (uI 2), wH E a 65 (cF 0) (cF 1) (cF 2) (cF 3) (cF 4) (cF 5) (cF 6) (cF 7) (cF 8) (cI 0) (cI 1) (cI 2) (cI 3) (nI cg), [(a 75, iA E 5 fi), (a 76, iA E 5 sr)], wQ E a 77 31 s] rfl (by decide) rfl rfl rfl) ?_
          refine mr_iconst C (nI 1) 48 dX7_restore_47 rfl rfl ?_
          refine mr_iret C dX7_restore_48 rfl rfl (by decide) (by decide) hlen ?_
          rw [hO]
          exact ⟨_, (iR 0, iK 0, iG 0, f1, f2, f3_, f4_, f5_, f6_), (kp, 0, 0), rfl, rfl, (ifP_t (by decide)).mpr ((ifP_f c_21).mpr ⟨rfl, rfl, rfl, rfl, rfl, h1, h2, h3, h4, h5, h6⟩)⟩
        · have c_21 : iR 0 = 0 := (nI_eq (b := 0) (by have := hiR 0; omega) (by omega)).mp c_21
          refine mr_ldc C 26 dX7_restore_24 rfl kc_X7_141 ?_
          refine mr_iret C dX7_restore_26 rfl rfl (by decide) (by decide) hlen ?_
          rw [hO]
          exact ⟨_, (R, K, G, se, sn, be, so, lo, he), (kp, h, x), rfl, rfl, (ifP_t (by decide)).mpr ((ifP_t c_21).mpr ⟨rfl, rfl, rfl⟩)⟩
      · refine mr_aload_n C 13 dX7_restore_12 rfl rfl ?_
        refine mr_get C 0 16 dX7_restore_13 rfl fl_X7_38 rfl rfl ?_
        refine mr_iload_n C 17 dX7_restore_16 rfl rfl ?_
        refine mr_aald C 41 1 2 (a 52) 18 dX7_restore_17 rfl rfl rfl rfl (by decide) (by decide) rfl ?_
        refine mr_get C 52 21 dX7_restore_18 rfl fl_X7_138 rfl rfl ?_
        refine mr_ifne C 27 24 dX7_restore_21 (by decide) rfl (fun c_21 => ?_) (fun c_21 => ?_)
        · have c_21 : ¬ iR 1 = 0 := fun h => c_21 (by rw [h]; rfl)
          refine mr_aload_n C 28 dX7_restore_27 rfl rfl ?_
          refine mr_get C 0 31 dX7_restore_28 rfl fl_X7_34 rfl rfl ?_
          refine mr_aload_n C 32 dX7_restore_31 rfl rfl ?_
          refine mr_get C 0 35 dX7_restore_32 rfl fl_X7_38 rfl rfl ?_
          refine mr_iload_n C 36 dX7_restore_35 rfl rfl ?_
          refine mr_aald C 41 1 2 (a 52) 37 dX7_restore_36 rfl rfl rfl rfl (by decide) (by decide) rfl ?_
          refine mr_callV C (c_take E a 31 52 se sn be so lo he n1 n2 n3 (iF 1 0) (iF 1 1) (iF 1 2) (iF 1 3) (iF 1 4) (iF 1 5) (iF 1 6) (iF 1 7) (iF 1 8) (nI R) (nI K) (nI G) (nI 0) (nI 0) (nI (iR 1)) (nI (iK 1)) (nI (iG 1)) (iu 1) (ig 1)) [31, 32, 33, 34, 35, 36, 37, 38, 39, 40, 52, 53, 54, 55, 56, 57, 58, 59, 60, 61] 31 3 40 dX7_restore_37 rfl mk_X3_take mi_X3_take ml_X7_132 rfl rfl rfl (jn_cut [1, 1, 16, 2, 1, 10, 10, 1, 10, 10, 2, 1, 10, 2, 2] [6, 9] [w0 E a fn fd, [(a 1, .inl (E.1.1 101, 8, .inr (.inr (.inr (.inr (rwA a))))))], wRS E a it th ln sz, wT E a 18 t (nI S) (tI 0) (tI 1) (tI 2) (tI 3), [(a 20, .inr (4, [.ref (a 18), .ref (a 21), .int (rI 0), .int (rI 1), .int (rI 2)]))], wH E a 21 (pF 0) (pF 1) (pF 2) (pF 3) (pF 4) (pF 5) (pF 6) (pF 7) (pF 8) (pI 0) (pI 1) (pI 2) (pI 3) (pI 4), wH E a 31 se sn be so lo he n1 n2 n3 (nI R) (nI K) (nI G) (nI 0) (nI 0), [(a 41, .inl (E.1.1 102, 2, .inr (.inr (.inr (.inr (imA a))))))], wH E a 42 (iF 0 0) (iF 0 1) (iF 0 2) (iF 0 3) (iF 0 4) (iF 0 5) (iF 0 6) (iF 0 7) (iF 0 8) (nI (iR 0)) (nI (iK 0)) (nI (iG 0)) (iu 0) (ig 0), wH E a 52 (iF 1 0) (iF 1 1) (iF 1 2) (iF 1 3) (iF 1 4) (iF 1 5) (iF 1 6) (iF 1 7) (iF 1 8) (nI (iR 1)) (nI (iK 1)) (nI (iG 1)) (iu 1) (ig 1), wA E a 62 kp (nI h) (nI x), wF E a 64 31 65 75 (uI 0) (uI 1) (uI 2), wH E a 65 (cF 0) (cF 1) (cF 2) (cF 3) (cF 4) (cF 5) (cF 6) (cF 7) (cF 8) (cI 0) (cI 1) (cI 2) (cI 3) (nI cg), [(a 75, iA E 5 fi), (a 76, iA E 5 sr)], wQ E a 77 31 s] [wH E a 31 se sn be so lo he n1 n2 n3 (nI R) (nI K) (nI G) (nI 0) (nI 0), wH E a 52 (iF 1 0) (iF 1 1) (iF 1 2) (iF 1 3) (iF 1 4) (iF 1 5) (iF 1 6) (iF 1 7) (iF 1 8) (nI (iR 1)) (nI (iK 1)) (nI (iG 1)) (iu 1) (ig 1)] rfl (by decide) rfl rfl) rfl (Nat.le_of_ble_eq_true rfl) (by decide) (by decide) (by decide) rfl rfl (fun r w1 hpost => ?_)
          obtain ⟨f1, f2, f3_, f4_, f5_, f6_, rfl, rfl, h1, h2, h3, h4, h5, h6⟩ := hpost
          refine mr_w (ws' := wX E a fn fd it th ln sz t S tI rI pF pI f1 f2 f3_ f4_ f5_ f6_ n1 n2 n3 (iR 1) (iK 1) (iG 1) iF iR iK iG iu ig kp h x uI cF cI cg fi sr s) (jn_put [1, 1, 16, 2, 1, 10, 10, 1, 10, 10, 2, 1, 10, 2, 2] [6, 9] [w0 E a fn fd, [(a 1, .inl (E.1.1 101, 8, .inr (.inr (.inr (.inr (rwA a))))))], wRS E a it th ln sz, wT E a 18 t (nI S) (tI 0) (tI 1) (tI 2) (tI 3), [(a 20, .inr (4, [.ref (a 18), .ref (a 21), .int (rI 0), .int (rI 1), .int (rI 2)]))], wH E a 21 (pF 0) (pF 1) (pF 2) (pF 3) (pF 4) (pF 5) (pF 6) (pF 7) (pF 8) (pI 0) (pI 1) (pI 2) (pI 3) (pI 4), wH E a 31 se sn be so lo he n1 n2 n3 (nI R) (nI K) (nI G) (nI 0) (nI 0), [(a 41, .inl (E.1.1 102, 2, .inr (.inr (.inr (.inr (imA a))))))], wH E a 42 (iF 0 0) (iF 0 1) (iF 0 2) (iF 0 3) (iF 0 4) (iF 0 5) (iF 0 6) (iF 0 7) (iF 0 8) (nI (iR 0)) (nI (iK 0)) (nI (iG 0)) (iu 0) (ig 0), wH E a 52 (iF 1 0) (iF 1 1) (iF 1 2) (iF 1 3) (iF 1 4) (iF 1 5) (iF 1 6) (iF 1 7) (iF 1 8) (nI (iR 1)) (nI (iK 1)) (nI (iG 1)) (iu 1) (ig 1), wA E a 62 kp (nI h) (nI x), wF E a 64 31 65 75 (uI 0) (uI 1) (uI 2), wH E a 65 (cF 0) (cF 1) (cF 2) (cF 3) (cF 4) (cF 5) (cF 6) (cF 7) (cF 8) (cI 0) (cI 1) (cI 2) (cI 3) (nI cg), [(a 75, iA E 5 fi), (a 76, iA E 5 sr)], wQ E a 77 31 s] [wH E a 31 f1 f2 f3_ f4_ f5_ f6_ n1 n2 n3 (nI (iR 1)) (nI (iK 1)) (nI (iG 1)) (nI 0) (nI 0), wH E a 52 (iF 1 0) (iF 1 1) (iF 1 2) (iF 1 3) (iF 1 4) (iF 1 5) (iF 1 6) (iF 1 7) (iF 1 8) (nI (iR 1)) (nI (iK 1)) (nI (iG 1)) (iu 1) (ig 1)] [w0 E a fn fd, [(a 1, .inl (E.1.1 101, 8, .inr (.inr (.inr (.inr (rwA a))))))], wRS E a it th ln sz, wT E a 18 t (nI S) (tI 0) (tI 1) (tI 2) (tI 3), [(a 20, .inr (4, [.ref (a 18), .ref (a 21), .int (rI 0), .int (rI 1), .int (rI 2)]))], wH E a 21 (pF 0) (pF 1) (pF 2) (pF 3) (pF 4) (pF 5) (pF 6) (pF 7) (pF 8) (pI 0) (pI 1) (pI 2) (pI 3) (pI 4), wH E a 31 f1 f2 f3_ f4_ f5_ f6_ n1 n2 n3 (nI (iR 1)) (nI (iK 1)) (nI (iG 1)) (nI 0) (nI 0), [(a 41, .inl (E.1.1 102, 2, .inr (.inr (.inr (.inr (imA a))))))], wH E a 42 (iF 0 0) (iF 0 1) (iF 0 2) (iF 0 3) (iF 0 4) (iF 0 5) (iF 0 6) (iF 0 7) (iF 0 8) (nI (iR 0)) (nI (iK 0)) (nI (iG 0)) (iu 0) (ig 0), wH E a 52 (iF 1 0) (iF 1 1) (iF 1 2) (iF 1 3) (iF 1 4) (iF 1 5) (iF 1 6) (iF 1 7) (iF 1 8) (nI (iR 1)) (nI (iK 1)) (nI (iG 1)) (iu 1) (ig 1), wA E a 62 kp (nI h) (nI x), wF E a 64 31 65 75 (uI 0) (uI 1) (uI 2), wH E a 65 (cF 0) (cF 1) (cF 2) (cF 3) (cF 4) (cF 5) (cF 6) (cF 7) (cF 8) (cI 0) (cI 1) (cI 2) (cI 3) (nI cg), [(a 75, iA E 5 fi), (a 76, iA E 5 sr)], wQ E a 77 31 s] rfl (by decide) rfl rfl rfl) ?_
          refine mr_aload_n C 41 dX7_restore_40 rfl rfl ?_
          refine mr_get C 0 44 dX7_restore_41 rfl fl_X7_45 rfl rfl ?_
          refine mr_callV C (c_forgetAll E a 62 kp (nI h) (nI x)) [62, 63] 62 0 47 dX7_restore_44 rfl mk_X0_forgetAll mi_X0_forgetAll ml_X7_135 rfl rfl rfl (jn_cut [1, 1, 16, 2, 1, 10, 10, 1, 10, 10, 2, 1, 10, 2, 2] [10] [w0 E a fn fd, [(a 1, .inl (E.1.1 101, 8, .inr (.inr (.inr (.inr (rwA a))))))], wRS E a it th ln sz, wT E a 18 t (nI S) (tI 0) (tI 1) (tI 2) (tI 3), [(a 20, .inr (4, [.ref (a 18), .ref (a 21), .int (rI 0), .int (rI 1), .int (rI 2)]))], wH E a 21 (pF 0) (pF 1) (pF 2) (pF 3) (pF 4) (pF 5) (pF 6) (pF 7) (pF 8) (pI 0) (pI 1) (pI 2) (pI 3) (pI 4), wH E a 31 f1 f2 f3_ f4_ f5_ f6_ n1 n2 n3 (nI ((iR 1))) (nI ((iK 1))) (nI ((iG 1))) (nI 0) (nI 0), [(a 41, .inl (E.1.1 102, 2, .inr (.inr (.inr (.inr (imA a))))))], wH E a 42 (iF 0 0) (iF 0 1) (iF 0 2) (iF 0 3) (iF 0 4) (iF 0 5) (iF 0 6) (iF 0 7) (iF 0 8) (nI (iR 0)) (nI (iK 0)) (nI (iG 0)) (iu 0) (ig 0), wH E a 52 (iF 1 0) (iF 1 1) (iF 1 2) (iF 1 3) (iF 1 4) (iF 1 5) (iF 1 6) (iF 1 7) (iF 1 8) (nI (iR 1)) (nI (iK 1)) (nI (iG 1)) (iu 1) (ig 1), wA E a 62 kp (nI h) (nI x), wF E a 64 31 65 75 (uI 0) (uI 1) (uI 2), wH E a 65 (cF 0) (cF 1) (cF 2) (cF 3) (cF 4) (cF 5) (cF 6) (cF 7) (cF 8) (cI 0) (cI 1) (cI 2) (cI 3) (nI cg), [(a 75, iA E 5 fi), (a 76, iA E 5 sr)], wQ E a 77 31 s] [wA E a 62 kp (nI h) (nI x)] rfl (by decide) rfl rfl) rfl (Nat.le_of_ble_eq_true rfl) (by decide) (by decide) (by decide) rfl rfl (fun r w1 hpost => ?_)
          obtain ⟨rfl, rfl⟩ := hpost
          refine mr_w (ws' := wX E a fn fd it th ln sz t S tI rI pF pI f1 f2 f3_ f4_ f5_ f6_ n1 n2 n3 (iR 1) (iK 1) (iG 1) iF iR iK iG iu ig kp 0 0 uI cF cI cg fi sr s) (jn_put [1, 1, 16, 2, 1, 10, 10, 1, 10, 10, 2, 1, 10, 2, 2] [10] [w0 E a fn fd, [(a 1, .inl (E.1.1 101, 8, .inr (.inr (.inr (.inr (rwA a))))))], wRS E a it th ln sz, wT E a 18 t (nI S) (tI 0) (tI 1) (tI 2) (tI 3), [(a 20, .inr (4, [.ref (a 18), .ref (a 21), .int (rI 0), .int (rI 1), .int (rI 2)]))], wH E a 21 (pF 0) (pF 1) (pF 2) (pF 3) (pF 4) (pF 5) (pF 6) (pF 7) (pF 8) (pI 0) (pI 1) (pI 2) (pI 3) (pI 4), wH E a 31 f1 f2 f3_ f4_ f5_ f6_ n1 n2 n3 (nI ((iR 1))) (nI ((iK 1))) (nI ((iG 1))) (nI 0) (nI 0), [(a 41, .inl (E.1.1 102, 2, .inr (.inr (.inr (.inr (imA a))))))], wH E a 42 (iF 0 0) (iF 0 1) (iF 0 2) (iF 0 3) (iF 0 4) (iF 0 5) (iF 0 6) (iF 0 7) (iF 0 8) (nI (iR 0)) (nI (iK 0)) (nI (iG 0)) (iu 0) (ig 0), wH E a 52 (iF 1 0) (iF 1 1) (iF 1 2) (iF 1 3) (iF 1 4) (iF 1 5) (iF 1 6) (iF 1 7) (iF 1 8) (nI (iR 1)) (nI (iK 1)) (nI (iG 1)) (iu 1) (ig 1), wA E a 62 kp (nI h) (nI x), wF E a 64 31 65 75 (uI 0) (uI 1) (uI 2), wH E a 65 (cF 0) (cF 1) (cF 2) (cF 3) (cF 4) (cF 5) (cF 6) (cF 7) (cF 8) (cI 0) (cI 1) (cI 2) (cI 3) (nI cg), [(a 75, iA E 5 fi), (a 76, iA E 5 sr)], wQ E a 77 31 s] [wA E a 62 kp (nI 0) (nI 0)] [w0 E a fn fd, [(a 1, .inl (E.1.1 101, 8, .inr (.inr (.inr (.inr (rwA a))))))], wRS E a it th ln sz, wT E a 18 t (nI S) (tI 0) (tI 1) (tI 2) (tI 3), [(a 20, .inr (4, [.ref (a 18), .ref (a 21), .int (rI 0), .int (rI 1), .int (rI 2)]))], wH E a 21 (pF 0) (pF 1) (pF 2) (pF 3) (pF 4) (pF 5) (pF 6) (pF 7) (pF 8) (pI 0) (pI 1) (pI 2) (pI 3) (pI 4), wH E a 31 f1 f2 f3_ f4_ f5_ f6_ n1 n2 n3 (nI ((iR 1))) (nI ((iK 1))) (nI ((iG 1))) (nI 0) (nI 0), [(a 41, .inl (E.1.1 102, 2, .inr (.inr (.inr (.inr (imA a))))))], wH E a 42 (iF 0 0) (iF 0 1) (iF 0 2) (iF 0 3) (iF 0 4) (iF 0 5) (iF 0 6) (iF 0 7) (iF 0 8) (nI (iR 0)) (nI (iK 0)) (nI (iG 0)) (iu 0) (ig 0), wH E a 52 (iF 1 0) (iF 1 1) (iF 1 2) (iF 1 3) (iF 1 4) (iF 1 5) (iF 1 6) (iF 1 7) (iF 1 8) (nI (iR 1)) (nI (iK 1)) (nI (iG 1)) (iu 1) (ig 1), wA E a 62 kp (nI 0) (nI 0), wF E a 64 31 65 75 (uI 0) (uI 1) (uI 2), wH E a 65 (cF 0) (cF 1) (cF 2) (cF 3) (cF 4) (cF 5) (cF 6) (cF 7) (cF 8) (cI 0) (cI 1) (cI 2) (cI 3) (nI cg), [(a 75, iA E 5 fi), (a 76, iA E 5 sr)], wQ E a 77 31 s] rfl (by decide) rfl rfl rfl) ?_
          refine mr_iconst C (nI 1) 48 dX7_restore_47 rfl rfl ?_
          refine mr_iret C dX7_restore_48 rfl rfl (by decide) (by decide) hlen ?_
          rw [hO]
          exact ⟨_, (iR 1, iK 1, iG 1, f1, f2, f3_, f4_, f5_, f6_), (kp, 0, 0), rfl, rfl, (ifP_t (by decide)).mpr ((ifP_f c_21).mpr ⟨rfl, rfl, rfl, rfl, rfl, h1, h2, h3, h4, h5, h6⟩)⟩
        · have c_21 : iR 1 = 0 := (nI_eq (b := 0) (by have := hiR 1; omega) (by omega)).mp c_21
          refine mr_ldc C 26 dX7_restore_24 rfl kc_X7_141 ?_
          refine mr_iret C dX7_restore_26 rfl rfl (by decide) (by decide) hlen ?_
          rw [hO]
          exact ⟨_, (R, K, G, se, sn, be, so, lo, he), (kp, h, x), rfl, rfl, (ifP_t (by decide)).mpr ((ifP_t c_21).mpr ⟨rfl, rfl, rfl⟩)⟩
    · rw [tI_lt (by omega)] at c_6
      refine mr_ldc C 11 dX7_restore_9 rfl kc_X7_70 ?_
      refine mr_iret C dX7_restore_11 rfl rfl (by decide) (by decide) hlen ?_
      rw [hO]
      exact ⟨_, (R, K, G, se, sn, be, so, lo, he), (kp, h, x), rfl, rfl, (ifP_f (by omega)).mpr ⟨rfl, rfl, rfl⟩⟩

theorem isaS_01 (s k : Nat) (h1 : 1 ≤ s) (h5 : s ≤ 5) (hk : k ≤ 5) : isaS s k = 0 ∨ isaS s k = 1 := by
  have hs : s = 1 ∨ s = 2 ∨ s = 3 ∨ s = 4 ∨ s = 5 := by omega
  have hk2 : k = 0 ∨ k = 1 ∨ k = 2 ∨ k = 3 ∨ k = 4 ∨ k = 5 := by omega
  rcases hs with rfl | rfl | rfl | rfl | rfl <;> rcases hk2 with rfl | rfl | rfl | rfl | rfl | rfl <;> decide
set_option maxRecDepth 20000 in
set_option maxHeartbeats 4000000 in
theorem c_x_as (E : EG) (a : Nat → Nat) (fn fd : Int32) (it : Nat → FN) (th ln sz t : FN) (S : Nat) (tI rI : FN) (pF : Nat → FN) (pI se sn be so lo he n1 n2 n3 : FN) (R K G : Nat) (iF : Nat → Nat → FN) (iR iK iG : Nat → Nat) (iu ig kp : FN) (h x : Nat) (uI : FN) (cF : Nat → FN) (cI : FN) (cg : Nat) (fi sr : FN) (s : TRC) (c0 k0 : Int32) (hK : K ≤ 5) (hso : ∀ c, c < K → ∃ k, 1 ≤ k ∧ k ≤ 5 ∧ so c = nI k) : Ctr E mX7_as (12, 0, 0) [.ref (a 0), .int c0, .int k0] (wX E a fn fd it th ln sz t S tI rI pF pI se sn be so lo he n1 n2 n3 R K G iF iR iK iG iu ig kp h x uI cF cI cg fi sr s) (fun v w => ∃ (v' fd' : Int32), v = some (.int v') ∧ w = wX E a fn fd' it th ln sz t S tI rI pF pI se sn be so lo he n1 n2 n3 R K G iF iR iK iG iu ig kp h x uI cF cI cg fi sr s ∧ NxAs c0 k0 K so fd v' fd') := by
  refine Ctr.of (by decide) (Nat.le_of_ble_eq_true rfl) ?_
  intro Z hO hn C
  have hlen : zn Z ≤ 79 := by rw [hn]; exact Nat.le_of_ble_eq_true rfl
  refine mr_aload_n C 1 dX7_as_0 rfl rfl ?_
  refine mr_get C 0 4 dX7_as_1 rfl fl_X7_34 rfl rfl ?_
  refine mr_iload_n C 5 dX7_as_4 rfl rfl ?_
  refine mr_callV C (c_isCrowdI E a 31 se sn be so lo he n1 n2 n3 (nI R) (nI G) (nI 0) (nI 0) K (by omega) c0) [31, 32, 33, 34, 35, 36, 37, 38, 39, 40] 31 3 8 dX7_as_5 rfl mk_X3_isCrowd mi_X3_isCrowd ml_X7_180 rfl rfl rfl (jn_cut [1, 1, 16, 2, 1, 10, 10, 1, 10, 10, 2, 1, 10, 2, 2] [6] [w0 E a fn fd, [(a 1, .inl (E.1.1 101, 8, .inr (.inr (.inr (.inr (rwA a))))))], wRS E a it th ln sz, wT E a 18 t (nI S) (tI 0) (tI 1) (tI 2) (tI 3), [(a 20, .inr (4, [.ref (a 18), .ref (a 21), .int (rI 0), .int (rI 1), .int (rI 2)]))], wH E a 21 (pF 0) (pF 1) (pF 2) (pF 3) (pF 4) (pF 5) (pF 6) (pF 7) (pF 8) (pI 0) (pI 1) (pI 2) (pI 3) (pI 4), wH E a 31 se sn be so lo he n1 n2 n3 (nI R) (nI K) (nI G) (nI 0) (nI 0), [(a 41, .inl (E.1.1 102, 2, .inr (.inr (.inr (.inr (imA a))))))], wH E a 42 (iF 0 0) (iF 0 1) (iF 0 2) (iF 0 3) (iF 0 4) (iF 0 5) (iF 0 6) (iF 0 7) (iF 0 8) (nI (iR 0)) (nI (iK 0)) (nI (iG 0)) (iu 0) (ig 0), wH E a 52 (iF 1 0) (iF 1 1) (iF 1 2) (iF 1 3) (iF 1 4) (iF 1 5) (iF 1 6) (iF 1 7) (iF 1 8) (nI (iR 1)) (nI (iK 1)) (nI (iG 1)) (iu 1) (ig 1), wA E a 62 kp (nI h) (nI x), wF E a 64 31 65 75 (uI 0) (uI 1) (uI 2), wH E a 65 (cF 0) (cF 1) (cF 2) (cF 3) (cF 4) (cF 5) (cF 6) (cF 7) (cF 8) (cI 0) (cI 1) (cI 2) (cI 3) (nI cg), [(a 75, iA E 5 fi), (a 76, iA E 5 sr)], wQ E a 77 31 s] [wH E a 31 se sn be so lo he n1 n2 n3 (nI R) (nI K) (nI G) (nI 0) (nI 0)] rfl (by decide) rfl rfl) rfl (Nat.le_of_ble_eq_true rfl) (by decide) (by decide) (by decide) rfl rfl (fun r w1 hpost => ?_)
  obtain ⟨rfl, rfl⟩ := hpost
  refine mr_w (wput_id (jn_cut [1, 1, 16, 2, 1, 10, 10, 1, 10, 10, 2, 1, 10, 2, 2] [6] [w0 E a fn fd, [(a 1, .inl (E.1.1 101, 8, .inr (.inr (.inr (.inr (rwA a))))))], wRS E a it th ln sz, wT E a 18 t (nI S) (tI 0) (tI 1) (tI 2) (tI 3), [(a 20, .inr (4, [.ref (a 18), .ref (a 21), .int (rI 0), .int (rI 1), .int (rI 2)]))], wH E a 21 (pF 0) (pF 1) (pF 2) (pF 3) (pF 4) (pF 5) (pF 6) (pF 7) (pF 8) (pI 0) (pI 1) (pI 2) (pI 3) (pI 4), wH E a 31 se sn be so lo he n1 n2 n3 (nI R) (nI K) (nI G) (nI 0) (nI 0), [(a 41, .inl (E.1.1 102, 2, .inr (.inr (.inr (.inr (imA a))))))], wH E a 42 (iF 0 0) (iF 0 1) (iF 0 2) (iF 0 3) (iF 0 4) (iF 0 5) (iF 0 6) (iF 0 7) (iF 0 8) (nI (iR 0)) (nI (iK 0)) (nI (iG 0)) (iu 0) (ig 0), wH E a 52 (iF 1 0) (iF 1 1) (iF 1 2) (iF 1 3) (iF 1 4) (iF 1 5) (iF 1 6) (iF 1 7) (iF 1 8) (nI (iR 1)) (nI (iK 1)) (nI (iG 1)) (iu 1) (ig 1), wA E a 62 kp (nI h) (nI x), wF E a 64 31 65 75 (uI 0) (uI 1) (uI 2), wH E a 65 (cF 0) (cF 1) (cF 2) (cF 3) (cF 4) (cF 5) (cF 6) (cF 7) (cF 8) (cI 0) (cI 1) (cI 2) (cI 3) (nI cg), [(a 75, iA E 5 fi), (a 76, iA E 5 sr)], wQ E a 77 31 s] [wH E a 31 se sn be so lo he n1 n2 n3 (nI R) (nI K) (nI G) (nI 0) (nI 0)] rfl (by decide) rfl rfl)) ?_
  refine mr_ifeq C 20 11 dX7_as_8 (by decide) rfl (fun c_8 => ?_) (fun c_8 => ?_)
  · rw [bI_eq] at c_8
    refine mr_ldc C 22 dX7_as_20 rfl kc_X7_70 ?_
    refine mr_iret C dX7_as_22 rfl rfl (by decide) (by decide) hlen ?_
    rw [hO]
    exact ⟨_, fd, rfl, rfl, (ifP_f (by omega)).mpr ⟨rfl, rfl⟩⟩
  · rw [← Ne, bI_ne] at c_8
    refine mr_iload_n C 12 dX7_as_11 rfl rfl ?_
    refine mr_iflt C 20 15 dX7_as_12 (by decide) rfl (fun c_12 => ?_) (fun c_12 => ?_)
    · rw [tI_lt0] at c_12
      refine mr_ldc C 22 dX7_as_20 rfl kc_X7_70 ?_
      refine mr_iret C dX7_as_22 rfl rfl (by decide) (by decide) hlen ?_
      rw [hO]
      exact ⟨_, fd, rfl, rfl, (ifP_f (by omega)).mpr ⟨rfl, rfl⟩⟩
    · rw [tI_lt0] at c_12
      refine mr_iload_n C 16 dX7_as_15 rfl rfl ?_
      refine mr_iconst C (nI 5) 17 dX7_as_16 rfl rfl ?_
      refine mr_icmple C 23 20 dX7_as_17 (by decide) rfl (fun c_17 => ?_) (fun c_17 => ?_)
      · rw [tI_le (by omega)] at c_17
        obtain ⟨c, hc, rfl⟩ := tI_of (x := c0) (n := K) (by omega) (by omega)
        have ec : (nI c).toInt = (c : Int) := tI_n (by omega)
        have ic_ : iN (nI c) = c := iN_n (by omega)
        obtain ⟨k, hk, rfl⟩ := tI_of (x := k0) (n := 6) (by omega) (by omega)
        have ek : (nI k).toInt = (k : Int) := tI_n (by omega)
        have ik_ : iN (nI k) = k := iN_n (by omega)
        refine mr_aload_n C 24 dX7_as_23 rfl rfl ?_
        refine mr_get C 0 27 dX7_as_24 rfl fl_X7_34 rfl rfl ?_
        refine mr_get C 31 30 dX7_as_27 rfl fl_X7_237 rfl rfl ?_
        refine mr_iload_n C 31 dX7_as_30 rfl rfl ?_
        refine mr_iald C 35 c 32 dX7_as_31 rfl rfl rfl (by omega) (by decide) ?_
        refine mr_iload_n C 33 dX7_as_32 rfl rfl ?_
        obtain ⟨sk, hs1, hs5, hsk⟩ := hso c hc
        rw [hsk]
        refine mr_callS C (c_isA E sk k hs1 hs5 (by omega)) [] 36 dX7_as_33 rfl mk_X7_isA ms_X7_isA ml_X7_240 rfl rfl rfl rfl (Nat.le_of_ble_eq_true rfl) (by decide) (by decide) (by decide) (fun r w1 hpost => ?_)
        obtain ⟨rfl, rfl⟩ := hpost
        refine mr_w (ws' := wX E a fn fd it th ln sz t S tI rI pF pI se sn be so lo he n1 n2 n3 R K G iF iR iK iG iu ig kp h x uI cF cI cg fi sr s) rfl ?_
        refine mr_ifne C 45 39 dX7_as_36 (by decide) rfl (fun c_36 => ?_) (fun c_36 => ?_)
        · have c_36 : ¬ isaS sk k = 0 := fun h => c_36 (by rw [h]; rfl)
          refine mr_aload_n C 46 dX7_as_45 rfl rfl ?_
          refine mr_iconst C (nI 0) 47 dX7_as_46 rfl rfl ?_
          refine mr_put C 0 50 dX7_as_47 rfl fs_X7_79 rfl rfl rfl (Nat.le_of_ble_eq_true rfl) ?_
          refine mr_w (ws' := wX E a fn (nI 0) it th ln sz t S tI rI pF pI se sn be so lo he n1 n2 n3 R K G iF iR iK iG iu ig kp h x uI cF cI cg fi sr s) rfl ?_
          refine mr_iload_n C 51 dX7_as_50 rfl rfl ?_
          refine mr_iret C dX7_as_51 rfl rfl (by decide) (by decide) hlen ?_
          rw [hO]
          exact ⟨_, _, rfl, rfl, (ifP_t (by omega)).mpr ((ifP_f (by rw [ic_, ik_, hsk, iN_n (by omega)]; exact c_36)).mpr ⟨rfl, rfl⟩)⟩
        · have c_36 : isaS sk k = 0 := by
            rcases isaS_01 sk k hs1 hs5 (by omega) with h | h
            · exact h
            · rw [h] at c_36; exact absurd c_36 (by decide)
          refine mr_aload_n C 40 dX7_as_39 rfl rfl ?_
          refine mr_iconst C (nI 3) 41 dX7_as_40 rfl rfl ?_
          refine mr_callV C (c_found E a fn fd 3) [0] 0 7 44 dX7_as_41 rfl mk_X7_found mi_X7_found ml_X7_71 rfl rfl rfl (jn_cut [1, 1, 16, 2, 1, 10, 10, 1, 10, 10, 2, 1, 10, 2, 2] [0] [w0 E a fn fd, [(a 1, .inl (E.1.1 101, 8, .inr (.inr (.inr (.inr (rwA a))))))], wRS E a it th ln sz, wT E a 18 t (nI S) (tI 0) (tI 1) (tI 2) (tI 3), [(a 20, .inr (4, [.ref (a 18), .ref (a 21), .int (rI 0), .int (rI 1), .int (rI 2)]))], wH E a 21 (pF 0) (pF 1) (pF 2) (pF 3) (pF 4) (pF 5) (pF 6) (pF 7) (pF 8) (pI 0) (pI 1) (pI 2) (pI 3) (pI 4), wH E a 31 se sn be so lo he n1 n2 n3 (nI R) (nI K) (nI G) (nI 0) (nI 0), [(a 41, .inl (E.1.1 102, 2, .inr (.inr (.inr (.inr (imA a))))))], wH E a 42 (iF 0 0) (iF 0 1) (iF 0 2) (iF 0 3) (iF 0 4) (iF 0 5) (iF 0 6) (iF 0 7) (iF 0 8) (nI (iR 0)) (nI (iK 0)) (nI (iG 0)) (iu 0) (ig 0), wH E a 52 (iF 1 0) (iF 1 1) (iF 1 2) (iF 1 3) (iF 1 4) (iF 1 5) (iF 1 6) (iF 1 7) (iF 1 8) (nI (iR 1)) (nI (iK 1)) (nI (iG 1)) (iu 1) (ig 1), wA E a 62 kp (nI h) (nI x), wF E a 64 31 65 75 (uI 0) (uI 1) (uI 2), wH E a 65 (cF 0) (cF 1) (cF 2) (cF 3) (cF 4) (cF 5) (cF 6) (cF 7) (cF 8) (cI 0) (cI 1) (cI 2) (cI 3) (nI cg), [(a 75, iA E 5 fi), (a 76, iA E 5 sr)], wQ E a 77 31 s] [w0 E a fn fd] rfl (by decide) rfl rfl) rfl (Nat.le_of_ble_eq_true rfl) (by decide) (by decide) (by decide) rfl rfl (fun r w1 hpost => ?_)
          obtain ⟨rfl, rfl⟩ := hpost
          refine mr_w (ws' := wX E a fn (nI 3) it th ln sz t S tI rI pF pI se sn be so lo he n1 n2 n3 R K G iF iR iK iG iu ig kp h x uI cF cI cg fi sr s) (jn_put [1, 1, 16, 2, 1, 10, 10, 1, 10, 10, 2, 1, 10, 2, 2] [0] [w0 E a fn fd, [(a 1, .inl (E.1.1 101, 8, .inr (.inr (.inr (.inr (rwA a))))))], wRS E a it th ln sz, wT E a 18 t (nI S) (tI 0) (tI 1) (tI 2) (tI 3), [(a 20, .inr (4, [.ref (a 18), .ref (a 21), .int (rI 0), .int (rI 1), .int (rI 2)]))], wH E a 21 (pF 0) (pF 1) (pF 2) (pF 3) (pF 4) (pF 5) (pF 6) (pF 7) (pF 8) (pI 0) (pI 1) (pI 2) (pI 3) (pI 4), wH E a 31 se sn be so lo he n1 n2 n3 (nI R) (nI K) (nI G) (nI 0) (nI 0), [(a 41, .inl (E.1.1 102, 2, .inr (.inr (.inr (.inr (imA a))))))], wH E a 42 (iF 0 0) (iF 0 1) (iF 0 2) (iF 0 3) (iF 0 4) (iF 0 5) (iF 0 6) (iF 0 7) (iF 0 8) (nI (iR 0)) (nI (iK 0)) (nI (iG 0)) (iu 0) (ig 0), wH E a 52 (iF 1 0) (iF 1 1) (iF 1 2) (iF 1 3) (iF 1 4) (iF 1 5) (iF 1 6) (iF 1 7) (iF 1 8) (nI (iR 1)) (nI (iK 1)) (nI (iG 1)) (iu 1) (ig 1), wA E a 62 kp (nI h) (nI x), wF E a 64 31 65 75 (uI 0) (uI 1) (uI 2), wH E a 65 (cF 0) (cF 1) (cF 2) (cF 3) (cF 4) (cF 5) (cF 6) (cF 7) (cF 8) (cI 0) (cI 1) (cI 2) (cI 3) (nI cg), [(a 75, iA E 5 fi), (a 76, iA E 5 sr)], wQ E a 77 31 s] [w0 E a fn (nI 3)] [w0 E a fn (nI 3), [(a 1, .inl (E.1.1 101, 8, .inr (.inr (.inr (.inr (rwA a))))))], wRS E a it th ln sz, wT E a 18 t (nI S) (tI 0) (tI 1) (tI 2) (tI 3), [(a 20, .inr (4, [.ref (a 18), .ref (a 21), .int (rI 0), .int (rI 1), .int (rI 2)]))], wH E a 21 (pF 0) (pF 1) (pF 2) (pF 3) (pF 4) (pF 5) (pF 6) (pF 7) (pF 8) (pI 0) (pI 1) (pI 2) (pI 3) (pI 4), wH E a 31 se sn be so lo he n1 n2 n3 (nI R) (nI K) (nI G) (nI 0) (nI 0), [(a 41, .inl (E.1.1 102, 2, .inr (.inr (.inr (.inr (imA a))))))], wH E a 42 (iF 0 0) (iF 0 1) (iF 0 2) (iF 0 3) (iF 0 4) (iF 0 5) (iF 0 6) (iF 0 7) (iF 0 8) (nI (iR 0)) (nI (iK 0)) (nI (iG 0)) (iu 0) (ig 0), wH E a 52 (iF 1 0) (iF 1 1) (iF 1 2) (iF 1 3) (iF 1 4) (iF 1 5) (iF 1 6) (iF 1 7) (iF 1 8) (nI (iR 1)) (nI (iK 1)) (nI (iG 1)) (iu 1) (ig 1), wA E a 62 kp (nI h) (nI x), wF E a 64 31 65 75 (uI 0) (uI 1) (uI 2), wH E a 65 (cF 0) (cF 1) (cF 2) (cF 3) (cF 4) (cF 5) (cF 6) (cF 7) (cF 8) (cI 0) (cI 1) (cI 2) (cI 3) (nI cg), [(a 75, iA E 5 fi), (a 76, iA E 5 sr)], wQ E a 77 31 s] rfl (by decide) rfl rfl rfl) ?_
          refine mr_iret C dX7_as_44 rfl rfl (by decide) (by decide) hlen ?_
          rw [hO]
          exact ⟨_, _, rfl, rfl, (ifP_t (by omega)).mpr ((ifP_t (by rw [ic_, ik_, hsk, iN_n (by omega)]; exact c_36)).mpr ⟨rfl, rfl⟩)⟩
      · rw [tI_le (by omega)] at c_17
        refine mr_ldc C 22 dX7_as_20 rfl kc_X7_70 ?_
        refine mr_iret C dX7_as_22 rfl rfl (by decide) (by decide) hlen ?_
        rw [hO]
        exact ⟨_, fd, rfl, rfl, (ifP_f (by omega)).mpr ⟨rfl, rfl⟩⟩

set_option maxRecDepth 20000 in
set_option maxHeartbeats 4000000 in
theorem c_x_ask (E : EG) (a : Nat → Nat) (fn fd : Int32) (it : Nat → FN) (th ln sz t : FN) (S : Nat) (tI rI : FN) (pF : Nat → FN) (pI se sn be so lo he n1 n2 n3 : FN) (R K G : Nat) (iF : Nat → Nat → FN) (iR iK iG : Nat → Nat) (iu ig kp : FN) (h x : Nat) (uI : FN) (cF : Nat → FN) (cI : FN) (cg : Nat) (fi sr : FN) (s : TRC) (c0 y0 : Int32) (hK : K ≤ 5) (hso : ∀ c, c < K → ∃ k, 1 ≤ k ∧ k ≤ 5 ∧ so c = nI k) : Ctr E mX7_ask (12, 0, 0) [.ref (a 0), .int c0, .int y0] (wX E a fn fd it th ln sz t S tI rI pF pI se sn be so lo he n1 n2 n3 R K G iF iR iK iG iu ig kp h x uI cF cI cg fi sr s) (fun v w => ∃ (v' : Int32) (s' : TRC), v = some (.int v') ∧ w = wX E a fn fd it th ln sz t S tI rI pF pI se sn be so lo he n1 n2 n3 R K G iF iR iK iG iu ig kp h x uI cF cI cg fi sr s' ∧ NxAsk c0 y0 K so lo he s v' s') := by
  refine Ctr.of (by decide) (Nat.le_of_ble_eq_true rfl) ?_
  intro Z hO hn C
  have hlen : zn Z ≤ 79 := by rw [hn]; exact Nat.le_of_ble_eq_true rfl
  refine mr_aload_n C 1 dX7_ask_0 rfl rfl ?_
  refine mr_get C 0 4 dX7_ask_1 rfl fl_X7_34 rfl rfl ?_
  refine mr_iload_n C 5 dX7_ask_4 rfl rfl ?_
  refine mr_callV C (c_isCrowdI E a 31 se sn be so lo he n1 n2 n3 (nI R) (nI G) (nI 0) (nI 0) K (by omega) c0) [31, 32, 33, 34, 35, 36, 37, 38, 39, 40] 31 3 8 dX7_ask_5 rfl mk_X3_isCrowd mi_X3_isCrowd ml_X7_180 rfl rfl rfl (jn_cut [1, 1, 16, 2, 1, 10, 10, 1, 10, 10, 2, 1, 10, 2, 2] [6] [w0 E a fn fd, [(a 1, .inl (E.1.1 101, 8, .inr (.inr (.inr (.inr (rwA a))))))], wRS E a it th ln sz, wT E a 18 t (nI S) (tI 0) (tI 1) (tI 2) (tI 3), [(a 20, .inr (4, [.ref (a 18), .ref (a 21), .int (rI 0), .int (rI 1), .int (rI 2)]))], wH E a 21 (pF 0) (pF 1) (pF 2) (pF 3) (pF 4) (pF 5) (pF 6) (pF 7) (pF 8) (pI 0) (pI 1) (pI 2) (pI 3) (pI 4), wH E a 31 se sn be so lo he n1 n2 n3 (nI R) (nI K) (nI G) (nI 0) (nI 0), [(a 41, .inl (E.1.1 102, 2, .inr (.inr (.inr (.inr (imA a))))))], wH E a 42 (iF 0 0) (iF 0 1) (iF 0 2) (iF 0 3) (iF 0 4) (iF 0 5) (iF 0 6) (iF 0 7) (iF 0 8) (nI (iR 0)) (nI (iK 0)) (nI (iG 0)) (iu 0) (ig 0), wH E a 52 (iF 1 0) (iF 1 1) (iF 1 2) (iF 1 3) (iF 1 4) (iF 1 5) (iF 1 6) (iF 1 7) (iF 1 8) (nI (iR 1)) (nI (iK 1)) (nI (iG 1)) (iu 1) (ig 1), wA E a 62 kp (nI h) (nI x), wF E a 64 31 65 75 (uI 0) (uI 1) (uI 2), wH E a 65 (cF 0) (cF 1) (cF 2) (cF 3) (cF 4) (cF 5) (cF 6) (cF 7) (cF 8) (cI 0) (cI 1) (cI 2) (cI 3) (nI cg), [(a 75, iA E 5 fi), (a 76, iA E 5 sr)], wQ E a 77 31 s] [wH E a 31 se sn be so lo he n1 n2 n3 (nI R) (nI K) (nI G) (nI 0) (nI 0)] rfl (by decide) rfl rfl) rfl (Nat.le_of_ble_eq_true rfl) (by decide) (by decide) (by decide) rfl rfl (fun r w1 hpost => ?_)
  obtain ⟨rfl, rfl⟩ := hpost
  refine mr_w (wput_id (jn_cut [1, 1, 16, 2, 1, 10, 10, 1, 10, 10, 2, 1, 10, 2, 2] [6] [w0 E a fn fd, [(a 1, .inl (E.1.1 101, 8, .inr (.inr (.inr (.inr (rwA a))))))], wRS E a it th ln sz, wT E a 18 t (nI S) (tI 0) (tI 1) (tI 2) (tI 3), [(a 20, .inr (4, [.ref (a 18), .ref (a 21), .int (rI 0), .int (rI 1), .int (rI 2)]))], wH E a 21 (pF 0) (pF 1) (pF 2) (pF 3) (pF 4) (pF 5) (pF 6) (pF 7) (pF 8) (pI 0) (pI 1) (pI 2) (pI 3) (pI 4), wH E a 31 se sn be so lo he n1 n2 n3 (nI R) (nI K) (nI G) (nI 0) (nI 0), [(a 41, .inl (E.1.1 102, 2, .inr (.inr (.inr (.inr (imA a))))))], wH E a 42 (iF 0 0) (iF 0 1) (iF 0 2) (iF 0 3) (iF 0 4) (iF 0 5) (iF 0 6) (iF 0 7) (iF 0 8) (nI (iR 0)) (nI (iK 0)) (nI (iG 0)) (iu 0) (ig 0), wH E a 52 (iF 1 0) (iF 1 1) (iF 1 2) (iF 1 3) (iF 1 4) (iF 1 5) (iF 1 6) (iF 1 7) (iF 1 8) (nI (iR 1)) (nI (iK 1)) (nI (iG 1)) (iu 1) (ig 1), wA E a 62 kp (nI h) (nI x), wF E a 64 31 65 75 (uI 0) (uI 1) (uI 2), wH E a 65 (cF 0) (cF 1) (cF 2) (cF 3) (cF 4) (cF 5) (cF 6) (cF 7) (cF 8) (cI 0) (cI 1) (cI 2) (cI 3) (nI cg), [(a 75, iA E 5 fi), (a 76, iA E 5 sr)], wQ E a 77 31 s] [wH E a 31 se sn be so lo he n1 n2 n3 (nI R) (nI K) (nI G) (nI 0) (nI 0)] rfl (by decide) rfl rfl)) ?_
  refine mr_ifeq C 20 11 dX7_ask_8 (by decide) rfl (fun c_8 => ?_) (fun c_8 => ?_)
  · rw [bI_eq] at c_8
    refine mr_ldc C 22 dX7_ask_20 rfl kc_X7_70 ?_
    refine mr_iret C dX7_ask_22 rfl rfl (by decide) (by decide) hlen ?_
    rw [hO]
    exact ⟨_, s, rfl, rfl, (ifP_f (by omega)).mpr ⟨rfl, rfl⟩⟩
  · rw [← Ne, bI_ne] at c_8
    refine mr_iload_n C 12 dX7_ask_11 rfl rfl ?_
    refine mr_iflt C 20 15 dX7_ask_12 (by decide) rfl (fun c_12 => ?_) (fun c_12 => ?_)
    · rw [tI_lt0] at c_12
      refine mr_ldc C 22 dX7_ask_20 rfl kc_X7_70 ?_
      refine mr_iret C dX7_ask_22 rfl rfl (by decide) (by decide) hlen ?_
      rw [hO]
      exact ⟨_, s, rfl, rfl, (ifP_f (by omega)).mpr ⟨rfl, rfl⟩⟩
    · rw [tI_lt0] at c_12
      refine mr_iload_n C 16 dX7_ask_15 rfl rfl ?_
      refine mr_iconst C (nI 1) 17 dX7_ask_16 rfl rfl ?_
      refine mr_icmple C 23 20 dX7_ask_17 (by decide) rfl (fun c_17 => ?_) (fun c_17 => ?_)
      · rw [tI_le (by omega)] at c_17
        obtain ⟨c, hc, rfl⟩ := tI_of (x := c0) (n := K) (by omega) (by omega)
        have ec : (nI c).toInt = (c : Int) := tI_n (by omega)
        have ic_ : iN (nI c) = c := iN_n (by omega)
        obtain ⟨y, hy, rfl⟩ := tI_of (x := y0) (n := 2) (by omega) (by omega)
        have ey : (nI y).toInt = (y : Int) := tI_n (by omega)
        have iy_ : iN (nI y) = y := iN_n (by omega)
        refine mr_aload_n C 24 dX7_ask_23 rfl rfl ?_
        refine mr_get C 0 27 dX7_ask_24 rfl fl_X7_61 rfl rfl ?_
        refine mr_iload_n C 28 dX7_ask_27 rfl rfl ?_
        refine mr_iload_n C 29 dX7_ask_28 rfl rfl ?_
        obtain ⟨sk, hs1, hs5, hsk⟩ := hso c hc
        refine mr_callV C (c_askAnew E a 77 31 s se sn be so lo he n1 n2 n3 (nI R) (nI K) (nI G) (nI 0) (nI 0) c (by omega) sk y hs1 hs5 (by omega) hsk) [77, 78, 31, 32, 33, 34, 35, 36, 37, 38, 39, 40] 77 1 32 dX7_ask_29 rfl mk_X1_askAnew mi_X1_askAnew ml_X7_243 rfl rfl rfl (jn_cut [1, 1, 16, 2, 1, 10, 10, 1, 10, 10, 2, 1, 10, 2, 2] [14, 6] [w0 E a fn fd, [(a 1, .inl (E.1.1 101, 8, .inr (.inr (.inr (.inr (rwA a))))))], wRS E a it th ln sz, wT E a 18 t (nI S) (tI 0) (tI 1) (tI 2) (tI 3), [(a 20, .inr (4, [.ref (a 18), .ref (a 21), .int (rI 0), .int (rI 1), .int (rI 2)]))], wH E a 21 (pF 0) (pF 1) (pF 2) (pF 3) (pF 4) (pF 5) (pF 6) (pF 7) (pF 8) (pI 0) (pI 1) (pI 2) (pI 3) (pI 4), wH E a 31 se sn be so lo he n1 n2 n3 (nI R) (nI K) (nI G) (nI 0) (nI 0), [(a 41, .inl (E.1.1 102, 2, .inr (.inr (.inr (.inr (imA a))))))], wH E a 42 (iF 0 0) (iF 0 1) (iF 0 2) (iF 0 3) (iF 0 4) (iF 0 5) (iF 0 6) (iF 0 7) (iF 0 8) (nI (iR 0)) (nI (iK 0)) (nI (iG 0)) (iu 0) (ig 0), wH E a 52 (iF 1 0) (iF 1 1) (iF 1 2) (iF 1 3) (iF 1 4) (iF 1 5) (iF 1 6) (iF 1 7) (iF 1 8) (nI (iR 1)) (nI (iK 1)) (nI (iG 1)) (iu 1) (ig 1), wA E a 62 kp (nI h) (nI x), wF E a 64 31 65 75 (uI 0) (uI 1) (uI 2), wH E a 65 (cF 0) (cF 1) (cF 2) (cF 3) (cF 4) (cF 5) (cF 6) (cF 7) (cF 8) (cI 0) (cI 1) (cI 2) (cI 3) (nI cg), [(a 75, iA E 5 fi), (a 76, iA E 5 sr)], wQ E a 77 31 s] [wQ E a 77 31 s, wH E a 31 se sn be so lo he n1 n2 n3 (nI R) (nI K) (nI G) (nI 0) (nI 0)] rfl (by decide) rfl rfl) rfl (Nat.le_of_ble_eq_true rfl) (by decide) (by decide) (by decide) rfl rfl (fun r w1 hpost => ?_)
        obtain ⟨rfl, rfl⟩ := hpost
        refine mr_w (ws' := wX E a fn fd it th ln sz t S tI rI pF pI se sn be so lo he n1 n2 n3 R K G iF iR iK iG iu ig kp h x uI cF cI cg fi sr (lvL (askT sk y) (s.1, 0))) (jn_put [1, 1, 16, 2, 1, 10, 10, 1, 10, 10, 2, 1, 10, 2, 2] [14, 6] [w0 E a fn fd, [(a 1, .inl (E.1.1 101, 8, .inr (.inr (.inr (.inr (rwA a))))))], wRS E a it th ln sz, wT E a 18 t (nI S) (tI 0) (tI 1) (tI 2) (tI 3), [(a 20, .inr (4, [.ref (a 18), .ref (a 21), .int (rI 0), .int (rI 1), .int (rI 2)]))], wH E a 21 (pF 0) (pF 1) (pF 2) (pF 3) (pF 4) (pF 5) (pF 6) (pF 7) (pF 8) (pI 0) (pI 1) (pI 2) (pI 3) (pI 4), wH E a 31 se sn be so lo he n1 n2 n3 (nI R) (nI K) (nI G) (nI 0) (nI 0), [(a 41, .inl (E.1.1 102, 2, .inr (.inr (.inr (.inr (imA a))))))], wH E a 42 (iF 0 0) (iF 0 1) (iF 0 2) (iF 0 3) (iF 0 4) (iF 0 5) (iF 0 6) (iF 0 7) (iF 0 8) (nI (iR 0)) (nI (iK 0)) (nI (iG 0)) (iu 0) (ig 0), wH E a 52 (iF 1 0) (iF 1 1) (iF 1 2) (iF 1 3) (iF 1 4) (iF 1 5) (iF 1 6) (iF 1 7) (iF 1 8) (nI (iR 1)) (nI (iK 1)) (nI (iG 1)) (iu 1) (ig 1), wA E a 62 kp (nI h) (nI x), wF E a 64 31 65 75 (uI 0) (uI 1) (uI 2), wH E a 65 (cF 0) (cF 1) (cF 2) (cF 3) (cF 4) (cF 5) (cF 6) (cF 7) (cF 8) (cI 0) (cI 1) (cI 2) (cI 3) (nI cg), [(a 75, iA E 5 fi), (a 76, iA E 5 sr)], wQ E a 77 31 s] [wQ E a 77 31 (lvL (askT sk y) (s.1, 0)), wH E a 31 se sn be so lo he n1 n2 n3 (nI R) (nI K) (nI G) (nI 0) (nI 0)] [w0 E a fn fd, [(a 1, .inl (E.1.1 101, 8, .inr (.inr (.inr (.inr (rwA a))))))], wRS E a it th ln sz, wT E a 18 t (nI S) (tI 0) (tI 1) (tI 2) (tI 3), [(a 20, .inr (4, [.ref (a 18), .ref (a 21), .int (rI 0), .int (rI 1), .int (rI 2)]))], wH E a 21 (pF 0) (pF 1) (pF 2) (pF 3) (pF 4) (pF 5) (pF 6) (pF 7) (pF 8) (pI 0) (pI 1) (pI 2) (pI 3) (pI 4), wH E a 31 se sn be so lo he n1 n2 n3 (nI R) (nI K) (nI G) (nI 0) (nI 0), [(a 41, .inl (E.1.1 102, 2, .inr (.inr (.inr (.inr (imA a))))))], wH E a 42 (iF 0 0) (iF 0 1) (iF 0 2) (iF 0 3) (iF 0 4) (iF 0 5) (iF 0 6) (iF 0 7) (iF 0 8) (nI (iR 0)) (nI (iK 0)) (nI (iG 0)) (iu 0) (ig 0), wH E a 52 (iF 1 0) (iF 1 1) (iF 1 2) (iF 1 3) (iF 1 4) (iF 1 5) (iF 1 6) (iF 1 7) (iF 1 8) (nI (iR 1)) (nI (iK 1)) (nI (iG 1)) (iu 1) (ig 1), wA E a 62 kp (nI h) (nI x), wF E a 64 31 65 75 (uI 0) (uI 1) (uI 2), wH E a 65 (cF 0) (cF 1) (cF 2) (cF 3) (cF 4) (cF 5) (cF 6) (cF 7) (cF 8) (cI 0) (cI 1) (cI 2) (cI 3) (nI cg), [(a 75, iA E 5 fi), (a 76, iA E 5 sr)], wQ E a 77 31 (lvL (askT sk y) (s.1, 0))] rfl (by decide) rfl rfl rfl) ?_
        refine mr_iret C dX7_ask_32 rfl rfl (by decide) (by decide) hlen ?_
        rw [hO]
        exact ⟨_, _, rfl, rfl, (ifP_t (by omega)).mpr ⟨by rw [ic_, iy_, hsk, iN_n (by omega)], by rw [ic_, iy_, hsk, iN_n (by omega)]⟩⟩
      · rw [tI_le (by omega)] at c_17
        refine mr_ldc C 22 dX7_ask_20 rfl kc_X7_70 ?_
        refine mr_iret C dX7_ask_22 rfl rfl (by decide) (by decide) hlen ?_
        rw [hO]
        exact ⟨_, s, rfl, rfl, (ifP_f (by omega)).mpr ⟨rfl, rfl⟩⟩

set_option maxRecDepth 20000 in
set_option maxHeartbeats 4000000 in
theorem c_countRows (E : EG) (a : Nat → Nat) (fn fd : Int32) (it : Nat → FN) (th ln sz t : FN) (S : Nat) (tI rI : FN) (pF : Nat → FN) (pI se sn be so lo he n1 n2 n3 : FN) (R K G : Nat) (iF : Nat → Nat → FN) (iR iK iG : Nat → Nat) (iu ig kp : FN) (h x : Nat) (uI : FN) (cF : Nat → FN) (cI : FN) (cg : Nat) (fi sr : FN) (s : TRC)   : Ctr E mX7_countRows (1, 0, 0) [.ref (a 0)] (wX E a fn fd it th ln sz t S tI rI pF pI se sn be so lo he n1 n2 n3 R K G iF iR iK iG iu ig kp h x uI cF cI cg fi sr s) (fun v w => v = some (.int (cntT th 8)) ∧ w = wX E a fn fd it th ln sz t S tI rI pF pI se sn be so lo he n1 n2 n3 R K G iF iR iK iG iu ig kp h x uI cF cI cg fi sr s) := by
  refine Ctr.of (by decide) (Nat.le_of_ble_eq_true rfl) ?_
  intro Z hO hn C
  have hlen : zn Z ≤ 79 := by rw [hn]; exact Nat.le_of_ble_eq_true rfl
  have L : ∀ r, r ≤ 8 → V E mX7_countRows (1, 0, 0) Z 0 0 (wX E a fn fd it th ln sz t S tI rI pF pI se sn be so lo he n1 n2 n3 R K G iF iR iK iG iu ig kp h x uI cF cI cg fi sr s) [(0, .ref (a 0)), (1, .int (cntT th r)), (2, .int (nI r))] [] 4 := by
    refine lp_up 8 ?_
    intro r hr9 ih
    refine mr_iload_n C 5 dX7_countRows_4 rfl rfl ?_
    refine mr_bipush C (nI 8) 7 dX7_countRows_5 rfl rfl ?_
    refine mr_icmpge C 31 10 dX7_countRows_7 (by decide) rfl (fun c_7 => ?_) (fun c_7 => ?_)
    · rw [nI_leI (by omega) (by omega)] at c_7
      refine mr_iload_n C 32 dX7_countRows_31 rfl rfl ?_
      refine mr_iret C dX7_countRows_32 rfl rfl (by decide) (by decide) hlen ?_
      rw [hO]
      obtain rfl : r = 8 := by omega
      exact ⟨rfl, rfl⟩
    · rw [nI_leI (by omega) (by omega)] at c_7
      refine mr_aload_n C 11 dX7_countRows_10 rfl rfl ?_
      refine mr_get C 0 14 dX7_countRows_11 rfl fl_X7_11 rfl rfl ?_
      have hr : r < 8 := by omega
      refine mr_iload_n C 15 dX7_countRows_14 rfl rfl ?_
      refine mr_aald C 1 r 1 (a (2 + 2 * r)) 16 dX7_countRows_15 rfl rfl rfl rfl hr (by decide) (if_pos hr) ?_
      refine mr_get C (2 + 2 * r) 19 dX7_countRows_16 rfl fl_X7_83 (wX_row E a fn fd it th ln sz t S tI rI pF pI se sn be so lo he n1 n2 n3 R K G iF iR iK iG iu ig kp h x uI cF cI cg fi sr s r hr).1 rfl ?_
      refine mr_ifeq C 25 22 dX7_countRows_19 (by decide) rfl (fun c_19 => ?_) (fun c_19 => ?_)
      · refine mr_iinc C (nI (r + 1)) 28 dX7_countRows_25 rfl rfl (by decide) (nI_add r 1) ?_
        refine mr_goto C 4 dX7_countRows_28 (by decide) ?_
        have ih2 := ih (by omega)
        rw [show cntT th (r + 1) = cntT th r from if_pos c_19] at ih2
        exact mr_at ih2 rfl rfl rfl
      · refine mr_iinc C _ 25 dX7_countRows_22 rfl rfl (by decide) rfl ?_
        refine mr_iinc C (nI (r + 1)) 28 dX7_countRows_25 rfl rfl (by decide) (nI_add r 1) ?_
        refine mr_goto C 4 dX7_countRows_28 (by decide) ?_
        have ih2 := ih (by omega)
        rw [show cntT th (r + 1) = cntT th r + nI 1 from if_neg c_19] at ih2
        exact mr_at ih2 rfl rfl rfl
  refine mr_iconst C (nI 0) 1 dX7_countRows_0 rfl rfl ?_
  refine mr_istore_n C 2 dX7_countRows_1 rfl rfl (by decide) ?_
  refine mr_iconst C (nI 0) 3 dX7_countRows_2 rfl rfl ?_
  refine mr_istore_n C 4 dX7_countRows_3 rfl rfl (by decide) ?_
  exact mr_at (L 0 (Nat.zero_le _)) rfl rfl rfl

set_option maxRecDepth 20000 in
set_option maxHeartbeats 4000000 in
theorem c_x_count (E : EG) (a : Nat → Nat) (fn fd : Int32) (it : Nat → FN) (th ln sz t : FN) (S : Nat) (tI rI : FN) (pF : Nat → FN) (pI se sn be so lo he n1 n2 n3 : FN) (R K G : Nat) (iF : Nat → Nat → FN) (iR iK iG : Nat → Nat) (iu ig kp : FN) (h x : Nat) (uI : FN) (cF : Nat → FN) (cI : FN) (cg : Nat) (fi sr : FN) (s : TRC) (y0 : Int32) (hK : K ≤ 5) : Ctr E mX7_count (12, 0, 0) [.ref (a 0), .int y0] (wX E a fn fd it th ln sz t S tI rI pF pI se sn be so lo he n1 n2 n3 R K G iF iR iK iG iu ig kp h x uI cF cI cg fi sr s) (fun v w => v = some (.int (countV y0 th R K G h S he)) ∧ w = wX E a fn fd it th ln sz t S tI rI pF pI se sn be so lo he n1 n2 n3 R K G iF iR iK iG iu ig kp h x uI cF cI cg fi sr s) := by
  refine Ctr.of (by decide) (Nat.le_of_ble_eq_true rfl) ?_
  intro Z hO hn C
  have hlen : zn Z ≤ 79 := by rw [hn]; exact Nat.le_of_ble_eq_true rfl
  by_cases h0 : y0 = nI 0
  · subst h0
    refine mr_iload_n C 1 dX7_count_0 rfl rfl ?_
    refine mr_tabIn C 44 dX7_count_1 (by decide) (by decide) rfl (by decide) ?_
    refine mr_aload_n C 45 dX7_count_44 rfl rfl ?_
    refine mr_callV C (c_countRows E a fn fd it th ln sz t S tI rI pF pI se sn be so lo he n1 n2 n3 R K G iF iR iK iG iu ig kp h x uI cF cI cg fi sr s) [0, 1, 2, 3, 4, 5, 6, 7, 8, 9, 10, 11, 12, 13, 14, 15, 16, 17, 18, 19, 20, 21, 22, 23, 24, 25, 26, 27, 28, 29, 30, 31, 32, 33, 34, 35, 36, 37, 38, 39, 40, 41, 42, 43, 44, 45, 46, 47, 48, 49, 50, 51, 52, 53, 54, 55, 56, 57, 58, 59, 60, 61, 62, 63, 64, 65, 66, 67, 68, 69, 70, 71, 72, 73, 74, 75, 76, 77, 78] 0 7 48 dX7_count_45 rfl mk_X7_countRows mi_X7_countRows ml_X7_252 rfl rfl rfl rfl rfl (Nat.le_of_ble_eq_true rfl) (by decide) (by decide) (by decide) rfl rfl (fun r w1 hpost => ?_)
    obtain ⟨rfl, rfl⟩ := hpost
    refine mr_w (wput_all _ _ 79 rfl rfl) ?_
    refine mr_iret C dX7_count_48 rfl rfl (by decide) (by decide) hlen ?_
    rw [hO]
    exact ⟨congrArg (fun z => some (Value.int z)) ((ifP_t rfl).symm), rfl⟩
  by_cases h1 : y0 = nI 1
  · subst h1
    refine mr_iload_n C 1 dX7_count_0 rfl rfl ?_
    refine mr_tabIn C 49 dX7_count_1 (by decide) (by decide) rfl (by decide) ?_
    refine mr_aload_n C 50 dX7_count_49 rfl rfl ?_
    refine mr_get C 0 53 dX7_count_50 rfl fl_X7_34 rfl rfl ?_
    refine mr_get C 31 56 dX7_count_53 rfl fl_X7_138 rfl rfl ?_
    refine mr_iret C dX7_count_56 rfl rfl (by decide) (by decide) hlen ?_
    rw [hO]
    exact ⟨congrArg (fun z => some (Value.int z)) (((ifP_f (by decide)).trans (ifP_t rfl)).symm), rfl⟩
  by_cases h2 : y0 = nI 2
  · subst h2
    refine mr_iload_n C 1 dX7_count_0 rfl rfl ?_
    refine mr_tabIn C 57 dX7_count_1 (by decide) (by decide) rfl (by decide) ?_
    refine mr_aload_n C 58 dX7_count_57 rfl rfl ?_
    refine mr_get C 0 61 dX7_count_58 rfl fl_X7_34 rfl rfl ?_
    refine mr_get C 31 64 dX7_count_61 rfl fl_X7_152 rfl rfl ?_
    refine mr_iret C dX7_count_64 rfl rfl (by decide) (by decide) hlen ?_
    rw [hO]
    exact ⟨congrArg (fun z => some (Value.int z)) (((ifP_f (by decide)).trans ((ifP_f (by decide)).trans (ifP_t rfl))).symm), rfl⟩
  by_cases h3 : y0 = nI 3
  · subst h3
    refine mr_iload_n C 1 dX7_count_0 rfl rfl ?_
    refine mr_tabIn C 65 dX7_count_1 (by decide) (by decide) rfl (by decide) ?_
    refine mr_aload_n C 66 dX7_count_65 rfl rfl ?_
    refine mr_get C 0 69 dX7_count_66 rfl fl_X7_34 rfl rfl ?_
    refine mr_get C 31 72 dX7_count_69 rfl fl_X7_142 rfl rfl ?_
    refine mr_iret C dX7_count_72 rfl rfl (by decide) (by decide) hlen ?_
    rw [hO]
    exact ⟨congrArg (fun z => some (Value.int z)) (((ifP_f (by decide)).trans ((ifP_f (by decide)).trans ((ifP_f (by decide)).trans (ifP_t rfl)))).symm), rfl⟩
  by_cases h4 : y0 = nI 4
  · subst h4
    refine mr_iload_n C 1 dX7_count_0 rfl rfl ?_
    refine mr_tabIn C 73 dX7_count_1 (by decide) (by decide) rfl (by decide) ?_
    refine mr_aload_n C 74 dX7_count_73 rfl rfl ?_
    refine mr_get C 0 77 dX7_count_74 rfl fl_X7_45 rfl rfl ?_
    refine mr_get C 62 80 dX7_count_77 rfl fl_X7_186 rfl rfl ?_
    refine mr_iret C dX7_count_80 rfl rfl (by decide) (by decide) hlen ?_
    rw [hO]
    exact ⟨congrArg (fun z => some (Value.int z)) (((ifP_f (by decide)).trans ((ifP_f (by decide)).trans ((ifP_f (by decide)).trans ((ifP_f (by decide)).trans (ifP_t rfl))))).symm), rfl⟩
  by_cases h5 : y0 = nI 5
  · subst h5
    refine mr_iload_n C 1 dX7_count_0 rfl rfl ?_
    refine mr_tabIn C 81 dX7_count_1 (by decide) (by decide) rfl (by decide) ?_
    refine mr_aload_n C 82 dX7_count_81 rfl rfl ?_
    refine mr_get C 0 85 dX7_count_82 rfl fl_X7_34 rfl rfl ?_
    refine mr_callV C (c_allHeads E a 31 se sn be so lo he n1 n2 n3 (nI R) (nI G) (nI 0) (nI 0) K hK) [31, 32, 33, 34, 35, 36, 37, 38, 39, 40] 31 3 88 dX7_count_85 rfl mk_X3_allHeads mi_X3_allHeads ml_X7_167 rfl rfl rfl (jn_cut [1, 1, 16, 2, 1, 10, 10, 1, 10, 10, 2, 1, 10, 2, 2] [6] [w0 E a fn fd, [(a 1, .inl (E.1.1 101, 8, .inr (.inr (.inr (.inr (rwA a))))))], wRS E a it th ln sz, wT E a 18 t (nI S) (tI 0) (tI 1) (tI 2) (tI 3), [(a 20, .inr (4, [.ref (a 18), .ref (a 21), .int (rI 0), .int (rI 1), .int (rI 2)]))], wH E a 21 (pF 0) (pF 1) (pF 2) (pF 3) (pF 4) (pF 5) (pF 6) (pF 7) (pF 8) (pI 0) (pI 1) (pI 2) (pI 3) (pI 4), wH E a 31 se sn be so lo he n1 n2 n3 (nI R) (nI K) (nI G) (nI 0) (nI 0), [(a 41, .inl (E.1.1 102, 2, .inr (.inr (.inr (.inr (imA a))))))], wH E a 42 (iF 0 0) (iF 0 1) (iF 0 2) (iF 0 3) (iF 0 4) (iF 0 5) (iF 0 6) (iF 0 7) (iF 0 8) (nI (iR 0)) (nI (iK 0)) (nI (iG 0)) (iu 0) (ig 0), wH E a 52 (iF 1 0) (iF 1 1) (iF 1 2) (iF 1 3) (iF 1 4) (iF 1 5) (iF 1 6) (iF 1 7) (iF 1 8) (nI (iR 1)) (nI (iK 1)) (nI (iG 1)) (iu 1) (ig 1), wA E a 62 kp (nI h) (nI x), wF E a 64 31 65 75 (uI 0) (uI 1) (uI 2), wH E a 65 (cF 0) (cF 1) (cF 2) (cF 3) (cF 4) (cF 5) (cF 6) (cF 7) (cF 8) (cI 0) (cI 1) (cI 2) (cI 3) (nI cg), [(a 75, iA E 5 fi), (a 76, iA E 5 sr)], wQ E a 77 31 s] [wH E a 31 se sn be so lo he n1 n2 n3 (nI R) (nI K) (nI G) (nI 0) (nI 0)] rfl (by decide) rfl rfl) rfl (Nat.le_of_ble_eq_true rfl) (by decide) (by decide) (by decide) rfl rfl (fun r w1 hpost => ?_)
    obtain ⟨rfl, rfl⟩ := hpost
    refine mr_w (wput_id (jn_cut [1, 1, 16, 2, 1, 10, 10, 1, 10, 10, 2, 1, 10, 2, 2] [6] [w0 E a fn fd, [(a 1, .inl (E.1.1 101, 8, .inr (.inr (.inr (.inr (rwA a))))))], wRS E a it th ln sz, wT E a 18 t (nI S) (tI 0) (tI 1) (tI 2) (tI 3), [(a 20, .inr (4, [.ref (a 18), .ref (a 21), .int (rI 0), .int (rI 1), .int (rI 2)]))], wH E a 21 (pF 0) (pF 1) (pF 2) (pF 3) (pF 4) (pF 5) (pF 6) (pF 7) (pF 8) (pI 0) (pI 1) (pI 2) (pI 3) (pI 4), wH E a 31 se sn be so lo he n1 n2 n3 (nI R) (nI K) (nI G) (nI 0) (nI 0), [(a 41, .inl (E.1.1 102, 2, .inr (.inr (.inr (.inr (imA a))))))], wH E a 42 (iF 0 0) (iF 0 1) (iF 0 2) (iF 0 3) (iF 0 4) (iF 0 5) (iF 0 6) (iF 0 7) (iF 0 8) (nI (iR 0)) (nI (iK 0)) (nI (iG 0)) (iu 0) (ig 0), wH E a 52 (iF 1 0) (iF 1 1) (iF 1 2) (iF 1 3) (iF 1 4) (iF 1 5) (iF 1 6) (iF 1 7) (iF 1 8) (nI (iR 1)) (nI (iK 1)) (nI (iG 1)) (iu 1) (ig 1), wA E a 62 kp (nI h) (nI x), wF E a 64 31 65 75 (uI 0) (uI 1) (uI 2), wH E a 65 (cF 0) (cF 1) (cF 2) (cF 3) (cF 4) (cF 5) (cF 6) (cF 7) (cF 8) (cI 0) (cI 1) (cI 2) (cI 3) (nI cg), [(a 75, iA E 5 fi), (a 76, iA E 5 sr)], wQ E a 77 31 s] [wH E a 31 se sn be so lo he n1 n2 n3 (nI R) (nI K) (nI G) (nI 0) (nI 0)] rfl (by decide) rfl rfl)) ?_
    refine mr_iret C dX7_count_88 rfl rfl (by decide) (by decide) hlen ?_
    rw [hO]
    exact ⟨congrArg (fun z => some (Value.int z)) (((ifP_f (by decide)).trans ((ifP_f (by decide)).trans ((ifP_f (by decide)).trans ((ifP_f (by decide)).trans ((ifP_f (by decide)).trans (ifP_t rfl)))))).symm), rfl⟩
  by_cases h6 : y0 = nI 6
  · subst h6
    refine mr_iload_n C 1 dX7_count_0 rfl rfl ?_
    refine mr_tabIn C 89 dX7_count_1 (by decide) (by decide) rfl (by decide) ?_
    refine mr_aload_n C 90 dX7_count_89 rfl rfl ?_
    refine mr_get C 0 93 dX7_count_90 rfl fl_X7_18 rfl rfl ?_
    refine mr_get C 18 96 dX7_count_93 rfl fl_X7_111 rfl rfl ?_
    refine mr_iret C dX7_count_96 rfl rfl (by decide) (by decide) hlen ?_
    rw [hO]
    exact ⟨congrArg (fun z => some (Value.int z)) (((ifP_f (by decide)).trans ((ifP_f (by decide)).trans ((ifP_f (by decide)).trans ((ifP_f (by decide)).trans ((ifP_f (by decide)).trans ((ifP_f (by decide)).trans (ifP_t rfl))))))).symm), rfl⟩
  have hno : y0.toInt < 0 ∨ 6 < y0.toInt := by
    have g0 : ¬ y0.toInt = 0 := fun e => h0 ((tI_eq (by omega)).mpr e)
    have g1 : ¬ y0.toInt = 1 := fun e => h1 ((tI_eq (by omega)).mpr e)
    have g2 : ¬ y0.toInt = 2 := fun e => h2 ((tI_eq (by omega)).mpr e)
    have g3 : ¬ y0.toInt = 3 := fun e => h3 ((tI_eq (by omega)).mpr e)
    have g4 : ¬ y0.toInt = 4 := fun e => h4 ((tI_eq (by omega)).mpr e)
    have g5 : ¬ y0.toInt = 5 := fun e => h5 ((tI_eq (by omega)).mpr e)
    have g6 : ¬ y0.toInt = 6 := fun e => h6 ((tI_eq (by omega)).mpr e)
    omega
  refine mr_iload_n C 1 dX7_count_0 rfl rfl ?_
  refine mr_tabOut C 97 dX7_count_1 hno (by decide) ?_
  refine mr_ldc C 99 dX7_count_97 rfl kc_X7_70 ?_
  refine mr_iret C dX7_count_99 rfl rfl (by decide) (by decide) hlen ?_
  rw [hO]
  exact ⟨congrArg (fun z => some (Value.int z)) (((ifP_f h0).trans ((ifP_f h1).trans ((ifP_f h2).trans ((ifP_f h3).trans ((ifP_f h4).trans ((ifP_f h5).trans (ifP_f h6))))))).symm), rfl⟩

