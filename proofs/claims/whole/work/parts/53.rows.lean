/-! the class' calls: rows -/
/-- what the rows are: items, there, lanes, sizes, and the finding -/
abbrev RWT : Type := (Nat → FN) × FN × FN × FN × Int32
/-- a row that is there has at most 40 items -/
def RI (th sz : FN) : Prop := ∀ r, r < 8 → th r = nI 0 ∨ (th r = nI 1 ∧ ∃ n, n ≤ 40 ∧ sz r = nI n)
theorem holdsI {i n : Int32} {S : Nat} (hS : S ≤ 40) : (¬ n < 0 ∧ ¬ i < 0 ∧ n ≤ nI S ∧ i ≤ nI S - n) ↔ (0 ≤ n.toInt ∧ 0 ≤ i.toInt ∧ i.toInt + n.toInt ≤ S) := by
  rw [tI_lt0, tI_lt0, tI_le (by omega), Int.not_lt, Int.not_lt]
  constructor
  · rintro ⟨h1, h2, h3, h4⟩
    obtain ⟨k, hk, rfl⟩ := tI_of (x := n) (n := S + 1) h1 (by omega)
    have e : (nI k).toInt = (k : Int) := tI_n (by omega)
    rw [pk_sub (by omega), tI_le (by omega)] at h4
    omega
  · rintro ⟨h1, h2, h3⟩
    obtain ⟨k, hk, rfl⟩ := tI_of (x := n) (n := S + 1) h1 (by omega)
    have e : (nI k).toInt = (k : Int) := tI_n (by omega)
    refine ⟨h1, h2, by omega, ?_⟩
    rw [pk_sub (by omega), tI_le (by omega)]
    omega
theorem c_holdsI (E : EG) (a : Nat → Nat) (b : Nat) (it : FN) (th ln i n : Int32) (S : Nat) (hS : S ≤ 40) : Ctr E mX5_holds (1, 0, 0) [.ref (a b), .int i, .int n] (wR E a b it th ln (nI S)) (fun v w => v = some (.int (bI (0 ≤ n.toInt ∧ 0 ≤ i.toInt ∧ i.toInt + n.toInt ≤ S))) ∧ w = wR E a b it th ln (nI S)) := by
  refine Ctr.imp (c_holds E a b it th ln (nI S) i n) ?_
  rintro v w ⟨rfl, rfl⟩
  exact ⟨congrArg (fun z => some (Value.int z)) (bI_cong (holdsI hS)), rfl⟩
noncomputable def NxRow (r l n : Int32) (y : RWT) (v : Int32) (y' : RWT) : Prop :=
  ifP (0 ≤ r.toInt ∧ r.toInt < 8 ∧ 0 ≤ l.toInt ∧ l.toInt < 3 ∧ n.toInt ≤ 40)
    (ifP (n.toInt < 0) (v = -1000010 - nI 4 ∧ y' = (y.1, y.2.1, y.2.2.1, y.2.2.2.1, nI 4))
      (∃ f : FN, v = n ∧ (∀ j, j < iN n → f j = nI 0) ∧ y' = (va_up y.1 (iN r) f, va_up y.2.1 (iN r) (nI 1), va_up y.2.2.1 (iN r) l, va_up y.2.2.2.1 (iN r) n, nI 0)))
    (v = -1000001 ∧ y' = y)
noncomputable def NxSet (r i z : Int32) (y : RWT) (v : Int32) (y' : RWT) : Prop :=
  ifP (0 ≤ r.toInt ∧ r.toInt < 8)
    (ifP (y.2.1 (iN r) = nI 0) (v = -1000010 - nI 1 ∧ y' = (y.1, y.2.1, y.2.2.1, y.2.2.2.1, nI 1))
      (ifP (0 ≤ i.toInt ∧ i.toInt < (y.2.2.2.1 (iN r)).toInt) (v = kpS (y.2.2.1 (iN r)) z ∧ y' = (va_up y.1 (iN r) (upd (y.1 (iN r)) (iN i) (kpS (y.2.2.1 (iN r)) z)), y.2.1, y.2.2.1, y.2.2.2.1, nI 0))
        (v = -1000010 - nI 2 ∧ y' = (y.1, y.2.1, y.2.2.1, y.2.2.2.1, nI 2))))
    (v = -1000001 ∧ y' = y)
noncomputable def NxCopy (a i b j n : Int32) (y : RWT) (v : Int32) (y' : RWT) : Prop :=
  ifP (0 ≤ a.toInt ∧ a.toInt < 8 ∧ 0 ≤ b.toInt ∧ b.toInt < 8)
    (ifP (y.2.1 (iN a) = nI 0 ∨ y.2.1 (iN b) = nI 0) (v = -1000010 - nI 1 ∧ y' = (y.1, y.2.1, y.2.2.1, y.2.2.2.1, nI 1))
      (ifP (y.2.2.1 (iN a) = y.2.2.1 (iN b))
        (ifP (0 ≤ n.toInt ∧ 0 ≤ i.toInt ∧ i.toInt + n.toInt ≤ (y.2.2.2.1 (iN a)).toInt ∧ 0 ≤ j.toInt ∧ j.toInt + n.toInt ≤ (y.2.2.2.1 (iN b)).toInt)
          (v = n ∧ y' = (va_up y.1 (iN b) (va_cpy (y.1 (iN a)) (y.1 (iN b)) (iN i) (iN j) (iN n)), y.2.1, y.2.2.1, y.2.2.2.1, nI 0))
          (v = -1000010 - nI 2 ∧ y' = (y.1, y.2.1, y.2.2.1, y.2.2.2.1, nI 2)))
        (v = -1000010 - nI 5 ∧ y' = (y.1, y.2.1, y.2.2.1, y.2.2.2.1, nI 5))))
    (v = -1000001 ∧ y' = y)
noncomputable def NxDrop (r : Int32) (y : RWT) (v : Int32) (y' : RWT) : Prop :=
  ifP (0 ≤ r.toInt ∧ r.toInt < 8)
    (ifP (y.2.1 (iN r) = nI 0) (v = -1000010 - nI 1 ∧ y' = (y.1, y.2.1, y.2.2.1, y.2.2.2.1, nI 1))
      (v = y.2.2.2.1 (iN r) ∧ y' = (y.1, va_up y.2.1 (iN r) (nI 0), y.2.2.1, y.2.2.2.1, nI 0)))
    (v = -1000001 ∧ y' = y)
set_option maxRecDepth 20000 in
set_option maxHeartbeats 4000000 in
theorem c_x_row (E : EG) (a : Nat → Nat) (fn fd : Int32) (it : Nat → FN) (th ln sz t : FN) (S : Nat) (tI rI : FN) (pF : Nat → FN) (pI se sn be so lo he n1 n2 n3 : FN) (R K G : Nat) (iF : Nat → Nat → FN) (iR iK iG : Nat → Nat) (iu ig kp : FN) (h x : Nat) (uI : FN) (cF : Nat → FN) (cI : FN) (cg : Nat) (fi sr : FN) (s : TRC) (r0 l0 n0 : Int32)  : Ctr E mX7_row (2, 0, 0) [.ref (a 0), .int r0, .int l0, .int n0] (wX E a fn fd it th ln sz t S tI rI pF pI se sn be so lo he n1 n2 n3 R K G iF iR iK iG iu ig kp h x uI cF cI cg fi sr s) (fun v w => ∃ (it' : Nat → FN) (th' ln' sz' : FN) (fd' v' : Int32), v = some (.int v') ∧ w = wX E a fn fd' it' th' ln' sz' t S tI rI pF pI se sn be so lo he n1 n2 n3 R K G iF iR iK iG iu ig kp h x uI cF cI cg fi sr s ∧ NxRow r0 l0 n0 (it, th, ln, sz, fd) v' (it', th', ln', sz', fd')) := by
  refine Ctr.of (by decide) (Nat.le_of_ble_eq_true rfl) ?_
  intro Z hO hn C
  have hlen : zn Z ≤ 79 := by rw [hn]; exact Nat.le_of_ble_eq_true rfl
  refine mr_iload_n C 1 dX7_row_0 rfl rfl ?_
  refine mr_callS C (c_isRow E r0) [] 4 dX7_row_1 rfl mk_X7_isRow ms_X7_isRow ml_X7_66 rfl rfl rfl rfl (Nat.le_of_ble_eq_true rfl) (by decide) (by decide) (by decide) (fun r w1 hpost => ?_)
  obtain ⟨rfl, rfl⟩ := hpost
  refine mr_w (ws' := wX E a fn fd it th ln sz t S tI rI pF pI se sn be so lo he n1 n2 n3 R K G iF iR iK iG iu ig kp h x uI cF cI cg fi sr s) rfl ?_
  refine mr_ifeq C 22 7 dX7_row_4 (by decide) rfl (fun c_4 => ?_) (fun c_4 => ?_)
  · rw [bI_eq] at c_4
    refine mr_ldc C 24 dX7_row_22 rfl kc_X7_70 ?_
    refine mr_iret C dX7_row_24 rfl rfl (by decide) (by decide) hlen ?_
    rw [hO]
    exact ⟨_, _, _, _, _, _, rfl, rfl, (ifP_f (by omega)).mpr ⟨rfl, rfl⟩⟩
  · rw [← Ne, bI_ne] at c_4
    refine mr_iload_n C 8 dX7_row_7 rfl rfl ?_
    refine mr_iflt C 22 11 dX7_row_8 (by decide) rfl (fun c_8 => ?_) (fun c_8 => ?_)
    · rw [tI_lt0] at c_8
      refine mr_ldc C 24 dX7_row_22 rfl kc_X7_70 ?_
      refine mr_iret C dX7_row_24 rfl rfl (by decide) (by decide) hlen ?_
      rw [hO]
      exact ⟨_, _, _, _, _, _, rfl, rfl, (ifP_f (by omega)).mpr ⟨rfl, rfl⟩⟩
    · rw [tI_lt0] at c_8
      refine mr_iload_n C 12 dX7_row_11 rfl rfl ?_
      refine mr_iconst C (nI 3) 13 dX7_row_12 rfl rfl ?_
      refine mr_icmpge C 22 16 dX7_row_13 (by decide) rfl (fun c_13 => ?_) (fun c_13 => ?_)
      · rw [tI_ge (by omega)] at c_13
        refine mr_ldc C 24 dX7_row_22 rfl kc_X7_70 ?_
        refine mr_iret C dX7_row_24 rfl rfl (by decide) (by decide) hlen ?_
        rw [hO]
        exact ⟨_, _, _, _, _, _, rfl, rfl, (ifP_f (by omega)).mpr ⟨rfl, rfl⟩⟩
      · rw [tI_ge (by omega)] at c_13
        refine mr_iload_n C 17 dX7_row_16 rfl rfl ?_
        refine mr_bipush C (nI 40) 19 dX7_row_17 rfl rfl ?_
        refine mr_icmple C 25 22 dX7_row_19 (by decide) rfl (fun c_19 => ?_) (fun c_19 => ?_)
        · rw [tI_le (by omega)] at c_19
          refine mr_iload_n C 26 dX7_row_25 rfl rfl ?_
          refine mr_ifge C 35 29 dX7_row_26 (by decide) rfl (fun c_26 => ?_) (fun c_26 => ?_)
          · rw [tI_ge0] at c_26
            obtain ⟨r, hr, rfl⟩ := tI_of (x := r0) (n := 8) (by omega) (by omega)
            have er : (nI r).toInt = (r : Int) := tI_n (by omega)
            have ir : iN (nI r) = r := iN_n (by omega)
            obtain ⟨n, hn9, rfl⟩ := tI_of (x := n0) (n := 41) (by omega) (by omega)
            have en : (nI n).toInt = (n : Int) := tI_n (by omega)
            have in_ : iN (nI n) = n := iN_n (by omega)
            refine mr_aload_n C 36 dX7_row_35 rfl rfl ?_
            refine mr_get C 0 39 dX7_row_36 rfl fl_X7_11 rfl rfl ?_
            refine mr_iload_n C 40 dX7_row_39 rfl rfl ?_
            refine mr_aald C 1 r 1 (a (2 + 2 * r)) 41 dX7_row_40 rfl rfl rfl rfl hr (by decide) (if_pos hr) ?_
            refine mr_iload_n C 42 dX7_row_41 rfl rfl ?_
            refine mr_iload_n C 43 dX7_row_42 rfl rfl ?_
            refine mr_callV C (c_make E a (2 + 2 * r) (it r) (th r) (ln r) (sz r) l0 n (by omega)) (cutR r) (2 + 2 * r) 5 46 dX7_row_43 rfl mk_X5_make mi_X5_make ml_X7_75 rfl rfl rfl (wX_cutR E a fn fd it th ln sz t S tI rI pF pI se sn be so lo he n1 n2 n3 R K G iF iR iK iG iu ig kp h x uI cF cI cg fi sr s r hr) (cutR_nd r) (Nat.le_of_ble_eq_true rfl) (by decide) (by decide) (by decide) (wX_row E a fn fd it th ln sz t S tI rI pF pI se sn be so lo he n1 n2 n3 R K G iF iR iK iG iu ig kp h x uI cF cI cg fi sr s r hr).1 rfl (fun r_ w1 hpost => ?_)
            obtain ⟨f, rfl, rfl, hf⟩ := hpost
            refine mr_w (wX_setR E a fn fd it th ln sz t S tI rI pF pI se sn be so lo he n1 n2 n3 R K G iF iR iK iG iu ig kp h x uI cF cI cg fi sr s r hr f (nI 1) l0 (nI n)) ?_
            refine mr_aload_n C 47 dX7_row_46 rfl rfl ?_
            refine mr_iconst C (nI 0) 48 dX7_row_47 rfl rfl ?_
            refine mr_put C 0 51 dX7_row_48 rfl fs_X7_79 rfl rfl rfl (Nat.le_of_ble_eq_true rfl) ?_
            refine mr_w (ws' := wX E a fn (nI 0) (va_up it r f) (va_up th r (nI 1)) (va_up ln r l0) (va_up sz r (nI n)) t S tI rI pF pI se sn be so lo he n1 n2 n3 R K G iF iR iK iG iu ig kp h x uI cF cI cg fi sr s) rfl ?_
            refine mr_iload_n C 52 dX7_row_51 rfl rfl ?_
            refine mr_iret C dX7_row_52 rfl rfl (by decide) (by decide) hlen ?_
            rw [hO]
            have e9 : va_up th r (nI 1) = va_up th (iN (nI r)) (nI 1) := by rw [ir]
            exact ⟨_, _, _, _, _, _, rfl, rfl, (ifP_t (by omega)).mpr ((ifP_f (by omega)).mpr ⟨f, rfl, by rw [in_]; exact hf, by rw [ir]⟩)⟩
          · rw [tI_ge0] at c_26
            refine mr_aload_n C 30 dX7_row_29 rfl rfl ?_
            refine mr_iconst C (nI 4) 31 dX7_row_30 rfl rfl ?_
            refine mr_callV C (c_found E a fn fd 4) [0] 0 7 34 dX7_row_31 rfl mk_X7_found mi_X7_found ml_X7_71 rfl rfl rfl (jn_cut [1, 1, 16, 2, 1, 10, 10, 1, 10, 10, 2, 1, 10, 2, 2] [0] [w0 E a fn fd, [(a 1, .inl (E.1.1 101, 8, .inr (.inr (.inr (.inr (rwA a))))))], wRS E a it th ln sz, wT E a 18 t (nI S) (tI 0) (tI 1) (tI 2) (tI 3), [(a 20, .inr (4, [.ref (a 18), .ref (a 21), .int (rI 0), .int (rI 1), .int (rI 2)]))], wH E a 21 (pF 0) (pF 1) (pF 2) (pF 3) (pF 4) (pF 5) (pF 6) (pF 7) (pF 8) (pI 0) (pI 1) (pI 2) (pI 3) (pI 4), wH E a 31 se sn be so lo he n1 n2 n3 (nI R) (nI K) (nI G) (nI 0) (nI 0), [(a 41, .inl (E.1.1 102, 2, .inr (.inr (.inr (.inr (imA a))))))], wH E a 42 (iF 0 0) (iF 0 1) (iF 0 2) (iF 0 3) (iF 0 4) (iF 0 5) (iF 0 6) (iF 0 7) (iF 0 8) (nI (iR 0)) (nI (iK 0)) (nI (iG 0)) (iu 0) (ig 0), wH E a 52 (iF 1 0) (iF 1 1) (iF 1 2) (iF 1 3) (iF 1 4) (iF 1 5) (iF 1 6) (iF 1 7) (iF 1 8) (nI (iR 1)) (nI (iK 1)) (nI (iG 1)) (iu 1) (ig 1), wA E a 62 kp (nI h) (nI x), wF E a 64 31 65 75 (uI 0) (uI 1) (uI 2), wH E a 65 (cF 0) (cF 1) (cF 2) (cF 3) (cF 4) (cF 5) (cF 6) (cF 7) (cF 8) (cI 0) (cI 1) (cI 2) (cI 3) (nI cg), [(a 75, iA E 5 fi), (a 76, iA E 5 sr)], wQ E a 77 31 s] [w0 E a fn fd] rfl (by decide) rfl rfl) rfl (Nat.le_of_ble_eq_true rfl) (by decide) (by decide) (by decide) rfl rfl (fun r w1 hpost => ?_)
            obtain ⟨rfl, rfl⟩ := hpost
            refine mr_w (ws' := wX E a fn (nI 4) it th ln sz t S tI rI pF pI se sn be so lo he n1 n2 n3 R K G iF iR iK iG iu ig kp h x uI cF cI cg fi sr s) (jn_put [1, 1, 16, 2, 1, 10, 10, 1, 10, 10, 2, 1, 10, 2, 2] [0] [w0 E a fn fd, [(a 1, .inl (E.1.1 101, 8, .inr (.inr (.inr (.inr (rwA a))))))], wRS E a it th ln sz, wT E a 18 t (nI S) (tI 0) (tI 1) (tI 2) (tI 3), [(a 20, .inr (4, [.ref (a 18), .ref (a 21), .int (rI 0), .int (rI 1), .int (rI 2)]))], wH E a 21 (pF 0) (pF 1) (pF 2) (pF 3) (pF 4) (pF 5) (pF 6) (pF 7) (pF 8) (pI 0) (pI 1) (pI 2) (pI 3) (pI 4), wH E a 31 se sn be so lo he n1 n2 n3 (nI R) (nI K) (nI G) (nI 0) (nI 0), [(a 41, .inl (E.1.1 102, 2, .inr (.inr (.inr (.inr (imA a))))))], wH E a 42 (iF 0 0) (iF 0 1) (iF 0 2) (iF 0 3) (iF 0 4) (iF 0 5) (iF 0 6) (iF 0 7) (iF 0 8) (nI (iR 0)) (nI (iK 0)) (nI (iG 0)) (iu 0) (ig 0), wH E a 52 (iF 1 0) (iF 1 1) (iF 1 2) (iF 1 3) (iF 1 4) (iF 1 5) (iF 1 6) (iF 1 7) (iF 1 8) (nI (iR 1)) (nI (iK 1)) (nI (iG 1)) (iu 1) (ig 1), wA E a 62 kp (nI h) (nI x), wF E a 64 31 65 75 (uI 0) (uI 1) (uI 2), wH E a 65 (cF 0) (cF 1) (cF 2) (cF 3) (cF 4) (cF 5) (cF 6) (cF 7) (cF 8) (cI 0) (cI 1) (cI 2) (cI 3) (nI cg), [(a 75, iA E 5 fi), (a 76, iA E 5 sr)], wQ E a 77 31 s] [w0 E a fn (nI 4)] [w0 E a fn (nI 4), [(a 1, .inl (E.1.1 101, 8, .inr (.inr (.inr (.inr (rwA a))))))], wRS E a it th ln sz, wT E a 18 t (nI S) (tI 0) (tI 1) (tI 2) (tI 3), [(a 20, .inr (4, [.ref (a 18), .ref (a 21), .int (rI 0), .int (rI 1), .int (rI 2)]))], wH E a 21 (pF 0) (pF 1) (pF 2) (pF 3) (pF 4) (pF 5) (pF 6) (pF 7) (pF 8) (pI 0) (pI 1) (pI 2) (pI 3) (pI 4), wH E a 31 se sn be so lo he n1 n2 n3 (nI R) (nI K) (nI G) (nI 0) (nI 0), [(a 41, .inl (E.1.1 102, 2, .inr (.inr (.inr (.inr (imA a))))))], wH E a 42 (iF 0 0) (iF 0 1) (iF 0 2) (iF 0 3) (iF 0 4) (iF 0 5) (iF 0 6) (iF 0 7) (iF 0 8) (nI (iR 0)) (nI (iK 0)) (nI (iG 0)) (iu 0) (ig 0), wH E a 52 (iF 1 0) (iF 1 1) (iF 1 2) (iF 1 3) (iF 1 4) (iF 1 5) (iF 1 6) (iF 1 7) (iF 1 8) (nI (iR 1)) (nI (iK 1)) (nI (iG 1)) (iu 1) (ig 1), wA E a 62 kp (nI h) (nI x), wF E a 64 31 65 75 (uI 0) (uI 1) (uI 2), wH E a 65 (cF 0) (cF 1) (cF 2) (cF 3) (cF 4) (cF 5) (cF 6) (cF 7) (cF 8) (cI 0) (cI 1) (cI 2) (cI 3) (nI cg), [(a 75, iA E 5 fi), (a 76, iA E 5 sr)], wQ E a 77 31 s] rfl (by decide) rfl rfl rfl) ?_
            refine mr_iret C dX7_row_34 rfl rfl (by decide) (by decide) hlen ?_
            rw [hO]
            exact ⟨_, _, _, _, _, _, rfl, rfl, (ifP_t (by omega)).mpr ((ifP_t (by omega)).mpr ⟨rfl, rfl⟩)⟩
        · rw [tI_le (by omega)] at c_19
          refine mr_ldc C 24 dX7_row_22 rfl kc_X7_70 ?_
          refine mr_iret C dX7_row_24 rfl rfl (by decide) (by decide) hlen ?_
          rw [hO]
          exact ⟨_, _, _, _, _, _, rfl, rfl, (ifP_f (by omega)).mpr ⟨rfl, rfl⟩⟩

set_option maxRecDepth 20000 in
set_option maxHeartbeats 4000000 in
theorem c_x_set (E : EG) (a : Nat → Nat) (fn fd : Int32) (it : Nat → FN) (th ln sz t : FN) (S : Nat) (tI rI : FN) (pF : Nat → FN) (pI se sn be so lo he n1 n2 n3 : FN) (R K G : Nat) (iF : Nat → Nat → FN) (iR iK iG : Nat → Nat) (iu ig kp : FN) (h x : Nat) (uI : FN) (cF : Nat → FN) (cI : FN) (cg : Nat) (fi sr : FN) (s : TRC) (r0 i0 z0 : Int32) (hri : RI th sz) : Ctr E mX7_set (2, 0, 0) [.ref (a 0), .int r0, .int i0, .int z0] (wX E a fn fd it th ln sz t S tI rI pF pI se sn be so lo he n1 n2 n3 R K G iF iR iK iG iu ig kp h x uI cF cI cg fi sr s) (fun v w => ∃ (it' : Nat → FN) (th' ln' sz' : FN) (fd' v' : Int32), v = some (.int v') ∧ w = wX E a fn fd' it' th' ln' sz' t S tI rI pF pI se sn be so lo he n1 n2 n3 R K G iF iR iK iG iu ig kp h x uI cF cI cg fi sr s ∧ NxSet r0 i0 z0 (it, th, ln, sz, fd) v' (it', th', ln', sz', fd')) := by
  refine Ctr.of (by decide) (Nat.le_of_ble_eq_true rfl) ?_
  intro Z hO hn C
  have hlen : zn Z ≤ 79 := by rw [hn]; exact Nat.le_of_ble_eq_true rfl
  refine mr_iload_n C 1 dX7_set_0 rfl rfl ?_
  refine mr_callS C (c_isRow E r0) [] 4 dX7_set_1 rfl mk_X7_isRow ms_X7_isRow ml_X7_66 rfl rfl rfl rfl (Nat.le_of_ble_eq_true rfl) (by decide) (by decide) (by decide) (fun r w1 hpost => ?_)
  obtain ⟨rfl, rfl⟩ := hpost
  refine mr_w (ws' := wX E a fn fd it th ln sz t S tI rI pF pI se sn be so lo he n1 n2 n3 R K G iF iR iK iG iu ig kp h x uI cF cI cg fi sr s) rfl ?_
  refine mr_ifne C 10 7 dX7_set_4 (by decide) rfl (fun c_4 => ?_) (fun c_4 => ?_)
  · rw [bI_ne] at c_4
    obtain ⟨r, hr, rfl⟩ := tI_of (x := r0) (n := 8) (by omega) (by omega)
    have ir : iN (nI r) = r := iN_n (by omega)
    have er : (nI r).toInt = (r : Int) := tI_n (by omega)
    refine mr_aload_n C 11 dX7_set_10 rfl rfl ?_
    refine mr_get C 0 14 dX7_set_11 rfl fl_X7_11 rfl rfl ?_
    refine mr_iload_n C 15 dX7_set_14 rfl rfl ?_
    refine mr_aald C 1 r 1 (a (2 + 2 * r)) 16 dX7_set_15 rfl rfl rfl rfl hr (by decide) (if_pos hr) ?_
    refine mr_astore C 18 dX7_set_16 rfl (by decide) ?_
    refine mr_aload C 20 dX7_set_18 rfl rfl ?_
    refine mr_get C (2 + 2 * r) 23 dX7_set_20 rfl fl_X7_83 (wX_row E a fn fd it th ln sz t S tI rI pF pI se sn be so lo he n1 n2 n3 R K G iF iR iK iG iu ig kp h x uI cF cI cg fi sr s r hr).1 rfl ?_
    refine mr_ifne C 32 26 dX7_set_23 (by decide) rfl (fun c_23 => ?_) (fun c_23 => ?_)
    · have hth : th r ≠ nI 0 := c_23
      obtain ⟨n, hn9, hsz⟩ : ∃ n, n ≤ 40 ∧ sz r = nI n := (hri r hr).elim (fun h => absurd h hth) (fun h => h.2)
      have en : (nI n).toInt = (n : Int) := tI_n (by omega)
      refine mr_aload C 34 dX7_set_32 rfl rfl ?_
      refine mr_iload_n C 35 dX7_set_34 rfl rfl ?_
      refine mr_iconst C (nI 1) 36 dX7_set_35 rfl rfl ?_
      refine mr_callV C ((show Ctr E mX5_holds (1, 0, 0) [.ref (a (2 + 2 * r)), .int i0, .int (nI 1)] (wR E a (2 + 2 * r) (it r) (th r) (ln r) (sz r)) (fun v w => v = some (.int (bI (0 ≤ (nI 1 : Int32).toInt ∧ 0 ≤ (i0 : Int32).toInt ∧ (i0 : Int32).toInt + (nI 1 : Int32).toInt ≤ (n : Nat)))) ∧ w = wR E a (2 + 2 * r) (it r) (th r) (ln r) (sz r)) by rw [hsz]; exact c_holdsI E a (2 + 2 * r) (it r) (th r) (ln r) i0 (nI 1) n (by omega))) (cutR r) (2 + 2 * r) 5 39 dX7_set_36 rfl mk_X5_holds mi_X5_holds ml_X7_87 rfl rfl rfl (wX_cutR E a fn fd it th ln sz t S tI rI pF pI se sn be so lo he n1 n2 n3 R K G iF iR iK iG iu ig kp h x uI cF cI cg fi sr s r hr) (cutR_nd r) (Nat.le_of_ble_eq_true rfl) (by decide) (by decide) (by decide) (wX_row E a fn fd it th ln sz t S tI rI pF pI se sn be so lo he n1 n2 n3 R K G iF iR iK iG iu ig kp h x uI cF cI cg fi sr s r hr).1 rfl (fun r_ w1 hpost => ?_)
      obtain ⟨rfl, rfl⟩ := hpost
      refine mr_w (wput_id (wX_cutR E a fn fd it th ln sz t S tI rI pF pI se sn be so lo he n1 n2 n3 R K G iF iR iK iG iu ig kp h x uI cF cI cg fi sr s r hr)) ?_
      refine mr_ifne C 48 42 dX7_set_39 (by decide) rfl (fun c_39 => ?_) (fun c_39 => ?_)
      · rw [bI_ne] at c_39
        have e1 : (nI 1).toInt = 1 := rfl
        obtain ⟨i, hi9, rfl⟩ := tI_of (x := i0) (n := 40) (by omega) (by omega)
        have ei : (nI i).toInt = (i : Int) := tI_n (by omega)
        have ii : iN (nI i) = i := iN_n (by omega)
        refine mr_aload_n C 49 dX7_set_48 rfl rfl ?_
        refine mr_iconst C (nI 0) 50 dX7_set_49 rfl rfl ?_
        refine mr_put C 0 53 dX7_set_50 rfl fs_X7_79 rfl rfl rfl (Nat.le_of_ble_eq_true rfl) ?_
        refine mr_w (ws' := wX E a fn (nI 0) it th ln sz t S tI rI pF pI se sn be so lo he n1 n2 n3 R K G iF iR iK iG iu ig kp h x uI cF cI cg fi sr s) rfl ?_
        refine mr_aload C 55 dX7_set_53 rfl rfl ?_
        refine mr_iload_n C 56 dX7_set_55 rfl rfl ?_
        refine mr_iload_n C 57 dX7_set_56 rfl rfl ?_
        refine mr_callV C (c_put E a (2 + 2 * r) (it r) (th r) (ln r) (sz r) z0 i (by omega)) (cutR r) (2 + 2 * r) 5 60 dX7_set_57 rfl mk_X5_put mi_X5_put ml_X7_91 rfl rfl rfl (wX_cutR E a fn ((nI 0)) it th ln sz t S tI rI pF pI se sn be so lo he n1 n2 n3 R K G iF iR iK iG iu ig kp h x uI cF cI cg fi sr s r hr) (cutR_nd r) (Nat.le_of_ble_eq_true rfl) (by decide) (by decide) (by decide) (wX_row E a fn ((nI 0)) it th ln sz t S tI rI pF pI se sn be so lo he n1 n2 n3 R K G iF iR iK iG iu ig kp h x uI cF cI cg fi sr s r hr).1 rfl (fun r_ w1 hpost => ?_)
        obtain ⟨rfl, rfl⟩ := hpost
        refine mr_w (wX_setR E a fn ((nI 0)) it th ln sz t S tI rI pF pI se sn be so lo he n1 n2 n3 R K G iF iR iK iG iu ig kp h x uI cF cI cg fi sr s r hr (upd (it r) i (kpS (ln r) z0)) (th r) (ln r) (sz r)) ?_
        refine mr_iret C dX7_set_60 rfl rfl (by decide) (by decide) hlen ?_
        rw [hO]
        exact ⟨_, _, _, _, _, _, rfl, rfl, (ifP_t (by omega)).mpr ((ifP_f (by rw [ir]; exact hth)).mpr ((ifP_t (by rw [ir]; show _ ∧ _ < (sz r).toInt; rw [hsz]; omega)).mpr ⟨by rw [ir], by rw [ir, ii, vu_id, vu_id, vu_id]⟩))⟩
      · rw [bI_eq] at c_39
        refine mr_aload_n C 43 dX7_set_42 rfl rfl ?_
        refine mr_iconst C (nI 2) 44 dX7_set_43 rfl rfl ?_
        refine mr_callV C (c_found E a fn fd 2) [0] 0 7 47 dX7_set_44 rfl mk_X7_found mi_X7_found ml_X7_71 rfl rfl rfl (jn_cut [1, 1, 16, 2, 1, 10, 10, 1, 10, 10, 2, 1, 10, 2, 2] [0] [w0 E a fn fd, [(a 1, .inl (E.1.1 101, 8, .inr (.inr (.inr (.inr (rwA a))))))], wRS E a it th ln sz, wT E a 18 t (nI S) (tI 0) (tI 1) (tI 2) (tI 3), [(a 20, .inr (4, [.ref (a 18), .ref (a 21), .int (rI 0), .int (rI 1), .int (rI 2)]))], wH E a 21 (pF 0) (pF 1) (pF 2) (pF 3) (pF 4) (pF 5) (pF 6) (pF 7) (pF 8) (pI 0) (pI 1) (pI 2) (pI 3) (pI 4), wH E a 31 se sn be so lo he n1 n2 n3 (nI R) (nI K) (nI G) (nI 0) (nI 0), [(a 41, .inl (E.1.1 102, 2, .inr (.inr (.inr (.inr (imA a))))))], wH E a 42 (iF 0 0) (iF 0 1) (iF 0 2) (iF 0 3) (iF 0 4) (iF 0 5) (iF 0 6) (iF 0 7) (iF 0 8) (nI (iR 0)) (nI (iK 0)) (nI (iG 0)) (iu 0) (ig 0), wH E a 52 (iF 1 0) (iF 1 1) (iF 1 2) (iF 1 3) (iF 1 4) (iF 1 5) (iF 1 6) (iF 1 7) (iF 1 8) (nI (iR 1)) (nI (iK 1)) (nI (iG 1)) (iu 1) (ig 1), wA E a 62 kp (nI h) (nI x), wF E a 64 31 65 75 (uI 0) (uI 1) (uI 2), wH E a 65 (cF 0) (cF 1) (cF 2) (cF 3) (cF 4) (cF 5) (cF 6) (cF 7) (cF 8) (cI 0) (cI 1) (cI 2) (cI 3) (nI cg), [(a 75, iA E 5 fi), (a 76, iA E 5 sr)], wQ E a 77 31 s] [w0 E a fn fd] rfl (by decide) rfl rfl) rfl (Nat.le_of_ble_eq_true rfl) (by decide) (by decide) (by decide) rfl rfl (fun r w1 hpost => ?_)
        obtain ⟨rfl, rfl⟩ := hpost
        refine mr_w (ws' := wX E a fn (nI 2) it th ln sz t S tI rI pF pI se sn be so lo he n1 n2 n3 R K G iF iR iK iG iu ig kp h x uI cF cI cg fi sr s) (jn_put [1, 1, 16, 2, 1, 10, 10, 1, 10, 10, 2, 1, 10, 2, 2] [0] [w0 E a fn fd, [(a 1, .inl (E.1.1 101, 8, .inr (.inr (.inr (.inr (rwA a))))))], wRS E a it th ln sz, wT E a 18 t (nI S) (tI 0) (tI 1) (tI 2) (tI 3), [(a 20, .inr (4, [.ref (a 18), .ref (a 21), .int (rI 0), .int (rI 1), .int (rI 2)]))], wH E a 21 (pF 0) (pF 1) (pF 2) (pF 3) (pF 4) (pF 5) (pF 6) (pF 7) (pF 8) (pI 0) (pI 1) (pI 2) (pI 3) (pI 4), wH E a 31 se sn be so lo he n1 n2 n3 (nI R) (nI K) (nI G) (nI 0) (nI 0), [(a 41, .inl (E.1.1 102, 2, .inr (.inr (.inr (.inr (imA a))))))], wH E a 42 (iF 0 0) (iF 0 1) (iF 0 2) (iF 0 3) (iF 0 4) (iF 0 5) (iF 0 6) (iF 0 7) (iF 0 8) (nI (iR 0)) (nI (iK 0)) (nI (iG 0)) (iu 0) (ig 0), wH E a 52 (iF 1 0) (iF 1 1) (iF 1 2) (iF 1 3) (iF 1 4) (iF 1 5) (iF 1 6) (iF 1 7) (iF 1 8) (nI (iR 1)) (nI (iK 1)) (nI (iG 1)) (iu 1) (ig 1), wA E a 62 kp (nI h) (nI x), wF E a 64 31 65 75 (uI 0) (uI 1) (uI 2), wH E a 65 (cF 0) (cF 1) (cF 2) (cF 3) (cF 4) (cF 5) (cF 6) (cF 7) (cF 8) (cI 0) (cI 1) (cI 2) (cI 3) (nI cg), [(a 75, iA E 5 fi), (a 76, iA E 5 sr)], wQ E a 77 31 s] [w0 E a fn (nI 2)] [w0 E a fn (nI 2), [(a 1, .inl (E.1.1 101, 8, .inr (.inr (.inr (.inr (rwA a))))))], wRS E a it th ln sz, wT E a 18 t (nI S) (tI 0) (tI 1) (tI 2) (tI 3), [(a 20, .inr (4, [.ref (a 18), .ref (a 21), .int (rI 0), .int (rI 1), .int (rI 2)]))], wH E a 21 (pF 0) (pF 1) (pF 2) (pF 3) (pF 4) (pF 5) (pF 6) (pF 7) (pF 8) (pI 0) (pI 1) (pI 2) (pI 3) (pI 4), wH E a 31 se sn be so lo he n1 n2 n3 (nI R) (nI K) (nI G) (nI 0) (nI 0), [(a 41, .inl (E.1.1 102, 2, .inr (.inr (.inr (.inr (imA a))))))], wH E a 42 (iF 0 0) (iF 0 1) (iF 0 2) (iF 0 3) (iF 0 4) (iF 0 5) (iF 0 6) (iF 0 7) (iF 0 8) (nI (iR 0)) (nI (iK 0)) (nI (iG 0)) (iu 0) (ig 0), wH E a 52 (iF 1 0) (iF 1 1) (iF 1 2) (iF 1 3) (iF 1 4) (iF 1 5) (iF 1 6) (iF 1 7) (iF 1 8) (nI (iR 1)) (nI (iK 1)) (nI (iG 1)) (iu 1) (ig 1), wA E a 62 kp (nI h) (nI x), wF E a 64 31 65 75 (uI 0) (uI 1) (uI 2), wH E a 65 (cF 0) (cF 1) (cF 2) (cF 3) (cF 4) (cF 5) (cF 6) (cF 7) (cF 8) (cI 0) (cI 1) (cI 2) (cI 3) (nI cg), [(a 75, iA E 5 fi), (a 76, iA E 5 sr)], wQ E a 77 31 s] rfl (by decide) rfl rfl rfl) ?_
        refine mr_iret C dX7_set_47 rfl rfl (by decide) (by decide) hlen ?_
        rw [hO]
        have e1 : (nI 1).toInt = 1 := rfl
        exact ⟨_, _, _, _, _, _, rfl, rfl, (ifP_t (by omega)).mpr ((ifP_f (by rw [ir]; exact hth)).mpr ((ifP_f (by rw [ir]; show ¬ (_ ∧ _ < (sz r).toInt); rw [hsz]; omega)).mpr ⟨rfl, rfl⟩))⟩
    · refine mr_aload_n C 27 dX7_set_26 rfl rfl ?_
      refine mr_iconst C (nI 1) 28 dX7_set_27 rfl rfl ?_
      refine mr_callV C (c_found E a fn fd 1) [0] 0 7 31 dX7_set_28 rfl mk_X7_found mi_X7_found ml_X7_71 rfl rfl rfl (jn_cut [1, 1, 16, 2, 1, 10, 10, 1, 10, 10, 2, 1, 10, 2, 2] [0] [w0 E a fn fd, [(a 1, .inl (E.1.1 101, 8, .inr (.inr (.inr (.inr (rwA a))))))], wRS E a it th ln sz, wT E a 18 t (nI S) (tI 0) (tI 1) (tI 2) (tI 3), [(a 20, .inr (4, [.ref (a 18), .ref (a 21), .int (rI 0), .int (rI 1), .int (rI 2)]))], wH E a 21 (pF 0) (pF 1) (pF 2) (pF 3) (pF 4) (pF 5) (pF 6) (pF 7) (pF 8) (pI 0) (pI 1) (pI 2) (pI 3) (pI 4), wH E a 31 se sn be so lo he n1 n2 n3 (nI R) (nI K) (nI G) (nI 0) (nI 0), [(a 41, .inl (E.1.1 102, 2, .inr (.inr (.inr (.inr (imA a))))))], wH E a 42 (iF 0 0) (iF 0 1) (iF 0 2) (iF 0 3) (iF 0 4) (iF 0 5) (iF 0 6) (iF 0 7) (iF 0 8) (nI (iR 0)) (nI (iK 0)) (nI (iG 0)) (iu 0) (ig 0), wH E a 52 (iF 1 0) (iF 1 1) (iF 1 2) (iF 1 3) (iF 1 4) (iF 1 5) (iF 1 6) (iF 1 7) (iF 1 8) (nI (iR 1)) (nI (iK 1)) (nI (iG 1)) (iu 1) (ig 1), wA E a 62 kp (nI h) (nI x), wF E a 64 31 65 75 (uI 0) (uI 1) (uI 2), wH E a 65 (cF 0) (cF 1) (cF 2) (cF 3) (cF 4) (cF 5) (cF 6) (cF 7) (cF 8) (cI 0) (cI 1) (cI 2) (cI 3) (nI cg), [(a 75, iA E 5 fi), (a 76, iA E 5 sr)], wQ E a 77 31 s] [w0 E a fn fd] rfl (by decide) rfl rfl) rfl (Nat.le_of_ble_eq_true rfl) (by decide) (by decide) (by decide) rfl rfl (fun r w1 hpost => ?_)
      obtain ⟨rfl, rfl⟩ := hpost
      refine mr_w (ws' := wX E a fn (nI 1) it th ln sz t S tI rI pF pI se sn be so lo he n1 n2 n3 R K G iF iR iK iG iu ig kp h x uI cF cI cg fi sr s) (jn_put [1, 1, 16, 2, 1, 10, 10, 1, 10, 10, 2, 1, 10, 2, 2] [0] [w0 E a fn fd, [(a 1, .inl (E.1.1 101, 8, .inr (.inr (.inr (.inr (rwA a))))))], wRS E a it th ln sz, wT E a 18 t (nI S) (tI 0) (tI 1) (tI 2) (tI 3), [(a 20, .inr (4, [.ref (a 18), .ref (a 21), .int (rI 0), .int (rI 1), .int (rI 2)]))], wH E a 21 (pF 0) (pF 1) (pF 2) (pF 3) (pF 4) (pF 5) (pF 6) (pF 7) (pF 8) (pI 0) (pI 1) (pI 2) (pI 3) (pI 4), wH E a 31 se sn be so lo he n1 n2 n3 (nI R) (nI K) (nI G) (nI 0) (nI 0), [(a 41, .inl (E.1.1 102, 2, .inr (.inr (.inr (.inr (imA a))))))], wH E a 42 (iF 0 0) (iF 0 1) (iF 0 2) (iF 0 3) (iF 0 4) (iF 0 5) (iF 0 6) (iF 0 7) (iF 0 8) (nI (iR 0)) (nI (iK 0)) (nI (iG 0)) (iu 0) (ig 0), wH E a 52 (iF 1 0) (iF 1 1) (iF 1 2) (iF 1 3) (iF 1 4) (iF 1 5) (iF 1 6) (iF 1 7) (iF 1 8) (nI (iR 1)) (nI (iK 1)) (nI (iG 1)) (iu 1) (ig 1), wA E a 62 kp (nI h) (nI x), wF E a 64 31 65 75 (uI 0) (uI 1) (uI 2), wH E a 65 (cF 0) (cF 1) (cF 2) (cF 3) (cF 4) (cF 5) (cF 6) (cF 7) (cF 8) (cI 0) (cI 1) (cI 2) (cI 3) (nI cg), [(a 75, iA E 5 fi), (a 76, iA E 5 sr)], wQ E a 77 31 s] [w0 E a fn (nI 1)] [w0 E a fn (nI 1), [(a 1, .inl (E.1.1 101, 8, .inr (.inr (.inr (.inr (rwA a))))))], wRS E a it th ln sz, wT E a 18 t (nI S) (tI 0) (tI 1) (tI 2) (tI 3), [(a 20, .inr (4, [.ref (a 18), .ref (a 21), .int (rI 0), .int (rI 1), .int (rI 2)]))], wH E a 21 (pF 0) (pF 1) (pF 2) (pF 3) (pF 4) (pF 5) (pF 6) (pF 7) (pF 8) (pI 0) (pI 1) (pI 2) (pI 3) (pI 4), wH E a 31 se sn be so lo he n1 n2 n3 (nI R) (nI K) (nI G) (nI 0) (nI 0), [(a 41, .inl (E.1.1 102, 2, .inr (.inr (.inr (.inr (imA a))))))], wH E a 42 (iF 0 0) (iF 0 1) (iF 0 2) (iF 0 3) (iF 0 4) (iF 0 5) (iF 0 6) (iF 0 7) (iF 0 8) (nI (iR 0)) (nI (iK 0)) (nI (iG 0)) (iu 0) (ig 0), wH E a 52 (iF 1 0) (iF 1 1) (iF 1 2) (iF 1 3) (iF 1 4) (iF 1 5) (iF 1 6) (iF 1 7) (iF 1 8) (nI (iR 1)) (nI (iK 1)) (nI (iG 1)) (iu 1) (ig 1), wA E a 62 kp (nI h) (nI x), wF E a 64 31 65 75 (uI 0) (uI 1) (uI 2), wH E a 65 (cF 0) (cF 1) (cF 2) (cF 3) (cF 4) (cF 5) (cF 6) (cF 7) (cF 8) (cI 0) (cI 1) (cI 2) (cI 3) (nI cg), [(a 75, iA E 5 fi), (a 76, iA E 5 sr)], wQ E a 77 31 s] rfl (by decide) rfl rfl rfl) ?_
      refine mr_iret C dX7_set_31 rfl rfl (by decide) (by decide) hlen ?_
      rw [hO]
      exact ⟨_, _, _, _, _, _, rfl, rfl, (ifP_t (by omega)).mpr ((ifP_t (by rw [ir]; exact c_23)).mpr ⟨rfl, rfl⟩)⟩
  · rw [bI_eq] at c_4
    refine mr_ldc C 9 dX7_set_7 rfl kc_X7_70 ?_
    refine mr_iret C dX7_set_9 rfl rfl (by decide) (by decide) hlen ?_
    rw [hO]
    exact ⟨_, _, _, _, _, _, rfl, rfl, (ifP_f (by omega)).mpr ⟨rfl, rfl⟩⟩

set_option maxRecDepth 20000 in
set_option maxHeartbeats 4000000 in
theorem c_x_drop (E : EG) (a : Nat → Nat) (fn fd : Int32) (it : Nat → FN) (th ln sz t : FN) (S : Nat) (tI rI : FN) (pF : Nat → FN) (pI se sn be so lo he n1 n2 n3 : FN) (R K G : Nat) (iF : Nat → Nat → FN) (iR iK iG : Nat → Nat) (iu ig kp : FN) (h x : Nat) (uI : FN) (cF : Nat → FN) (cI : FN) (cg : Nat) (fi sr : FN) (s : TRC) (r0 : Int32)  : Ctr E mX7_drop (2, 0, 0) [.ref (a 0), .int r0] (wX E a fn fd it th ln sz t S tI rI pF pI se sn be so lo he n1 n2 n3 R K G iF iR iK iG iu ig kp h x uI cF cI cg fi sr s) (fun v w => ∃ (it' : Nat → FN) (th' ln' sz' : FN) (fd' v' : Int32), v = some (.int v') ∧ w = wX E a fn fd' it' th' ln' sz' t S tI rI pF pI se sn be so lo he n1 n2 n3 R K G iF iR iK iG iu ig kp h x uI cF cI cg fi sr s ∧ NxDrop r0 (it, th, ln, sz, fd) v' (it', th', ln', sz', fd')) := by
  refine Ctr.of (by decide) (Nat.le_of_ble_eq_true rfl) ?_
  intro Z hO hn C
  have hlen : zn Z ≤ 79 := by rw [hn]; exact Nat.le_of_ble_eq_true rfl
  refine mr_iload_n C 1 dX7_drop_0 rfl rfl ?_
  refine mr_callS C (c_isRow E r0) [] 4 dX7_drop_1 rfl mk_X7_isRow ms_X7_isRow ml_X7_66 rfl rfl rfl rfl (Nat.le_of_ble_eq_true rfl) (by decide) (by decide) (by decide) (fun r w1 hpost => ?_)
  obtain ⟨rfl, rfl⟩ := hpost
  refine mr_w (ws' := wX E a fn fd it th ln sz t S tI rI pF pI se sn be so lo he n1 n2 n3 R K G iF iR iK iG iu ig kp h x uI cF cI cg fi sr s) rfl ?_
  refine mr_ifne C 10 7 dX7_drop_4 (by decide) rfl (fun c_4 => ?_) (fun c_4 => ?_)
  · rw [bI_ne] at c_4
    obtain ⟨r, hr, rfl⟩ := tI_of (x := r0) (n := 8) (by omega) (by omega)
    have ir : iN (nI r) = r := iN_n (by omega)
    have er : (nI r).toInt = (r : Int) := tI_n (by omega)
    refine mr_aload_n C 11 dX7_drop_10 rfl rfl ?_
    refine mr_get C 0 14 dX7_drop_11 rfl fl_X7_11 rfl rfl ?_
    refine mr_iload_n C 15 dX7_drop_14 rfl rfl ?_
    refine mr_aald C 1 r 1 (a (2 + 2 * r)) 16 dX7_drop_15 rfl rfl rfl rfl hr (by decide) (if_pos hr) ?_
    refine mr_get C (2 + 2 * r) 19 dX7_drop_16 rfl fl_X7_83 (wX_row E a fn fd it th ln sz t S tI rI pF pI se sn be so lo he n1 n2 n3 R K G iF iR iK iG iu ig kp h x uI cF cI cg fi sr s r hr).1 rfl ?_
    refine mr_ifne C 28 22 dX7_drop_19 (by decide) rfl (fun c_19 => ?_) (fun c_19 => ?_)
    · refine mr_aload_n C 29 dX7_drop_28 rfl rfl ?_
      refine mr_get C 0 32 dX7_drop_29 rfl fl_X7_11 rfl rfl ?_
      refine mr_iload_n C 33 dX7_drop_32 rfl rfl ?_
      refine mr_aald C 1 r 1 (a (2 + 2 * r)) 34 dX7_drop_33 rfl rfl rfl rfl hr (by decide) (if_pos hr) ?_
      refine mr_iconst C (nI 0) 35 dX7_drop_34 rfl rfl ?_
      refine mr_put C (2 + 2 * r) 38 dX7_drop_35 rfl fs_X7_83 (wX_row E a fn fd it th ln sz t S tI rI pF pI se sn be so lo he n1 n2 n3 R K G iF iR iK iG iu ig kp h x uI cF cI cg fi sr s r hr).1 rfl rfl (Nat.le_of_ble_eq_true rfl) ?_
      refine mr_w (wX_setF E a fn fd it th ln sz t S tI rI pF pI se sn be so lo he n1 n2 n3 R K G iF iR iK iG iu ig kp h x uI cF cI cg fi sr s r hr (nI 0)) ?_
      refine mr_aload_n C 39 dX7_drop_38 rfl rfl ?_
      refine mr_iconst C (nI 0) 40 dX7_drop_39 rfl rfl ?_
      refine mr_put C 0 43 dX7_drop_40 rfl fs_X7_79 rfl rfl rfl (Nat.le_of_ble_eq_true rfl) ?_
      refine mr_w (ws' := wX E a fn (nI 0) it (va_up th r (nI 0)) ln sz t S tI rI pF pI se sn be so lo he n1 n2 n3 R K G iF iR iK iG iu ig kp h x uI cF cI cg fi sr s) rfl ?_
      refine mr_aload_n C 44 dX7_drop_43 rfl rfl ?_
      refine mr_get C 0 47 dX7_drop_44 rfl fl_X7_11 rfl rfl ?_
      refine mr_iload_n C 48 dX7_drop_47 rfl rfl ?_
      refine mr_aald C 1 r 1 (a (2 + 2 * r)) 49 dX7_drop_48 rfl rfl rfl rfl hr (by decide) (if_pos hr) ?_
      refine mr_get C (2 + 2 * r) 52 dX7_drop_49 rfl fl_X7_108 (wX_row E a fn ((nI 0)) it ((va_up th r (nI 0))) ln sz t S tI rI pF pI se sn be so lo he n1 n2 n3 R K G iF iR iK iG iu ig kp h x uI cF cI cg fi sr s r hr).1 rfl ?_
      refine mr_iret C dX7_drop_52 rfl rfl (by decide) (by decide) hlen ?_
      rw [hO]
      exact ⟨_, _, _, _, _, _, rfl, rfl, (ifP_t (by omega)).mpr ((ifP_f (by rw [ir]; exact c_19)).mpr ⟨by rw [ir], by rw [ir]⟩)⟩
    · refine mr_aload_n C 23 dX7_drop_22 rfl rfl ?_
      refine mr_iconst C (nI 1) 24 dX7_drop_23 rfl rfl ?_
      refine mr_callV C (c_found E a fn fd 1) [0] 0 7 27 dX7_drop_24 rfl mk_X7_found mi_X7_found ml_X7_71 rfl rfl rfl (jn_cut [1, 1, 16, 2, 1, 10, 10, 1, 10, 10, 2, 1, 10, 2, 2] [0] [w0 E a fn fd, [(a 1, .inl (E.1.1 101, 8, .inr (.inr (.inr (.inr (rwA a))))))], wRS E a it th ln sz, wT E a 18 t (nI S) (tI 0) (tI 1) (tI 2) (tI 3), [(a 20, .inr (4, [.ref (a 18), .ref (a 21), .int (rI 0), .int (rI 1), .int (rI 2)]))], wH E a 21 (pF 0) (pF 1) (pF 2) (pF 3) (pF 4) (pF 5) (pF 6) (pF 7) (pF 8) (pI 0) (pI 1) (pI 2) (pI 3) (pI 4), wH E a 31 se sn be so lo he n1 n2 n3 (nI R) (nI K) (nI G) (nI 0) (nI 0), [(a 41, .inl (E.1.1 102, 2, .inr (.inr (.inr (.inr (imA a))))))], wH E a 42 (iF 0 0) (iF 0 1) (iF 0 2) (iF 0 3) (iF 0 4) (iF 0 5) (iF 0 6) (iF 0 7) (iF 0 8) (nI (iR 0)) (nI (iK 0)) (nI (iG 0)) (iu 0) (ig 0), wH E a 52 (iF 1 0) (iF 1 1) (iF 1 2) (iF 1 3) (iF 1 4) (iF 1 5) (iF 1 6) (iF 1 7) (iF 1 8) (nI (iR 1)) (nI (iK 1)) (nI (iG 1)) (iu 1) (ig 1), wA E a 62 kp (nI h) (nI x), wF E a 64 31 65 75 (uI 0) (uI 1) (uI 2), wH E a 65 (cF 0) (cF 1) (cF 2) (cF 3) (cF 4) (cF 5) (cF 6) (cF 7) (cF 8) (cI 0) (cI 1) (cI 2) (cI 3) (nI cg), [(a 75, iA E 5 fi), (a 76, iA E 5 sr)], wQ E a 77 31 s] [w0 E a fn fd] rfl (by decide) rfl rfl) rfl (Nat.le_of_ble_eq_true rfl) (by decide) (by decide) (by decide) rfl rfl (fun r w1 hpost => ?_)
      obtain ⟨rfl, rfl⟩ := hpost
      refine mr_w (ws' := wX E a fn (nI 1) it th ln sz t S tI rI pF pI se sn be so lo he n1 n2 n3 R K G iF iR iK iG iu ig kp h x uI cF cI cg fi sr s) (jn_put [1, 1, 16, 2, 1, 10, 10, 1, 10, 10, 2, 1, 10, 2, 2] [0] [w0 E a fn fd, [(a 1, .inl (E.1.1 101, 8, .inr (.inr (.inr (.inr (rwA a))))))], wRS E a it th ln sz, wT E a 18 t (nI S) (tI 0) (tI 1) (tI 2) (tI 3), [(a 20, .inr (4, [.ref (a 18), .ref (a 21), .int (rI 0), .int (rI 1), .int (rI 2)]))], wH E a 21 (pF 0) (pF 1) (pF 2) (pF 3) (pF 4) (pF 5) (pF 6) (pF 7) (pF 8) (pI 0) (pI 1) (pI 2) (pI 3) (pI 4), wH E a 31 se sn be so lo he n1 n2 n3 (nI R) (nI K) (nI G) (nI 0) (nI 0), [(a 41, .inl (E.1.1 102, 2, .inr (.inr (.inr (.inr (imA a))))))], wH E a 42 (iF 0 0) (iF 0 1) (iF 0 2) (iF 0 3) (iF 0 4) (iF 0 5) (iF 0 6) (iF 0 7) (iF 0 8) (nI (iR 0)) (nI (iK 0)) (nI (iG 0)) (iu 0) (ig 0), wH E a 52 (iF 1 0) (iF 1 1) (iF 1 2) (iF 1 3) (iF 1 4) (iF 1 5) (iF 1 6) (iF 1 7) (iF 1 8) (nI (iR 1)) (nI (iK 1)) (nI (iG 1)) (iu 1) (ig 1), wA E a 62 kp (nI h) (nI x), wF E a 64 31 65 75 (uI 0) (uI 1) (uI 2), wH E a 65 (cF 0) (cF 1) (cF 2) (cF 3) (cF 4) (cF 5) (cF 6) (cF 7) (cF 8) (cI 0) (cI 1) (cI 2) (cI 3) (nI cg), [(a 75, iA E 5 fi), (a 76, iA E 5 sr)], wQ E a 77 31 s] [w0 E a fn (nI 1)] [w0 E a fn (nI 1), [(a 1, .inl (E.1.1 101, 8, .inr (.inr (.inr (.inr (rwA a))))))], wRS E a it th ln sz, wT E a 18 t (nI S) (tI 0) (tI 1) (tI 2) (tI 3), [(a 20, .inr (4, [.ref (a 18), .ref (a 21), .int (rI 0), .int (rI 1), .int (rI 2)]))], wH E a 21 (pF 0) (pF 1) (pF 2) (pF 3) (pF 4) (pF 5) (pF 6) (pF 7) (pF 8) (pI 0) (pI 1) (pI 2) (pI 3) (pI 4), wH E a 31 se sn be so lo he n1 n2 n3 (nI R) (nI K) (nI G) (nI 0) (nI 0), [(a 41, .inl (E.1.1 102, 2, .inr (.inr (.inr (.inr (imA a))))))], wH E a 42 (iF 0 0) (iF 0 1) (iF 0 2) (iF 0 3) (iF 0 4) (iF 0 5) (iF 0 6) (iF 0 7) (iF 0 8) (nI (iR 0)) (nI (iK 0)) (nI (iG 0)) (iu 0) (ig 0), wH E a 52 (iF 1 0) (iF 1 1) (iF 1 2) (iF 1 3) (iF 1 4) (iF 1 5) (iF 1 6) (iF 1 7) (iF 1 8) (nI (iR 1)) (nI (iK 1)) (nI (iG 1)) (iu 1) (ig 1), wA E a 62 kp (nI h) (nI x), wF E a 64 31 65 75 (uI 0) (uI 1) (uI 2), wH E a 65 (cF 0) (cF 1) (cF 2) (cF 3) (cF 4) (cF 5) (cF 6) (cF 7) (cF 8) (cI 0) (cI 1) (cI 2) (cI 3) (nI cg), [(a 75, iA E 5 fi), (a 76, iA E 5 sr)], wQ E a 77 31 s] rfl (by decide) rfl rfl rfl) ?_
      refine mr_iret C dX7_drop_27 rfl rfl (by decide) (by decide) hlen ?_
      rw [hO]
      exact ⟨_, _, _, _, _, _, rfl, rfl, (ifP_t (by omega)).mpr ((ifP_t (by rw [ir]; exact c_19)).mpr ⟨rfl, rfl⟩)⟩
  · rw [bI_eq] at c_4
    refine mr_ldc C 9 dX7_drop_7 rfl kc_X7_70 ?_
    refine mr_iret C dX7_drop_9 rfl rfl (by decide) (by decide) hlen ?_
    rw [hO]
    exact ⟨_, _, _, _, _, _, rfl, rfl, (ifP_f (by omega)).mpr ⟨rfl, rfl⟩⟩

set_option maxRecDepth 20000 in
set_option maxHeartbeats 4000000 in
theorem c_x_copy (E : EG) (a : Nat → Nat) (fn fd : Int32) (it : Nat → FN) (th ln sz t : FN) (S : Nat) (tI rI : FN) (pF : Nat → FN) (pI se sn be so lo he n1 n2 n3 : FN) (R K G : Nat) (iF : Nat → Nat → FN) (iR iK iG : Nat → Nat) (iu ig kp : FN) (h x : Nat) (uI : FN) (cF : Nat → FN) (cI : FN) (cg : Nat) (fi sr : FN) (s : TRC) (r0 i0 u0 j0 n0 : Int32) (hri : RI th sz) : Ctr E mX7_copy (2, 0, 0) [.ref (a 0), .int r0, .int i0, .int u0, .int j0, .int n0] (wX E a fn fd it th ln sz t S tI rI pF pI se sn be so lo he n1 n2 n3 R K G iF iR iK iG iu ig kp h x uI cF cI cg fi sr s) (fun v w => ∃ (it' : Nat → FN) (th' ln' sz' : FN) (fd' v' : Int32), v = some (.int v') ∧ w = wX E a fn fd' it' th' ln' sz' t S tI rI pF pI se sn be so lo he n1 n2 n3 R K G iF iR iK iG iu ig kp h x uI cF cI cg fi sr s ∧ NxCopy r0 i0 u0 j0 n0 (it, th, ln, sz, fd) v' (it', th', ln', sz', fd')) := by
  refine Ctr.of (by decide) (Nat.le_of_ble_eq_true rfl) ?_
  intro Z hO hn C
  have hlen : zn Z ≤ 79 := by rw [hn]; exact Nat.le_of_ble_eq_true rfl
  refine mr_iload_n C 1 dX7_copy_0 rfl rfl ?_
  refine mr_callS C (c_isRow E r0) [] 4 dX7_copy_1 rfl mk_X7_isRow ms_X7_isRow ml_X7_66 rfl rfl rfl rfl (Nat.le_of_ble_eq_true rfl) (by decide) (by decide) (by decide) (fun r w1 hpost => ?_)
  obtain ⟨rfl, rfl⟩ := hpost
  refine mr_w (ws' := wX E a fn fd it th ln sz t S tI rI pF pI se sn be so lo he n1 n2 n3 R K G iF iR iK iG iu ig kp h x uI cF cI cg fi sr s) rfl ?_
  refine mr_ifeq C 14 7 dX7_copy_4 (by decide) rfl (fun c_4 => ?_) (fun c_4 => ?_)
  · rw [bI_eq] at c_4
    refine mr_ldc C 16 dX7_copy_14 rfl kc_X7_70 ?_
    refine mr_iret C dX7_copy_16 rfl rfl (by decide) (by decide) hlen ?_
    rw [hO]
    exact ⟨_, _, _, _, _, _, rfl, rfl, (ifP_f (by omega)).mpr ⟨rfl, rfl⟩⟩
  · rw [← Ne, bI_ne] at c_4
    refine mr_iload_n C 8 dX7_copy_7 rfl rfl ?_
    refine mr_callS C (c_isRow E u0) [] 11 dX7_copy_8 rfl mk_X7_isRow ms_X7_isRow ml_X7_66 rfl rfl rfl rfl (Nat.le_of_ble_eq_true rfl) (by decide) (by decide) (by decide) (fun r w1 hpost => ?_)
    obtain ⟨rfl, rfl⟩ := hpost
    refine mr_w (ws' := wX E a fn fd it th ln sz t S tI rI pF pI se sn be so lo he n1 n2 n3 R K G iF iR iK iG iu ig kp h x uI cF cI cg fi sr s) rfl ?_
    refine mr_ifne C 17 14 dX7_copy_11 (by decide) rfl (fun c_11 => ?_) (fun c_11 => ?_)
    · rw [bI_ne] at c_11
      obtain ⟨r, hr, rfl⟩ := tI_of (x := r0) (n := 8) (by omega) (by omega)
      have ir : iN (nI r) = r := iN_n (by omega)
      have er : (nI r).toInt = (r : Int) := tI_n (by omega)
      obtain ⟨u, hu, rfl⟩ := tI_of (x := u0) (n := 8) (by omega) (by omega)
      have iu_ : iN (nI u) = u := iN_n (by omega)
      have eu : (nI u).toInt = (u : Int) := tI_n (by omega)
      refine mr_aload_n C 18 dX7_copy_17 rfl rfl ?_
      refine mr_get C 0 21 dX7_copy_18 rfl fl_X7_11 rfl rfl ?_
      refine mr_iload_n C 22 dX7_copy_21 rfl rfl ?_
      refine mr_aald C 1 r 1 (a (2 + 2 * r)) 23 dX7_copy_22 rfl rfl rfl rfl hr (by decide) (if_pos hr) ?_
      refine mr_astore C 25 dX7_copy_23 rfl (by decide) ?_
      refine mr_aload_n C 26 dX7_copy_25 rfl rfl ?_
      refine mr_get C 0 29 dX7_copy_26 rfl fl_X7_11 rfl rfl ?_
      refine mr_iload_n C 30 dX7_copy_29 rfl rfl ?_
      refine mr_aald C 1 u 1 (a (2 + 2 * u)) 31 dX7_copy_30 rfl rfl rfl rfl hu (by decide) (if_pos hu) ?_
      refine mr_astore C 33 dX7_copy_31 rfl (by decide) ?_
      refine mr_aload C 35 dX7_copy_33 rfl rfl ?_
      refine mr_get C (2 + 2 * r) 38 dX7_copy_35 rfl fl_X7_83 (wX_row E a fn fd it th ln sz t S tI rI pF pI se sn be so lo he n1 n2 n3 R K G iF iR iK iG iu ig kp h x uI cF cI cg fi sr s r hr).1 rfl ?_
      refine mr_ifeq C 49 41 dX7_copy_38 (by decide) rfl (fun c_38 => ?_) (fun c_38 => ?_)
      · refine mr_aload_n C 50 dX7_copy_49 rfl rfl ?_
        refine mr_iconst C (nI 1) 51 dX7_copy_50 rfl rfl ?_
        refine mr_callV C (c_found E a fn fd 1) [0] 0 7 54 dX7_copy_51 rfl mk_X7_found mi_X7_found ml_X7_71 rfl rfl rfl (jn_cut [1, 1, 16, 2, 1, 10, 10, 1, 10, 10, 2, 1, 10, 2, 2] [0] [w0 E a fn fd, [(a 1, .inl (E.1.1 101, 8, .inr (.inr (.inr (.inr (rwA a))))))], wRS E a it th ln sz, wT E a 18 t (nI S) (tI 0) (tI 1) (tI 2) (tI 3), [(a 20, .inr (4, [.ref (a 18), .ref (a 21), .int (rI 0), .int (rI 1), .int (rI 2)]))], wH E a 21 (pF 0) (pF 1) (pF 2) (pF 3) (pF 4) (pF 5) (pF 6) (pF 7) (pF 8) (pI 0) (pI 1) (pI 2) (pI 3) (pI 4), wH E a 31 se sn be so lo he n1 n2 n3 (nI R) (nI K) (nI G) (nI 0) (nI 0), [(a 41, .inl (E.1.1 102, 2, .inr (.inr (.inr (.inr (imA a))))))], wH E a 42 (iF 0 0) (iF 0 1) (iF 0 2) (iF 0 3) (iF 0 4) (iF 0 5) (iF 0 6) (iF 0 7) (iF 0 8) (nI (iR 0)) (nI (iK 0)) (nI (iG 0)) (iu 0) (ig 0), wH E a 52 (iF 1 0) (iF 1 1) (iF 1 2) (iF 1 3) (iF 1 4) (iF 1 5) (iF 1 6) (iF 1 7) (iF 1 8) (nI (iR 1)) (nI (iK 1)) (nI (iG 1)) (iu 1) (ig 1), wA E a 62 kp (nI h) (nI x), wF E a 64 31 65 75 (uI 0) (uI 1) (uI 2), wH E a 65 (cF 0) (cF 1) (cF 2) (cF 3) (cF 4) (cF 5) (cF 6) (cF 7) (cF 8) (cI 0) (cI 1) (cI 2) (cI 3) (nI cg), [(a 75, iA E 5 fi), (a 76, iA E 5 sr)], wQ E a 77 31 s] [w0 E a fn fd] rfl (by decide) rfl rfl) rfl (Nat.le_of_ble_eq_true rfl) (by decide) (by decide) (by decide) rfl rfl (fun r w1 hpost => ?_)
        obtain ⟨rfl, rfl⟩ := hpost
        refine mr_w (ws' := wX E a fn (nI 1) it th ln sz t S tI rI pF pI se sn be so lo he n1 n2 n3 R K G iF iR iK iG iu ig kp h x uI cF cI cg fi sr s) (jn_put [1, 1, 16, 2, 1, 10, 10, 1, 10, 10, 2, 1, 10, 2, 2] [0] [w0 E a fn fd, [(a 1, .inl (E.1.1 101, 8, .inr (.inr (.inr (.inr (rwA a))))))], wRS E a it th ln sz, wT E a 18 t (nI S) (tI 0) (tI 1) (tI 2) (tI 3), [(a 20, .inr (4, [.ref (a 18), .ref (a 21), .int (rI 0), .int (rI 1), .int (rI 2)]))], wH E a 21 (pF 0) (pF 1) (pF 2) (pF 3) (pF 4) (pF 5) (pF 6) (pF 7) (pF 8) (pI 0) (pI 1) (pI 2) (pI 3) (pI 4), wH E a 31 se sn be so lo he n1 n2 n3 (nI R) (nI K) (nI G) (nI 0) (nI 0), [(a 41, .inl (E.1.1 102, 2, .inr (.inr (.inr (.inr (imA a))))))], wH E a 42 (iF 0 0) (iF 0 1) (iF 0 2) (iF 0 3) (iF 0 4) (iF 0 5) (iF 0 6) (iF 0 7) (iF 0 8) (nI (iR 0)) (nI (iK 0)) (nI (iG 0)) (iu 0) (ig 0), wH E a 52 (iF 1 0) (iF 1 1) (iF 1 2) (iF 1 3) (iF 1 4) (iF 1 5) (iF 1 6) (iF 1 7) (iF 1 8) (nI (iR 1)) (nI (iK 1)) (nI (iG 1)) (iu 1) (ig 1), wA E a 62 kp (nI h) (nI x), wF E a 64 31 65 75 (uI 0) (uI 1) (uI 2), wH E a 65 (cF 0) (cF 1) (cF 2) (cF 3) (cF 4) (cF 5) (cF 6) (cF 7) (cF 8) (cI 0) (cI 1) (cI 2) (cI 3) (nI cg), [(a 75, iA E 5 fi), (a 76, iA E 5 sr)], wQ E a 77 31 s] [w0 E a fn (nI 1)] [w0 E a fn (nI 1), [(a 1, .inl (E.1.1 101, 8, .inr (.inr (.inr (.inr (rwA a))))))], wRS E a it th ln sz, wT E a 18 t (nI S) (tI 0) (tI 1) (tI 2) (tI 3), [(a 20, .inr (4, [.ref (a 18), .ref (a 21), .int (rI 0), .int (rI 1), .int (rI 2)]))], wH E a 21 (pF 0) (pF 1) (pF 2) (pF 3) (pF 4) (pF 5) (pF 6) (pF 7) (pF 8) (pI 0) (pI 1) (pI 2) (pI 3) (pI 4), wH E a 31 se sn be so lo he n1 n2 n3 (nI R) (nI K) (nI G) (nI 0) (nI 0), [(a 41, .inl (E.1.1 102, 2, .inr (.inr (.inr (.inr (imA a))))))], wH E a 42 (iF 0 0) (iF 0 1) (iF 0 2) (iF 0 3) (iF 0 4) (iF 0 5) (iF 0 6) (iF 0 7) (iF 0 8) (nI (iR 0)) (nI (iK 0)) (nI (iG 0)) (iu 0) (ig 0), wH E a 52 (iF 1 0) (iF 1 1) (iF 1 2) (iF 1 3) (iF 1 4) (iF 1 5) (iF 1 6) (iF 1 7) (iF 1 8) (nI (iR 1)) (nI (iK 1)) (nI (iG 1)) (iu 1) (ig 1), wA E a 62 kp (nI h) (nI x), wF E a 64 31 65 75 (uI 0) (uI 1) (uI 2), wH E a 65 (cF 0) (cF 1) (cF 2) (cF 3) (cF 4) (cF 5) (cF 6) (cF 7) (cF 8) (cI 0) (cI 1) (cI 2) (cI 3) (nI cg), [(a 75, iA E 5 fi), (a 76, iA E 5 sr)], wQ E a 77 31 s] rfl (by decide) rfl rfl rfl) ?_
        refine mr_iret C dX7_copy_54 rfl rfl (by decide) (by decide) hlen ?_
        rw [hO]
        exact ⟨_, _, _, _, _, _, rfl, rfl, (ifP_t (by omega)).mpr ((ifP_t (by rw [ir]; exact Or.inl c_38)).mpr ⟨rfl, rfl⟩)⟩
      · refine mr_aload C 43 dX7_copy_41 rfl rfl ?_
        refine mr_get C (2 + 2 * u) 46 dX7_copy_43 rfl fl_X7_83 (wX_row E a fn fd it th ln sz t S tI rI pF pI se sn be so lo he n1 n2 n3 R K G iF iR iK iG iu ig kp h x uI cF cI cg fi sr s u hu).1 rfl ?_
        refine mr_ifne C 55 49 dX7_copy_46 (by decide) rfl (fun c_46 => ?_) (fun c_46 => ?_)
        · have hth : th r ≠ nI 0 := c_38
          have htu : th u ≠ nI 0 := c_46
          obtain ⟨m, hm9, hsz⟩ : ∃ n, n ≤ 40 ∧ sz r = nI n := (hri r hr).elim (fun h => absurd h hth) (fun h => h.2)
          have em : (nI m).toInt = (m : Int) := tI_n (by omega)
          obtain ⟨m2, hm2, hsz2⟩ : ∃ n, n ≤ 40 ∧ sz u = nI n := (hri u hu).elim (fun h => absurd h htu) (fun h => h.2)
          have em2 : (nI m2).toInt = (m2 : Int) := tI_n (by omega)
          refine mr_aload C 57 dX7_copy_55 rfl rfl ?_
          refine mr_get C (2 + 2 * r) 60 dX7_copy_57 rfl fl_X7_95 (wX_row E a fn fd it th ln sz t S tI rI pF pI se sn be so lo he n1 n2 n3 R K G iF iR iK iG iu ig kp h x uI cF cI cg fi sr s r hr).1 rfl ?_
          refine mr_aload C 62 dX7_copy_60 rfl rfl ?_
          refine mr_get C (2 + 2 * u) 65 dX7_copy_62 rfl fl_X7_95 (wX_row E a fn fd it th ln sz t S tI rI pF pI se sn be so lo he n1 n2 n3 R K G iF iR iK iG iu ig kp h x uI cF cI cg fi sr s u hu).1 rfl ?_
          refine mr_icmpeq C 74 68 dX7_copy_65 (by decide) rfl (fun c_65 => ?_) (fun c_65 => ?_)
          · refine mr_aload C 76 dX7_copy_74 rfl rfl ?_
            refine mr_iload_n C 77 dX7_copy_76 rfl rfl ?_
            refine mr_iload C 79 dX7_copy_77 rfl rfl ?_
            refine mr_callV C ((show Ctr E mX5_holds (1, 0, 0) [.ref (a (2 + 2 * r)), .int i0, .int (n0)] (wR E a (2 + 2 * r) (it r) (th r) (ln r) (sz r)) (fun v w => v = some (.int (bI (0 ≤ (n0 : Int32).toInt ∧ 0 ≤ (i0 : Int32).toInt ∧ (i0 : Int32).toInt + (n0 : Int32).toInt ≤ (m : Nat)))) ∧ w = wR E a (2 + 2 * r) (it r) (th r) (ln r) (sz r)) by rw [hsz]; exact c_holdsI E a (2 + 2 * r) (it r) (th r) (ln r) i0 (n0) m (by omega))) (cutR r) (2 + 2 * r) 5 82 dX7_copy_79 rfl mk_X5_holds mi_X5_holds ml_X7_87 rfl rfl rfl (wX_cutR E a fn fd it th ln sz t S tI rI pF pI se sn be so lo he n1 n2 n3 R K G iF iR iK iG iu ig kp h x uI cF cI cg fi sr s r hr) (cutR_nd r) (Nat.le_of_ble_eq_true rfl) (by decide) (by decide) (by decide) (wX_row E a fn fd it th ln sz t S tI rI pF pI se sn be so lo he n1 n2 n3 R K G iF iR iK iG iu ig kp h x uI cF cI cg fi sr s r hr).1 rfl (fun r_ w1 hpost => ?_)
            obtain ⟨rfl, rfl⟩ := hpost
            refine mr_w (wput_id (wX_cutR E a fn fd it th ln sz t S tI rI pF pI se sn be so lo he n1 n2 n3 R K G iF iR iK iG iu ig kp h x uI cF cI cg fi sr s r hr)) ?_
            refine mr_ifeq C 97 85 dX7_copy_82 (by decide) rfl (fun c_82 => ?_) (fun c_82 => ?_)
            · rw [bI_eq] at c_82
              refine mr_aload_n C 98 dX7_copy_97 rfl rfl ?_
              refine mr_iconst C (nI 2) 99 dX7_copy_98 rfl rfl ?_
              refine mr_callV C (c_found E a fn fd 2) [0] 0 7 102 dX7_copy_99 rfl mk_X7_found mi_X7_found ml_X7_71 rfl rfl rfl (jn_cut [1, 1, 16, 2, 1, 10, 10, 1, 10, 10, 2, 1, 10, 2, 2] [0] [w0 E a fn fd, [(a 1, .inl (E.1.1 101, 8, .inr (.inr (.inr (.inr (rwA a))))))], wRS E a it th ln sz, wT E a 18 t (nI S) (tI 0) (tI 1) (tI 2) (tI 3), [(a 20, .inr (4, [.ref (a 18), .ref (a 21), .int (rI 0), .int (rI 1), .int (rI 2)]))], wH E a 21 (pF 0) (pF 1) (pF 2) (pF 3) (pF 4) (pF 5) (pF 6) (pF 7) (pF 8) (pI 0) (pI 1) (pI 2) (pI 3) (pI 4), wH E a 31 se sn be so lo he n1 n2 n3 (nI R) (nI K) (nI G) (nI 0) (nI 0), [(a 41, .inl (E.1.1 102, 2, .inr (.inr (.inr (.inr (imA a))))))], wH E a 42 (iF 0 0) (iF 0 1) (iF 0 2) (iF 0 3) (iF 0 4) (iF 0 5) (iF 0 6) (iF 0 7) (iF 0 8) (nI (iR 0)) (nI (iK 0)) (nI (iG 0)) (iu 0) (ig 0), wH E a 52 (iF 1 0) (iF 1 1) (iF 1 2) (iF 1 3) (iF 1 4) (iF 1 5) (iF 1 6) (iF 1 7) (iF 1 8) (nI (iR 1)) (nI (iK 1)) (nI (iG 1)) (iu 1) (ig 1), wA E a 62 kp (nI h) (nI x), wF E a 64 31 65 75 (uI 0) (uI 1) (uI 2), wH E a 65 (cF 0) (cF 1) (cF 2) (cF 3) (cF 4) (cF 5) (cF 6) (cF 7) (cF 8) (cI 0) (cI 1) (cI 2) (cI 3) (nI cg), [(a 75, iA E 5 fi), (a 76, iA E 5 sr)], wQ E a 77 31 s] [w0 E a fn fd] rfl (by decide) rfl rfl) rfl (Nat.le_of_ble_eq_true rfl) (by decide) (by decide) (by decide) rfl rfl (fun r w1 hpost => ?_)
              obtain ⟨rfl, rfl⟩ := hpost
              refine mr_w (ws' := wX E a fn (nI 2) it th ln sz t S tI rI pF pI se sn be so lo he n1 n2 n3 R K G iF iR iK iG iu ig kp h x uI cF cI cg fi sr s) (jn_put [1, 1, 16, 2, 1, 10, 10, 1, 10, 10, 2, 1, 10, 2, 2] [0] [w0 E a fn fd, [(a 1, .inl (E.1.1 101, 8, .inr (.inr (.inr (.inr (rwA a))))))], wRS E a it th ln sz, wT E a 18 t (nI S) (tI 0) (tI 1) (tI 2) (tI 3), [(a 20, .inr (4, [.ref (a 18), .ref (a 21), .int (rI 0), .int (rI 1), .int (rI 2)]))], wH E a 21 (pF 0) (pF 1) (pF 2) (pF 3) (pF 4) (pF 5) (pF 6) (pF 7) (pF 8) (pI 0) (pI 1) (pI 2) (pI 3) (pI 4), wH E a 31 se sn be so lo he n1 n2 n3 (nI R) (nI K) (nI G) (nI 0) (nI 0), [(a 41, .inl (E.1.1 102, 2, .inr (.inr (.inr (.inr (imA a))))))], wH E a 42 (iF 0 0) (iF 0 1) (iF 0 2) (iF 0 3) (iF 0 4) (iF 0 5) (iF 0 6) (iF 0 7) (iF 0 8) (nI (iR 0)) (nI (iK 0)) (nI (iG 0)) (iu 0) (ig 0), wH E a 52 (iF 1 0) (iF 1 1) (iF 1 2) (iF 1 3) (iF 1 4) (iF 1 5) (iF 1 6) (iF 1 7) (iF 1 8) (nI (iR 1)) (nI (iK 1)) (nI (iG 1)) (iu 1) (ig 1), wA E a 62 kp (nI h) (nI x), wF E a 64 31 65 75 (uI 0) (uI 1) (uI 2), wH E a 65 (cF 0) (cF 1) (cF 2) (cF 3) (cF 4) (cF 5) (cF 6) (cF 7) (cF 8) (cI 0) (cI 1) (cI 2) (cI 3) (nI cg), [(a 75, iA E 5 fi), (a 76, iA E 5 sr)], wQ E a 77 31 s] [w0 E a fn (nI 2)] [w0 E a fn (nI 2), [(a 1, .inl (E.1.1 101, 8, .inr (.inr (.inr (.inr (rwA a))))))], wRS E a it th ln sz, wT E a 18 t (nI S) (tI 0) (tI 1) (tI 2) (tI 3), [(a 20, .inr (4, [.ref (a 18), .ref (a 21), .int (rI 0), .int (rI 1), .int (rI 2)]))], wH E a 21 (pF 0) (pF 1) (pF 2) (pF 3) (pF 4) (pF 5) (pF 6) (pF 7) (pF 8) (pI 0) (pI 1) (pI 2) (pI 3) (pI 4), wH E a 31 se sn be so lo he n1 n2 n3 (nI R) (nI K) (nI G) (nI 0) (nI 0), [(a 41, .inl (E.1.1 102, 2, .inr (.inr (.inr (.inr (imA a))))))], wH E a 42 (iF 0 0) (iF 0 1) (iF 0 2) (iF 0 3) (iF 0 4) (iF 0 5) (iF 0 6) (iF 0 7) (iF 0 8) (nI (iR 0)) (nI (iK 0)) (nI (iG 0)) (iu 0) (ig 0), wH E a 52 (iF 1 0) (iF 1 1) (iF 1 2) (iF 1 3) (iF 1 4) (iF 1 5) (iF 1 6) (iF 1 7) (iF 1 8) (nI (iR 1)) (nI (iK 1)) (nI (iG 1)) (iu 1) (ig 1), wA E a 62 kp (nI h) (nI x), wF E a 64 31 65 75 (uI 0) (uI 1) (uI 2), wH E a 65 (cF 0) (cF 1) (cF 2) (cF 3) (cF 4) (cF 5) (cF 6) (cF 7) (cF 8) (cI 0) (cI 1) (cI 2) (cI 3) (nI cg), [(a 75, iA E 5 fi), (a 76, iA E 5 sr)], wQ E a 77 31 s] rfl (by decide) rfl rfl rfl) ?_
              refine mr_iret C dX7_copy_102 rfl rfl (by decide) (by decide) hlen ?_
              rw [hO]
              exact ⟨_, _, _, _, _, _, rfl, rfl, (ifP_t (by omega)).mpr ((ifP_f (by rw [ir, iu_]; exact fun h => h.elim hth htu)).mpr ((ifP_t (by rw [ir, iu_]; exact c_65)).mpr ((ifP_f (by rw [ir, iu_]; show ¬ (_ ∧ _ ∧ _ ≤ (sz r).toInt ∧ _ ∧ _ ≤ (sz u).toInt); rw [hsz, hsz2]; omega)).mpr ⟨rfl, rfl⟩)))⟩
            · rw [← Ne, bI_ne] at c_82
              refine mr_aload C 87 dX7_copy_85 rfl rfl ?_
              refine mr_iload C 89 dX7_copy_87 rfl rfl ?_
              refine mr_iload C 91 dX7_copy_89 rfl rfl ?_
              refine mr_callV C ((show Ctr E mX5_holds (1, 0, 0) [.ref (a (2 + 2 * u)), .int j0, .int (n0)] (wR E a (2 + 2 * u) (it u) (th u) (ln u) (sz u)) (fun v w => v = some (.int (bI (0 ≤ (n0 : Int32).toInt ∧ 0 ≤ (j0 : Int32).toInt ∧ (j0 : Int32).toInt + (n0 : Int32).toInt ≤ (m2 : Nat)))) ∧ w = wR E a (2 + 2 * u) (it u) (th u) (ln u) (sz u)) by rw [hsz2]; exact c_holdsI E a (2 + 2 * u) (it u) (th u) (ln u) j0 (n0) m2 (by omega))) (cutR u) (2 + 2 * u) 5 94 dX7_copy_91 rfl mk_X5_holds mi_X5_holds ml_X7_87 rfl rfl rfl (wX_cutR E a fn fd it th ln sz t S tI rI pF pI se sn be so lo he n1 n2 n3 R K G iF iR iK iG iu ig kp h x uI cF cI cg fi sr s u hu) (cutR_nd u) (Nat.le_of_ble_eq_true rfl) (by decide) (by decide) (by decide) (wX_row E a fn fd it th ln sz t S tI rI pF pI se sn be so lo he n1 n2 n3 R K G iF iR iK iG iu ig kp h x uI cF cI cg fi sr s u hu).1 rfl (fun r_ w1 hpost => ?_)
              obtain ⟨rfl, rfl⟩ := hpost
              refine mr_w (wput_id (wX_cutR E a fn fd it th ln sz t S tI rI pF pI se sn be so lo he n1 n2 n3 R K G iF iR iK iG iu ig kp h x uI cF cI cg fi sr s u hu)) ?_
              refine mr_ifne C 103 97 dX7_copy_94 (by decide) rfl (fun c_94 => ?_) (fun c_94 => ?_)
              · rw [bI_ne] at c_94
                obtain ⟨i, hi9, rfl⟩ := tI_of (x := i0) (n := 41) (by omega) (by omega)
                have ei : (nI i).toInt = (i : Int) := tI_n (by omega)
                have ii_ : iN (nI i) = i := iN_n (by omega)
                obtain ⟨j, hj9, rfl⟩ := tI_of (x := j0) (n := 41) (by omega) (by omega)
                have ej : (nI j).toInt = (j : Int) := tI_n (by omega)
                have ij_ : iN (nI j) = j := iN_n (by omega)
                obtain ⟨n, hn9, rfl⟩ := tI_of (x := n0) (n := 41) (by omega) (by omega)
                have en : (nI n).toInt = (n : Int) := tI_n (by omega)
                have in_ : iN (nI n) = n := iN_n (by omega)
                refine mr_aload C 105 dX7_copy_103 rfl rfl ?_
                refine mr_get C (2 + 2 * r) 108 dX7_copy_105 rfl fl_X7_98 (wX_row E a fn fd it th ln sz t S tI rI pF pI se sn be so lo he n1 n2 n3 R K G iF iR iK iG iu ig kp h x uI cF cI cg fi sr s r hr).1 rfl ?_
                refine mr_iload_n C 109 dX7_copy_108 rfl rfl ?_
                refine mr_aload C 111 dX7_copy_109 rfl rfl ?_
                refine mr_get C (2 + 2 * u) 114 dX7_copy_111 rfl fl_X7_98 (wX_row E a fn fd it th ln sz t S tI rI pF pI se sn be so lo he n1 n2 n3 R K G iF iR iK iG iu ig kp h x uI cF cI cg fi sr s u hu).1 rfl ?_
                refine mr_iload C 116 dX7_copy_114 rfl rfl ?_
                refine mr_iload C 118 dX7_copy_116 rfl rfl ?_
                refine mr_copy C (2 + 2 * r + 1) (2 + 2 * u + 1) i j n 121 dX7_copy_118 rfl ml_X7_102 (wX_row E a fn fd it th ln sz t S tI rI pF pI se sn be so lo he n1 n2 n3 R K G iF iR iK iG iu ig kp h x uI cF cI cg fi sr s r hr).2 (wX_row E a fn fd it th ln sz t S tI rI pF pI se sn be so lo he n1 n2 n3 R K G iF iR iK iG iu ig kp h x uI cF cI cg fi sr s u hu).2 rfl rfl rfl (by omega) (by omega) (by decide) (by decide) (Nat.le_of_ble_eq_true rfl) (by decide) ?_
                refine mr_w (wX_setI E a fn fd it th ln sz t S tI rI pF pI se sn be so lo he n1 n2 n3 R K G iF iR iK iG iu ig kp h x uI cF cI cg fi sr s u hu (va_cpy (it r) (it u) i j n)) ?_
                refine mr_aload_n C 122 dX7_copy_121 rfl rfl ?_
                refine mr_iconst C (nI 0) 123 dX7_copy_122 rfl rfl ?_
                refine mr_put C 0 126 dX7_copy_123 rfl fs_X7_79 rfl rfl rfl (Nat.le_of_ble_eq_true rfl) ?_
                refine mr_w (ws' := wX E a fn (nI 0) (va_up it u (va_cpy (it r) (it u) i j n)) th ln sz t S tI rI pF pI se sn be so lo he n1 n2 n3 R K G iF iR iK iG iu ig kp h x uI cF cI cg fi sr s) rfl ?_
                refine mr_iload C 128 dX7_copy_126 rfl rfl ?_
                refine mr_iret C dX7_copy_128 rfl rfl (by decide) (by decide) hlen ?_
                rw [hO]
                exact ⟨_, _, _, _, _, _, rfl, rfl, (ifP_t (by omega)).mpr ((ifP_f (by rw [ir, iu_]; exact fun h => h.elim hth htu)).mpr ((ifP_t (by rw [ir, iu_]; exact c_65)).mpr ((ifP_t (by rw [ir, iu_]; show (_ ∧ _ ∧ _ ≤ (sz r).toInt ∧ _ ∧ _ ≤ (sz u).toInt); rw [hsz, hsz2]; omega)).mpr ⟨rfl, by rw [ir, iu_, ii_, ij_, in_]⟩)))⟩
              · rw [bI_eq] at c_94
                refine mr_aload_n C 98 dX7_copy_97 rfl rfl ?_
                refine mr_iconst C (nI 2) 99 dX7_copy_98 rfl rfl ?_
                refine mr_callV C (c_found E a fn fd 2) [0] 0 7 102 dX7_copy_99 rfl mk_X7_found mi_X7_found ml_X7_71 rfl rfl rfl (jn_cut [1, 1, 16, 2, 1, 10, 10, 1, 10, 10, 2, 1, 10, 2, 2] [0] [w0 E a fn fd, [(a 1, .inl (E.1.1 101, 8, .inr (.inr (.inr (.inr (rwA a))))))], wRS E a it th ln sz, wT E a 18 t (nI S) (tI 0) (tI 1) (tI 2) (tI 3), [(a 20, .inr (4, [.ref (a 18), .ref (a 21), .int (rI 0), .int (rI 1), .int (rI 2)]))], wH E a 21 (pF 0) (pF 1) (pF 2) (pF 3) (pF 4) (pF 5) (pF 6) (pF 7) (pF 8) (pI 0) (pI 1) (pI 2) (pI 3) (pI 4), wH E a 31 se sn be so lo he n1 n2 n3 (nI R) (nI K) (nI G) (nI 0) (nI 0), [(a 41, .inl (E.1.1 102, 2, .inr (.inr (.inr (.inr (imA a))))))], wH E a 42 (iF 0 0) (iF 0 1) (iF 0 2) (iF 0 3) (iF 0 4) (iF 0 5) (iF 0 6) (iF 0 7) (iF 0 8) (nI (iR 0)) (nI (iK 0)) (nI (iG 0)) (iu 0) (ig 0), wH E a 52 (iF 1 0) (iF 1 1) (iF 1 2) (iF 1 3) (iF 1 4) (iF 1 5) (iF 1 6) (iF 1 7) (iF 1 8) (nI (iR 1)) (nI (iK 1)) (nI (iG 1)) (iu 1) (ig 1), wA E a 62 kp (nI h) (nI x), wF E a 64 31 65 75 (uI 0) (uI 1) (uI 2), wH E a 65 (cF 0) (cF 1) (cF 2) (cF 3) (cF 4) (cF 5) (cF 6) (cF 7) (cF 8) (cI 0) (cI 1) (cI 2) (cI 3) (nI cg), [(a 75, iA E 5 fi), (a 76, iA E 5 sr)], wQ E a 77 31 s] [w0 E a fn fd] rfl (by decide) rfl rfl) rfl (Nat.le_of_ble_eq_true rfl) (by decide) (by decide) (by decide) rfl rfl (fun r w1 hpost => ?_)
                obtain ⟨rfl, rfl⟩ := hpost
                refine mr_w (ws' := wX E a fn (nI 2) it th ln sz t S tI rI pF pI se sn be so lo he n1 n2 n3 R K G iF iR iK iG iu ig kp h x uI cF cI cg fi sr s) (jn_put [1, 1, 16, 2, 1, 10, 10, 1, 10, 10, 2, 1, 10, 2, 2] [0] [w0 E a fn fd, [(a 1, .inl (E.1.1 101, 8, .inr (.inr (.inr (.inr (rwA a))))))], wRS E a it th ln sz, wT E a 18 t (nI S) (tI 0) (tI 1) (tI 2) (tI 3), [(a 20, .inr (4, [.ref (a 18), .ref (a 21), .int (rI 0), .int (rI 1), .int (rI 2)]))], wH E a 21 (pF 0) (pF 1) (pF 2) (pF 3) (pF 4) (pF 5) (pF 6) (pF 7) (pF 8) (pI 0) (pI 1) (pI 2) (pI 3) (pI 4), wH E a 31 se sn be so lo he n1 n2 n3 (nI R) (nI K) (nI G) (nI 0) (nI 0), [(a 41, .inl (E.1.1 102, 2, .inr (.inr (.inr (.inr (imA a))))))], wH E a 42 (iF 0 0) (iF 0 1) (iF 0 2) (iF 0 3) (iF 0 4) (iF 0 5) (iF 0 6) (iF 0 7) (iF 0 8) (nI (iR 0)) (nI (iK 0)) (nI (iG 0)) (iu 0) (ig 0), wH E a 52 (iF 1 0) (iF 1 1) (iF 1 2) (iF 1 3) (iF 1 4) (iF 1 5) (iF 1 6) (iF 1 7) (iF 1 8) (nI (iR 1)) (nI (iK 1)) (nI (iG 1)) (iu 1) (ig 1), wA E a 62 kp (nI h) (nI x), wF E a 64 31 65 75 (uI 0) (uI 1) (uI 2), wH E a 65 (cF 0) (cF 1) (cF 2) (cF 3) (cF 4) (cF 5) (cF 6) (cF 7) (cF 8) (cI 0) (cI 1) (cI 2) (cI 3) (nI cg), [(a 75, iA E 5 fi), (a 76, iA E 5 sr)], wQ E a 77 31 s] [w0 E a fn (nI 2)] [w0 E a fn (nI 2), [(a 1, .inl (E.1.1 101, 8, .inr (.inr (.inr (.inr (rwA a))))))], wRS E a it th ln sz, wT E a 18 t (nI S) (tI 0) (tI 1) (tI 2) (tI 3), [(a 20, .inr (4, [.ref (a 18), .ref (a 21), .int (rI 0), .int (rI 1), .int (rI 2)]))], wH E a 21 (pF 0) (pF 1) (pF 2) (pF 3) (pF 4) (pF 5) (pF 6) (pF 7) (pF 8) (pI 0) (pI 1) (pI 2) (pI 3) (pI 4), wH E a 31 se sn be so lo he n1 n2 n3 (nI R) (nI K) (nI G) (nI 0) (nI 0), [(a 41, .inl (E.1.1 102, 2, .inr (.inr (.inr (.inr (imA a))))))], wH E a 42 (iF 0 0) (iF 0 1) (iF 0 2) (iF 0 3) (iF 0 4) (iF 0 5) (iF 0 6) (iF 0 7) (iF 0 8) (nI (iR 0)) (nI (iK 0)) (nI (iG 0)) (iu 0) (ig 0), wH E a 52 (iF 1 0) (iF 1 1) (iF 1 2) (iF 1 3) (iF 1 4) (iF 1 5) (iF 1 6) (iF 1 7) (iF 1 8) (nI (iR 1)) (nI (iK 1)) (nI (iG 1)) (iu 1) (ig 1), wA E a 62 kp (nI h) (nI x), wF E a 64 31 65 75 (uI 0) (uI 1) (uI 2), wH E a 65 (cF 0) (cF 1) (cF 2) (cF 3) (cF 4) (cF 5) (cF 6) (cF 7) (cF 8) (cI 0) (cI 1) (cI 2) (cI 3) (nI cg), [(a 75, iA E 5 fi), (a 76, iA E 5 sr)], wQ E a 77 31 s] rfl (by decide) rfl rfl rfl) ?_
                refine mr_iret C dX7_copy_102 rfl rfl (by decide) (by decide) hlen ?_
                rw [hO]
                exact ⟨_, _, _, _, _, _, rfl, rfl, (ifP_t (by omega)).mpr ((ifP_f (by rw [ir, iu_]; exact fun h => h.elim hth htu)).mpr ((ifP_t (by rw [ir, iu_]; exact c_65)).mpr ((ifP_f (by rw [ir, iu_]; show ¬ (_ ∧ _ ∧ _ ≤ (sz r).toInt ∧ _ ∧ _ ≤ (sz u).toInt); rw [hsz, hsz2]; omega)).mpr ⟨rfl, rfl⟩)))⟩
          · refine mr_aload_n C 69 dX7_copy_68 rfl rfl ?_
            refine mr_iconst C (nI 5) 70 dX7_copy_69 rfl rfl ?_
            refine mr_callV C (c_found E a fn fd 5) [0] 0 7 73 dX7_copy_70 rfl mk_X7_found mi_X7_found ml_X7_71 rfl rfl rfl (jn_cut [1, 1, 16, 2, 1, 10, 10, 1, 10, 10, 2, 1, 10, 2, 2] [0] [w0 E a fn fd, [(a 1, .inl (E.1.1 101, 8, .inr (.inr (.inr (.inr (rwA a))))))], wRS E a it th ln sz, wT E a 18 t (nI S) (tI 0) (tI 1) (tI 2) (tI 3), [(a 20, .inr (4, [.ref (a 18), .ref (a 21), .int (rI 0), .int (rI 1), .int (rI 2)]))], wH E a 21 (pF 0) (pF 1) (pF 2) (pF 3) (pF 4) (pF 5) (pF 6) (pF 7) (pF 8) (pI 0) (pI 1) (pI 2) (pI 3) (pI 4), wH E a 31 se sn be so lo he n1 n2 n3 (nI R) (nI K) (nI G) (nI 0) (nI 0), [(a 41, .inl (E.1.1 102, 2, .inr (.inr (.inr (.inr (imA a))))))], wH E a 42 (iF 0 0) (iF 0 1) (iF 0 2) (iF 0 3) (iF 0 4) (iF 0 5) (iF 0 6) (iF 0 7) (iF 0 8) (nI (iR 0)) (nI (iK 0)) (nI (iG 0)) (iu 0) (ig 0), wH E a 52 (iF 1 0) (iF 1 1) (iF 1 2) (iF 1 3) (iF 1 4) (iF 1 5) (iF 1 6) (iF 1 7) (iF 1 8) (nI (iR 1)) (nI (iK 1)) (nI (iG 1)) (iu 1) (ig 1), wA E a 62 kp (nI h) (nI x), wF E a 64 31 65 75 (uI 0) (uI 1) (uI 2), wH E a 65 (cF 0) (cF 1) (cF 2) (cF 3) (cF 4) (cF 5) (cF 6) (cF 7) (cF 8) (cI 0) (cI 1) (cI 2) (cI 3) (nI cg), [(a 75, iA E 5 fi), (a 76, iA E 5 sr)], wQ E a 77 31 s] [w0 E a fn fd] rfl (by decide) rfl rfl) rfl (Nat.le_of_ble_eq_true rfl) (by decide) (by decide) (by decide) rfl rfl (fun r w1 hpost => ?_)
            obtain ⟨rfl, rfl⟩ := hpost
            refine mr_w (ws' := wX E a fn (nI 5) it th ln sz t S tI rI pF pI se sn be so lo he n1 n2 n3 R K G iF iR iK iG iu ig kp h x uI cF cI cg fi sr s) (jn_put [1, 1, 16, 2, 1, 10, 10, 1, 10, 10, 2, 1, 10, 2, 2] [0] [w0 E a fn fd, [(a 1, .inl (E.1.1 101, 8, .inr (.inr (.inr (.inr (rwA a))))))], wRS E a it th ln sz, wT E a 18 t (nI S) (tI 0) (tI 1) (tI 2) (tI 3), [(a 20, .inr (4, [.ref (a 18), .ref (a 21), .int (rI 0), .int (rI 1), .int (rI 2)]))], wH E a 21 (pF 0) (pF 1) (pF 2) (pF 3) (pF 4) (pF 5) (pF 6) (pF 7) (pF 8) (pI 0) (pI 1) (pI 2) (pI 3) (pI 4), wH E a 31 se sn be so lo he n1 n2 n3 (nI R) (nI K) (nI G) (nI 0) (nI 0), [(a 41, .inl (E.1.1 102, 2, .inr (.inr (.inr (.inr (imA a))))))], wH E a 42 (iF 0 0) (iF 0 1) (iF 0 2) (iF 0 3) (iF 0 4) (iF 0 5) (iF 0 6) (iF 0 7) (iF 0 8) (nI (iR 0)) (nI (iK 0)) (nI (iG 0)) (iu 0) (ig 0), wH E a 52 (iF 1 0) (iF 1 1) (iF 1 2) (iF 1 3) (iF 1 4) (iF 1 5) (iF 1 6) (iF 1 7) (iF 1 8) (nI (iR 1)) (nI (iK 1)) (nI (iG 1)) (iu 1) (ig 1), wA E a 62 kp (nI h) (nI x), wF E a 64 31 65 75 (uI 0) (uI 1) (uI 2), wH E a 65 (cF 0) (cF 1) (cF 2) (cF 3) (cF 4) (cF 5) (cF 6) (cF 7) (cF 8) (cI 0) (cI 1) (cI 2) (cI 3) (nI cg), [(a 75, iA E 5 fi), (a 76, iA E 5 sr)], wQ E a 77 31 s] [w0 E a fn (nI 5)] [w0 E a fn (nI 5), [(a 1, .inl (E.1.1 101, 8, .inr (.inr (.inr (.inr (rwA a))))))], wRS E a it th ln sz, wT E a 18 t (nI S) (tI 0) (tI 1) (tI 2) (tI 3), [(a 20, .inr (4, [.ref (a 18), .ref (a 21), .int (rI 0), .int (rI 1), .int (rI 2)]))], wH E a 21 (pF 0) (pF 1) (pF 2) (pF 3) (pF 4) (pF 5) (pF 6) (pF 7) (pF 8) (pI 0) (pI 1) (pI 2) (pI 3) (pI 4), wH E a 31 se sn be so lo he n1 n2 n3 (nI R) (nI K) (nI G) (nI 0) (nI 0), [(a 41, .inl (E.1.1 102, 2, .inr (.inr (.inr (.inr (imA a))))))], wH E a 42 (iF 0 0) (iF 0 1) (iF 0 2) (iF 0 3) (iF 0 4) (iF 0 5) (iF 0 6) (iF 0 7) (iF 0 8) (nI (iR 0)) (nI (iK 0)) (nI (iG 0)) (iu 0) (ig 0), wH E a 52 (iF 1 0) (iF 1 1) (iF 1 2) (iF 1 3) (iF 1 4) (iF 1 5) (iF 1 6) (iF 1 7) (iF 1 8) (nI (iR 1)) (nI (iK 1)) (nI (iG 1)) (iu 1) (ig 1), wA E a 62 kp (nI h) (nI x), wF E a 64 31 65 75 (uI 0) (uI 1) (uI 2), wH E a 65 (cF 0) (cF 1) (cF 2) (cF 3) (cF 4) (cF 5) (cF 6) (cF 7) (cF 8) (cI 0) (cI 1) (cI 2) (cI 3) (nI cg), [(a 75, iA E 5 fi), (a 76, iA E 5 sr)], wQ E a 77 31 s] rfl (by decide) rfl rfl rfl) ?_
            refine mr_iret C dX7_copy_73 rfl rfl (by decide) (by decide) hlen ?_
            rw [hO]
            exact ⟨_, _, _, _, _, _, rfl, rfl, (ifP_t (by omega)).mpr ((ifP_f (by rw [ir, iu_]; exact fun h => h.elim hth htu)).mpr ((ifP_f (by rw [ir, iu_]; exact c_65)).mpr ⟨rfl, rfl⟩))⟩
        · refine mr_aload_n C 50 dX7_copy_49 rfl rfl ?_
          refine mr_iconst C (nI 1) 51 dX7_copy_50 rfl rfl ?_
          refine mr_callV C (c_found E a fn fd 1) [0] 0 7 54 dX7_copy_51 rfl mk_X7_found mi_X7_found ml_X7_71 rfl rfl rfl (jn_cut [1, 1, 16, 2, 1, 10, 10, 1, 10, 10, 2, 1, 10, 2, 2] [0] [w0 E a fn fd, [(a 1, .inl (E.1.1 101, 8, .inr (.inr (.inr (.inr (rwA a))))))], wRS E a it th ln sz, wT E a 18 t (nI S) (tI 0) (tI 1) (tI 2) (tI 3), [(a 20, .inr (4, [.ref (a 18), .ref (a 21), .int (rI 0), .int (rI 1), .int (rI 2)]))], wH E a 21 (pF 0) (pF 1) (pF 2) (pF 3) (pF 4) (pF 5) (pF 6) (pF 7) (pF 8) (pI 0) (pI 1) (pI 2) (pI 3) (pI 4), wH E a 31 se sn be so lo he n1 n2 n3 (nI R) (nI K) (nI G) (nI 0) (nI 0), [(a 41, .inl (E.1.1 102, 2, .inr (.inr (.inr (.inr (imA a))))))], wH E a 42 (iF 0 0) (iF 0 1) (iF 0 2) (iF 0 3) (iF 0 4) (iF 0 5) (iF 0 6) (iF 0 7) (iF 0 8) (nI (iR 0)) (nI (iK 0)) (nI (iG 0)) (iu 0) (ig 0), wH E a 52 (iF 1 0) (iF 1 1) (iF 1 2) (iF 1 3) (iF 1 4) (iF 1 5) (iF 1 6) (iF 1 7) (iF 1 8) (nI (iR 1)) (nI (iK 1)) (nI (iG 1)) (iu 1) (ig 1), wA E a 62 kp (nI h) (nI x), wF E a 64 31 65 75 (uI 0) (uI 1) (uI 2), wH E a 65 (cF 0) (cF 1) (cF 2) (cF 3) (cF 4) (cF 5) (cF 6) (cF 7) (cF 8) (cI 0) (cI 1) (cI 2) (cI 3) (nI cg), [(a 75, iA E 5 fi), (a 76, iA E 5 sr)], wQ E a 77 31 s] [w0 E a fn fd] rfl (by decide) rfl rfl) rfl (Nat.le_of_ble_eq_true rfl) (by decide) (by decide) (by decide) rfl rfl (fun r w1 hpost => ?_)
          obtain ⟨rfl, rfl⟩ := hpost
          refine mr_w (ws' := wX E a fn (nI 1) it th ln sz t S tI rI pF pI se sn be so lo he n1 n2 n3 R K G iF iR iK iG iu ig kp h x uI cF cI cg fi sr s) (jn_put [1, 1, 16, 2, 1, 10, 10, 1, 10, 10, 2, 1, 10, 2, 2] [0] [w0 E a fn fd, [(a 1, .inl (E.1.1 101, 8, .inr (.inr (.inr (.inr (rwA a))))))], wRS E a it th ln sz, wT E a 18 t (nI S) (tI 0) (tI 1) (tI 2) (tI 3), [(a 20, .inr (4, [.ref (a 18), .ref (a 21), .int (rI 0), .int (rI 1), .int (rI 2)]))], wH E a 21 (pF 0) (pF 1) (pF 2) (pF 3) (pF 4) (pF 5) (pF 6) (pF 7) (pF 8) (pI 0) (pI 1) (pI 2) (pI 3) (pI 4), wH E a 31 se sn be so lo he n1 n2 n3 (nI R) (nI K) (nI G) (nI 0) (nI 0), [(a 41, .inl (E.1.1 102, 2, .inr (.inr (.inr (.inr (imA a))))))], wH E a 42 (iF 0 0) (iF 0 1) (iF 0 2) (iF 0 3) (iF 0 4) (iF 0 5) (iF 0 6) (iF 0 7) (iF 0 8) (nI (iR 0)) (nI (iK 0)) (nI (iG 0)) (iu 0) (ig 0), wH E a 52 (iF 1 0) (iF 1 1) (iF 1 2) (iF 1 3) (iF 1 4) (iF 1 5) (iF 1 6) (iF 1 7) (iF 1 8) (nI (iR 1)) (nI (iK 1)) (nI (iG 1)) (iu 1) (ig 1), wA E a 62 kp (nI h) (nI x), wF E a 64 31 65 75 (uI 0) (uI 1) (uI 2), wH E a 65 (cF 0) (cF 1) (cF 2) (cF 3) (cF 4) (cF 5) (cF 6) (cF 7) (cF 8) (cI 0) (cI 1) (cI 2) (cI 3) (nI cg), [(a 75, iA E 5 fi), (a 76, iA E 5 sr)], wQ E a 77 31 s] [w0 E a fn (nI 1)] [w0 E a fn (nI 1), [(a 1, .inl (E.1.1 101, 8, .inr (.inr (.inr (.inr (rwA a))))))], wRS E a it th ln sz, wT E a 18 t (nI S) (tI 0) (tI 1) (tI 2) (tI 3), [(a 20, .inr (4, [.ref (a 18), .ref (a 21), .int (rI 0), .int (rI 1), .int (rI 2)]))], wH E a 21 (pF 0) (pF 1) (pF 2) (pF 3) (pF 4) (pF 5) (pF 6) (pF 7) (pF 8) (pI 0) (pI 1) (pI 2) (pI 3) (pI 4), wH E a 31 se sn be so lo he n1 n2 n3 (nI R) (nI K) (nI G) (nI 0) (nI 0), [(a 41, .inl (E.1.1 102, 2, .inr (.inr (.inr (.inr (imA a))))))], wH E a 42 (iF 0 0) (iF 0 1) (iF 0 2) (iF 0 3) (iF 0 4) (iF 0 5) (iF 0 6) (iF 0 7) (iF 0 8) (nI (iR 0)) (nI (iK 0)) (nI (iG 0)) (iu 0) (ig 0), wH E a 52 (iF 1 0) (iF 1 1) (iF 1 2) (iF 1 3) (iF 1 4) (iF 1 5) (iF 1 6) (iF 1 7) (iF 1 8) (nI (iR 1)) (nI (iK 1)) (nI (iG 1)) (iu 1) (ig 1), wA E a 62 kp (nI h) (nI x), wF E a 64 31 65 75 (uI 0) (uI 1) (uI 2), wH E a 65 (cF 0) (cF 1) (cF 2) (cF 3) (cF 4) (cF 5) (cF 6) (cF 7) (cF 8) (cI 0) (cI 1) (cI 2) (cI 3) (nI cg), [(a 75, iA E 5 fi), (a 76, iA E 5 sr)], wQ E a 77 31 s] rfl (by decide) rfl rfl rfl) ?_
          refine mr_iret C dX7_copy_54 rfl rfl (by decide) (by decide) hlen ?_
          rw [hO]
          exact ⟨_, _, _, _, _, _, rfl, rfl, (ifP_t (by omega)).mpr ((ifP_t (by rw [iu_]; exact Or.inr c_46)).mpr ⟨rfl, rfl⟩)⟩
    · rw [bI_eq] at c_11
      refine mr_ldc C 16 dX7_copy_14 rfl kc_X7_70 ?_
      refine mr_iret C dX7_copy_16 rfl rfl (by decide) (by decide) hlen ?_
      rw [hO]
      exact ⟨_, _, _, _, _, _, rfl, rfl, (ifP_f (by omega)).mpr ⟨rfl, rfl⟩⟩

