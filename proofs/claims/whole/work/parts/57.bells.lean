/-! the class' calls: bells by a row -/
/-- bells gone, counts ahead, places, heads, acts -/
abbrev BST : Type := Nat × FN × FN × FN × ACT
def BellsS (R K : Nat) (sn so f : FN) (i : Nat) (z : BST) : Nat → BST → Prop
  | 0, z' => z' = z
  | n + 1, z' => ∃ y : BST, BellsS R K sn so f i z n y ∧ (∃ v, BellS R K sn so y.2.2.2.1 y.1 y.2.1 y.2.2.1 v z'.1 z'.2.1 z'.2.2.1) ∧ z'.2.2.2.2 = keepS y.2.2.2.2 sn y.2.1 y.2.2.1 y.2.2.2.1 y.1 ∧ ∀ c, c < K → z'.2.2.2.1 c = adH y.2.2.2.1 (f (i + n)) c
def fullP (K G : Nat) (he f : FN) (i n : Nat) : Prop := 9999 < G + n ∨ ∃ c, c < K ∧ ¬ he c + cbS f i (nI c) n ≤ nI 99
noncomputable def NxBells (r i n : Int32) (R K : Nat) (sn so : FN) (it : Nat → FN) (th sz : FN) (fd : Int32) (z : BST) (v fd' : Int32) (z' : BST) : Prop :=
  ifP (R = 0) (v = -1000002 ∧ fd' = fd ∧ z' = z) (ifP (0 ≤ r.toInt ∧ r.toInt < 8 ∧ 1 ≤ n.toInt ∧ n.toInt ≤ 24)
    (ifP (th (iN r) = nI 0) (v = -1000010 - nI 1 ∧ fd' = nI 1 ∧ z' = z)
      (ifP (0 ≤ i.toInt ∧ i.toInt + n.toInt ≤ (sz (iN r)).toInt)
        (ifP (∀ j, j < iN n → ¬ it (iN r) (iN i + j) < 0 ∧ it (iN r) (iN i + j) < nI 1 <<< (nI K &&& 31))
          (ifP (fullP K z.1 z.2.2.2.1 (it (iN r)) (iN i) (iN n)) (v = -1000003 ∧ fd' = fd ∧ z' = z)
            (v = sumA z'.2.2.2.1 K ∧ fd' = nI 0 ∧ BellsS R K sn so (it (iN r)) (iN i) z (iN n) z'))
          (v = -1000001 ∧ fd' = fd ∧ z' = z))
        (v = -1000010 - nI 2 ∧ fd' = nI 2 ∧ z' = z)))
    (v = -1000001 ∧ fd' = fd ∧ z' = z))
theorem BellS.lo {R K : Nat} {sn so he : FN} {G : Nat} {be lo : FN} {v : Int32} {G' : Nat} {be' lo' : FN} (h : BellS R K sn so he G be lo v G' be' lo') (hR : R ≤ 6) (hl : ∀ c, c < K → lo c = nI (lN_ lo c) ∧ lN_ lo c < R) : ∀ c, c < K → lo' c = nI (lN_ lo' c) ∧ lN_ lo' c < R := by
  intro c hc
  have e := h.2.2.2 c hc
  have hlt : (rg1 (nI 0) 0 R K sn so he (G, be, lN_ lo)).2.2 c < R := goS_ltR (hl c hc).2
  have e2 : lN_ lo' c = (rg1 (nI 0) 0 R K sn so he (G, be, lN_ lo)).2.2 c := by unfold lN_; rw [e]; exact iN_n (by omega)
  rw [e2]
  exact ⟨e, hlt⟩
theorem keepS_ok {y : ACT} {sn be lo he : FN} {G : Nat} (h : y.2.1 ≤ 24 ∧ y.2.2 < 24) : (keepS y sn be lo he G).2.1 ≤ 24 ∧ (keepS y sn be lo he G).2.2 < 24 := by
  refine ⟨Nat.min_le_right _ _, ?_⟩
  show (if y.2.2 + 1 < 24 then y.2.2 + 1 else 0) < 24
  split <;> omega
set_option maxRecDepth 20000 in
set_option maxHeartbeats 4000000 in
theorem c_tooMany (E : EG) (a : Nat → Nat) (fn fd : Int32) (it : Nat → FN) (th ln sz t : FN) (S : Nat) (tI rI : FN) (pF : Nat → FN) (pI se sn be so lo he n1 n2 n3 : FN) (R K G : Nat) (iF : Nat → Nat → FN) (iR iK iG : Nat → Nat) (iu ig kp : FN) (h x : Nat) (uI : FN) (cF : Nat → FN) (cI : FN) (cg : Nat) (fi sr : FN) (s : TRC) (r i n : Nat) (hr : r < 8) (hin : i + n ≤ 40) (hK : K ≤ 5) : Ctr E mX7_tooManyHeads (2, 0, 0) [.ref (a 0), .ref (a (2 + 2 * r)), .int (nI i), .int (nI n)] (wX E a fn fd it th ln sz t S tI rI pF pI se sn be so lo he n1 n2 n3 R K G iF iR iK iG iu ig kp h x uI cF cI cg fi sr s) (fun v w => v = some (.int (bP (∃ c, c < K ∧ ¬ he c + cbS (it r) i (nI c) n ≤ nI 99))) ∧ w = wX E a fn fd it th ln sz t S tI rI pF pI se sn be so lo he n1 n2 n3 R K G iF iR iK iG iu ig kp h x uI cF cI cg fi sr s) := by
  refine Ctr.of (by decide) (Nat.le_of_ble_eq_true rfl) ?_
  intro Z hO hn C
  have hlen : zn Z ≤ 79 := by rw [hn]; exact Nat.le_of_ble_eq_true rfl
  have L : ∀ c, c ≤ K → (∀ j, j < c → he j + cbS (it r) i (nI j) n ≤ nI 99) → V E mX7_tooManyHeads (2, 0, 0) Z 0 0 (wX E a fn fd it th ln sz t S tI rI pF pI se sn be so lo he n1 n2 n3 R K G iF iR iK iG iu ig kp h x uI cF cI cg fi sr s) [(0, .ref (a 0)), (1, .ref (a (2 + 2 * r))), (2, .int (nI i)), (3, .int (nI n)), (4, .int (nI c))] [] 3 := by
    refine lp_up K ?_
    intro c hc ih hf
    refine mr_iload C 5 dX7_tooManyHeads_3 rfl rfl ?_
    refine mr_aload_n C 6 dX7_tooManyHeads_5 rfl rfl ?_
    refine mr_get C 0 9 dX7_tooManyHeads_6 rfl fl_X7_34 rfl rfl ?_
    refine mr_get C 31 12 dX7_tooManyHeads_9 rfl fl_X7_152 rfl rfl ?_
    refine mr_icmpge C 47 15 dX7_tooManyHeads_12 (by decide) rfl (fun c_12 => ?_) (fun c_12 => ?_)
    · rw [nI_leI (by omega) (by omega)] at c_12
      refine mr_iconst C (nI 0) 48 dX7_tooManyHeads_47 rfl rfl ?_
      refine mr_iret C dX7_tooManyHeads_48 rfl rfl (by decide) (by decide) hlen ?_
      rw [hO]
      obtain rfl : c = K := by omega
      exact ⟨congrArg (fun z => some (Value.int z)) (bP_f (fun h => by obtain ⟨j, hj, e⟩ := h; exact e (hf j hj))), rfl⟩
    · rw [nI_leI (by omega) (by omega)] at c_12
      refine mr_aload_n C 16 dX7_tooManyHeads_15 rfl rfl ?_
      refine mr_get C 0 19 dX7_tooManyHeads_16 rfl fl_X7_34 rfl rfl ?_
      refine mr_get C 31 22 dX7_tooManyHeads_19 rfl fl_X7_183 rfl rfl ?_
      refine mr_iload C 24 dX7_tooManyHeads_22 rfl rfl ?_
      refine mr_iald C 37 c 25 dX7_tooManyHeads_24 rfl rfl rfl (by omega) (by decide) ?_
      refine mr_aload_n C 26 dX7_tooManyHeads_25 rfl rfl ?_
      refine mr_iload_n C 27 dX7_tooManyHeads_26 rfl rfl ?_
      refine mr_iload_n C 28 dX7_tooManyHeads_27 rfl rfl ?_
      refine mr_iload C 30 dX7_tooManyHeads_28 rfl rfl ?_
      refine mr_callV C (c_countBit E a (2 + 2 * r) (it r) (th r) (ln r) (sz r) (nI c) i n (by omega)) (cutR r) (2 + 2 * r) 5 33 dX7_tooManyHeads_30 rfl mk_X5_countBit mi_X5_countBit ml_X7_256 rfl rfl rfl (wX_cutR E a fn fd it th ln sz t S tI rI pF pI se sn be so lo he n1 n2 n3 R K G iF iR iK iG iu ig kp h x uI cF cI cg fi sr s r hr) (cutR_nd r) (Nat.le_of_ble_eq_true rfl) (by decide) (by decide) (by decide) (wX_row E a fn fd it th ln sz t S tI rI pF pI se sn be so lo he n1 n2 n3 R K G iF iR iK iG iu ig kp h x uI cF cI cg fi sr s r hr).1 rfl (fun r_ w1 hpost => ?_)
      obtain ⟨rfl, rfl⟩ := hpost
      refine mr_w (wput_id (wX_cutR E a fn fd it th ln sz t S tI rI pF pI se sn be so lo he n1 n2 n3 R K G iF iR iK iG iu ig kp h x uI cF cI cg fi sr s r hr)) ?_
      refine mr_iadd C _ 34 dX7_tooManyHeads_33 rfl rfl ?_
      refine mr_bipush C (nI 99) 36 dX7_tooManyHeads_34 rfl rfl ?_
      refine mr_icmple C 41 39 dX7_tooManyHeads_36 (by decide) rfl (fun c_36 => ?_) (fun c_36 => ?_)
      · refine mr_iinc C (nI (c + 1)) 44 dX7_tooManyHeads_41 rfl rfl (by decide) (nI_add c 1) ?_
        refine mr_goto C 3 dX7_tooManyHeads_44 (by decide) ?_
        refine mr_at (ih (by omega) ?_) rfl rfl rfl
        intro j hj
        by_cases e : j = c
        · rw [e]; exact c_36
        · exact hf j (by omega)
      · refine mr_iconst C (nI 1) 40 dX7_tooManyHeads_39 rfl rfl ?_
        refine mr_iret C dX7_tooManyHeads_40 rfl rfl (by decide) (by decide) hlen ?_
        rw [hO]
        exact ⟨congrArg (fun z => some (Value.int z)) (bP_t ⟨c, by omega, c_36⟩), rfl⟩
  refine mr_iconst C (nI 0) 1 dX7_tooManyHeads_0 rfl rfl ?_
  refine mr_istore C 3 dX7_tooManyHeads_1 rfl (by decide) ?_
  exact mr_at (L 0 (Nat.zero_le _) (fun j h => absurd h (Nat.not_lt_zero j))) rfl rfl rfl

set_option maxRecDepth 20000 in
set_option maxHeartbeats 4000000 in
theorem c_x_bells (E : EG) (a : Nat → Nat) (fn fd : Int32) (it : Nat → FN) (th ln sz t : FN) (S : Nat) (tI rI : FN) (pF : Nat → FN) (pI se sn be so lo he n1 n2 n3 : FN) (R K G : Nat) (iF : Nat → Nat → FN) (iR iK iG : Nat → Nat) (iu ig kp : FN) (h x : Nat) (uI : FN) (cF : Nat → FN) (cI : FN) (cg : Nat) (fi sr : FN) (s : TRC) (r0 i0 n0 : Int32) (hri : RI th sz) (hR : R ≤ 6) (hK : K ≤ 5) (hG : G ≤ 9999) (hl : ∀ c, c < K → lo c = nI (lN_ lo c) ∧ lN_ lo c < R) (hh : h ≤ 24) (hx : x < 24) : Ctr E mX7_bells (5, 0, 0) [.ref (a 0), .int r0, .int i0, .int n0] (wX E a fn fd it th ln sz t S tI rI pF pI se sn be so lo he n1 n2 n3 R K G iF iR iK iG iu ig kp h x uI cF cI cg fi sr s) (fun v w => ∃ (v' fd' : Int32) (G' : Nat) (be' lo' he' : FN) (y' : ACT) (n1' n2' n3' : FN), v = some (.int v') ∧ w = wX E a fn fd' it th ln sz t S tI rI pF pI se sn be' so lo' he' n1' n2' n3' R K G' iF iR iK iG iu ig y'.1 y'.2.1 y'.2.2 uI cF cI cg fi sr s ∧ NxBells r0 i0 n0 R K sn so it th sz fd (G, be, lo, he, (kp, h, x)) v' fd' (G', be', lo', he', y')) := by
  refine Ctr.of (by decide) (Nat.le_of_ble_eq_true rfl) ?_
  intro Z hO hn C
  have hlen : zn Z ≤ 79 := by rw [hn]; exact Nat.le_of_ble_eq_true rfl
  refine mr_aload_n C 1 dX7_bells_0 rfl rfl ?_
  refine mr_get C 0 4 dX7_bells_1 rfl fl_X7_34 rfl rfl ?_
  refine mr_get C 31 7 dX7_bells_4 rfl fl_X7_138 rfl rfl ?_
  refine mr_ifne C 13 10 dX7_bells_7 (by decide) rfl (fun c_7 => ?_) (fun c_7 => ?_)
  · have c_7 : ¬ R = 0 := fun h => c_7 (by rw [h]; rfl)
    refine mr_iload_n C 14 dX7_bells_13 rfl rfl ?_
    refine mr_callS C (c_isRow E r0) [] 17 dX7_bells_14 rfl mk_X7_isRow ms_X7_isRow ml_X7_66 rfl rfl rfl rfl (Nat.le_of_ble_eq_true rfl) (by decide) (by decide) (by decide) (fun r w1 hpost => ?_)
    obtain ⟨rfl, rfl⟩ := hpost
    refine mr_w (ws' := wX E a fn fd it th ln sz t S tI rI pF pI se sn be so lo he n1 n2 n3 R K G iF iR iK iG iu ig kp h x uI cF cI cg fi sr s) rfl ?_
    refine mr_ifeq C 31 20 dX7_bells_17 (by decide) rfl (fun c_17 => ?_) (fun c_17 => ?_)
    · rw [bI_eq] at c_17
      refine mr_ldc C 33 dX7_bells_31 rfl kc_X7_70 ?_
      refine mr_iret C dX7_bells_33 rfl rfl (by decide) (by decide) hlen ?_
      rw [hO]
      exact ⟨_, _, G, be, lo, he, (kp, h, x), n1, n2, n3, rfl, rfl, (ifP_f c_7).mpr ((ifP_f (by omega)).mpr ⟨rfl, rfl, rfl⟩)⟩
    · rw [← Ne, bI_ne] at c_17
      refine mr_iload_n C 21 dX7_bells_20 rfl rfl ?_
      refine mr_iconst C (nI 1) 22 dX7_bells_21 rfl rfl ?_
      refine mr_icmplt C 31 25 dX7_bells_22 (by decide) rfl (fun c_22 => ?_) (fun c_22 => ?_)
      · rw [tI_lt (by omega)] at c_22
        refine mr_ldc C 33 dX7_bells_31 rfl kc_X7_70 ?_
        refine mr_iret C dX7_bells_33 rfl rfl (by decide) (by decide) hlen ?_
        rw [hO]
        exact ⟨_, _, G, be, lo, he, (kp, h, x), n1, n2, n3, rfl, rfl, (ifP_f c_7).mpr ((ifP_f (by omega)).mpr ⟨rfl, rfl, rfl⟩)⟩
      · rw [tI_lt (by omega)] at c_22
        refine mr_iload_n C 26 dX7_bells_25 rfl rfl ?_
        refine mr_bipush C (nI 24) 28 dX7_bells_26 rfl rfl ?_
        refine mr_icmple C 34 31 dX7_bells_28 (by decide) rfl (fun c_28 => ?_) (fun c_28 => ?_)
        · rw [tI_le (by omega)] at c_28
          obtain ⟨r, hr, rfl⟩ := tI_of (x := r0) (n := 8) (by omega) (by omega)
          have er : (nI r).toInt = (r : Int) := tI_n (by omega)
          have ir_ : iN (nI r) = r := iN_n (by omega)
          obtain ⟨n, hn, rfl⟩ := tI_of (x := n0) (n := 25) (by omega) (by omega)
          have en : (nI n).toInt = (n : Int) := tI_n (by omega)
          have in_ : iN (nI n) = n := iN_n (by omega)
          refine mr_aload_n C 35 dX7_bells_34 rfl rfl ?_
          refine mr_get C 0 38 dX7_bells_35 rfl fl_X7_11 rfl rfl ?_
          refine mr_iload_n C 39 dX7_bells_38 rfl rfl ?_
          refine mr_aald C 1 r 1 (a (2 + 2 * r)) 40 dX7_bells_39 rfl rfl rfl rfl hr (by decide) (if_pos hr) ?_
          refine mr_astore C 42 dX7_bells_40 rfl (by decide) ?_
          refine mr_aload C 44 dX7_bells_42 rfl rfl ?_
          refine mr_get C (2 + 2 * r) 47 dX7_bells_44 rfl fl_X7_83 (wX_row E a fn fd it th ln sz t S tI rI pF pI se sn be so lo he n1 n2 n3 R K G iF iR iK iG iu ig kp h x uI cF cI cg fi sr s r hr).1 rfl ?_
          refine mr_ifne C 56 50 dX7_bells_47 (by decide) rfl (fun c_47 => ?_) (fun c_47 => ?_)
          · have hth : th r ≠ nI 0 := c_47
            obtain ⟨m, hm9, hsz⟩ : ∃ n, n ≤ 40 ∧ sz r = nI n := (hri r hr).elim (fun h => absurd h hth) (fun h => h.2)
            have em : (nI m).toInt = (m : Int) := tI_n (by omega)
            refine mr_aload C 58 dX7_bells_56 rfl rfl ?_
            refine mr_iload_n C 59 dX7_bells_58 rfl rfl ?_
            refine mr_iload_n C 60 dX7_bells_59 rfl rfl ?_
            refine mr_callV C ((show Ctr E mX5_holds (1, 0, 0) [.ref (a (2 + 2 * r)), .int i0, .int (nI n)] (wR E a (2 + 2 * r) (it r) (th r) (ln r) (sz r)) (fun v w => v = some (.int (bI (0 ≤ (nI n : Int32).toInt ∧ 0 ≤ (i0 : Int32).toInt ∧ (i0 : Int32).toInt + (nI n : Int32).toInt ≤ (m : Nat)))) ∧ w = wR E a (2 + 2 * r) (it r) (th r) (ln r) (sz r)) by rw [hsz]; exact c_holdsI E a (2 + 2 * r) (it r) (th r) (ln r) i0 (nI n) m (by omega))) (cutR r) (2 + 2 * r) 5 63 dX7_bells_60 rfl mk_X5_holds mi_X5_holds ml_X7_87 rfl rfl rfl (wX_cutR E a fn fd it th ln sz t S tI rI pF pI se sn be so lo he n1 n2 n3 R K G iF iR iK iG iu ig kp h x uI cF cI cg fi sr s r hr) (cutR_nd r) (Nat.le_of_ble_eq_true rfl) (by decide) (by decide) (by decide) (wX_row E a fn fd it th ln sz t S tI rI pF pI se sn be so lo he n1 n2 n3 R K G iF iR iK iG iu ig kp h x uI cF cI cg fi sr s r hr).1 rfl (fun r_ w1 hpost => ?_)
            obtain ⟨rfl, rfl⟩ := hpost
            refine mr_w (wput_id (wX_cutR E a fn fd it th ln sz t S tI rI pF pI se sn be so lo he n1 n2 n3 R K G iF iR iK iG iu ig kp h x uI cF cI cg fi sr s r hr)) ?_
            refine mr_ifne C 72 66 dX7_bells_63 (by decide) rfl (fun c_63 => ?_) (fun c_63 => ?_)
            · rw [bI_ne] at c_63
              obtain ⟨i, hi, rfl⟩ := tI_of (x := i0) (n := 41) (by omega) (by omega)
              have ei : (nI i).toInt = (i : Int) := tI_n (by omega)
              have ii_ : iN (nI i) = i := iN_n (by omega)
              have hpl : 0 ≤ (nI i).toInt ∧ (nI i).toInt + (nI n).toInt ≤ (sz (iN (nI r))).toInt := by rw [ir_, hsz]; omega
              refine mr_aload C 74 dX7_bells_72 rfl rfl ?_
              refine mr_iload_n C 75 dX7_bells_74 rfl rfl ?_
              refine mr_iload_n C 76 dX7_bells_75 rfl rfl ?_
              refine mr_iconst C (nI 1) 77 dX7_bells_76 rfl rfl ?_
              refine mr_aload_n C 78 dX7_bells_77 rfl rfl ?_
              refine mr_get C 0 81 dX7_bells_78 rfl fl_X7_34 rfl rfl ?_
              refine mr_get C 31 84 dX7_bells_81 rfl fl_X7_152 rfl rfl ?_
              refine mr_ishl C (nI 1 <<< (nI K &&& 31)) 85 dX7_bells_84 rfl rfl ?_
              refine mr_callV C (c_holdsSets E a (2 + 2 * r) (it r) (th r) (ln r) (sz r) (nI 1 <<< (nI K &&& 31)) i n (by omega)) (cutR r) (2 + 2 * r) 5 88 dX7_bells_85 rfl mk_X5_holdsSets mi_X5_holdsSets ml_X7_155 rfl rfl rfl (wX_cutR E a fn fd it th ln sz t S tI rI pF pI se sn be so lo he n1 n2 n3 R K G iF iR iK iG iu ig kp h x uI cF cI cg fi sr s r hr) (cutR_nd r) (Nat.le_of_ble_eq_true rfl) (by decide) (by decide) (by decide) (wX_row E a fn fd it th ln sz t S tI rI pF pI se sn be so lo he n1 n2 n3 R K G iF iR iK iG iu ig kp h x uI cF cI cg fi sr s r hr).1 rfl (fun r_ w1 hpost => ?_)
              obtain ⟨rfl, rfl⟩ := hpost
              refine mr_w (wput_id (wX_cutR E a fn fd it th ln sz t S tI rI pF pI se sn be so lo he n1 n2 n3 R K G iF iR iK iG iu ig kp h x uI cF cI cg fi sr s r hr)) ?_
              refine mr_ifne C 94 91 dX7_bells_88 (by decide) rfl (fun c_88 => ?_) (fun c_88 => ?_)
              · rw [bI_ne] at c_88
                refine mr_aload_n C 95 dX7_bells_94 rfl rfl ?_
                refine mr_get C 0 98 dX7_bells_95 rfl fl_X7_34 rfl rfl ?_
                refine mr_get C 31 101 dX7_bells_98 rfl fl_X7_142 rfl rfl ?_
                refine mr_sipush C (nI 9999) 104 dX7_bells_101 rfl rfl ?_
                refine mr_iload_n C 105 dX7_bells_104 rfl rfl ?_
                refine mr_isub C (nI (9999 - n)) 106 dX7_bells_105 rfl (pk_sub (by omega)) ?_
                refine mr_icmpgt C 120 109 dX7_bells_106 (by decide) rfl (fun c_106 => ?_) (fun c_106 => ?_)
                · rw [nI_ltI (by omega) (by omega)] at c_106
                  refine mr_ldc C 122 dX7_bells_120 rfl kc_X7_112 ?_
                  refine mr_iret C dX7_bells_122 rfl rfl (by decide) (by decide) hlen ?_
                  rw [hO]
                  exact ⟨_, _, G, be, lo, he, (kp, h, x), n1, n2, n3, rfl, rfl, (ifP_f c_7).mpr ((ifP_t (by omega)).mpr ((ifP_f (by rw [ir_]; exact hth)).mpr ((ifP_t hpl).mpr ((ifP_t (by rw [ir_, ii_, in_]; exact c_88)).mpr ((ifP_t (by rw [ir_, ii_, in_]; exact Or.inl (by omega))).mpr ⟨rfl, rfl, rfl⟩)))))⟩
                · rw [nI_ltI (by omega) (by omega)] at c_106
                  refine mr_aload_n C 110 dX7_bells_109 rfl rfl ?_
                  refine mr_aload C 112 dX7_bells_110 rfl rfl ?_
                  refine mr_iload_n C 113 dX7_bells_112 rfl rfl ?_
                  refine mr_iload_n C 114 dX7_bells_113 rfl rfl ?_
                  refine mr_callV C (c_tooMany E a fn fd it th ln sz t S tI rI pF pI se sn be so lo he n1 n2 n3 R K G iF iR iK iG iu ig kp h x uI cF cI cg fi sr s r i n hr (by omega) hK) [0, 1, 2, 3, 4, 5, 6, 7, 8, 9, 10, 11, 12, 13, 14, 15, 16, 17, 18, 19, 20, 21, 22, 23, 24, 25, 26, 27, 28, 29, 30, 31, 32, 33, 34, 35, 36, 37, 38, 39, 40, 41, 42, 43, 44, 45, 46, 47, 48, 49, 50, 51, 52, 53, 54, 55, 56, 57, 58, 59, 60, 61, 62, 63, 64, 65, 66, 67, 68, 69, 70, 71, 72, 73, 74, 75, 76, 77, 78] 0 7 117 dX7_bells_114 rfl mk_X7_tooManyHeads mi_X7_tooManyHeads ml_X7_159 rfl rfl rfl rfl rfl (Nat.le_of_ble_eq_true rfl) (by decide) (by decide) (by decide) rfl rfl (fun r w1 hpost => ?_)
                  obtain ⟨rfl, rfl⟩ := hpost
                  refine mr_w (wput_all _ _ 79 rfl rfl) ?_
                  refine mr_ifeq C 123 120 dX7_bells_117 (by decide) rfl (fun c_117 => ?_) (fun c_117 => ?_)
                  · rw [bP_eq] at c_117
                    refine mr_iconst C (nI 0) 124 dX7_bells_123 rfl rfl ?_
                    refine mr_istore C 126 dX7_bells_124 rfl (by decide) ?_
                    have hR0 := c_7
                    have hset : ∀ j, j < iN (nI n) → ¬ it (iN (nI r)) (iN (nI i) + j) < 0 ∧ it (iN (nI r)) (iN (nI i) + j) < nI 1 <<< (nI K &&& 31) := by rw [ir_, ii_, in_]; exact c_88
                    have hful : ¬ fullP K G he (it (iN (nI r))) (iN (nI i)) (iN (nI n)) := by
                      rw [ir_, ii_, in_]
                      rintro (h | h)
                      · omega
                      · exact c_117 h
                    have LB : ∀ k, k ≤ n → ∀ (Gk : Nat) (bk lk ek : FN) (yk : ACT) (m1 m2 m3 : FN), Gk = G + k → (∀ c, c < K → lk c = nI (lN_ lk c) ∧ lN_ lk c < R) → (yk.2.1 ≤ 24 ∧ yk.2.2 < 24) → BellsS R K sn so (it r) i (G, be, lo, he, (kp, h, x)) k (Gk, bk, lk, ek, yk) → V E mX7_bells (5, 0, 0) Z 0 0 (wX E a fn fd it th ln sz t S tI rI pF pI se sn bk so lk ek m1 m2 m3 R K Gk iF iR iK iG iu ig yk.1 yk.2.1 yk.2.2 uI cF cI cg fi sr s) [(0, .ref (a 0)), (1, .int (nI r)), (2, .int (nI i)), (3, .int (nI n)), (4, .ref (a (2 + 2 * r))), (5, .int (nI k))] [] 126 := by
                      refine lp_up n ?_
                      intro k hk9 ih Gk bk lk ek yk m1 m2 m3 hGk hlk hyk hBk
                      refine mr_iload C 128 dX7_bells_126 rfl rfl ?_
                      refine mr_iload_n C 129 dX7_bells_128 rfl rfl ?_
                      refine mr_icmpge C 174 132 dX7_bells_129 (by decide) rfl (fun c_129 => ?_) (fun c_129 => ?_)
                      · rw [nI_leI (by omega) (by omega)] at c_129
                        refine mr_aload_n C 175 dX7_bells_174 rfl rfl ?_
                        refine mr_iconst C (nI 0) 176 dX7_bells_175 rfl rfl ?_
                        refine mr_put C 0 179 dX7_bells_176 rfl fs_X7_79 rfl rfl rfl (Nat.le_of_ble_eq_true rfl) ?_
                        refine mr_w (ws' := wX E a fn (nI 0) it th ln sz t S tI rI pF pI se sn bk so lk ek m1 m2 m3 R K Gk iF iR iK iG iu ig yk.1 yk.2.1 yk.2.2 uI cF cI cg fi sr s) rfl ?_
                        refine mr_aload_n C 180 dX7_bells_179 rfl rfl ?_
                        refine mr_get C 0 183 dX7_bells_180 rfl fl_X7_34 rfl rfl ?_
                        refine mr_callV C (c_allHeads E a 31 se sn bk so lk ek m1 m2 m3 (nI R) (nI Gk) (nI 0) (nI 0) K hK) [31, 32, 33, 34, 35, 36, 37, 38, 39, 40] 31 3 186 dX7_bells_183 rfl mk_X3_allHeads mi_X3_allHeads ml_X7_167 rfl rfl rfl (jn_cut [1, 1, 16, 2, 1, 10, 10, 1, 10, 10, 2, 1, 10, 2, 2] [6] [w0 E a fn ((nI 0)), [(a 1, .inl (E.1.1 101, 8, .inr (.inr (.inr (.inr (rwA a))))))], wRS E a it th ln sz, wT E a 18 t (nI S) (tI 0) (tI 1) (tI 2) (tI 3), [(a 20, .inr (4, [.ref (a 18), .ref (a 21), .int (rI 0), .int (rI 1), .int (rI 2)]))], wH E a 21 (pF 0) (pF 1) (pF 2) (pF 3) (pF 4) (pF 5) (pF 6) (pF 7) (pF 8) (pI 0) (pI 1) (pI 2) (pI 3) (pI 4), wH E a 31 se sn bk so lk ek m1 m2 m3 (nI R) (nI K) (nI Gk) (nI 0) (nI 0), [(a 41, .inl (E.1.1 102, 2, .inr (.inr (.inr (.inr (imA a))))))], wH E a 42 (iF 0 0) (iF 0 1) (iF 0 2) (iF 0 3) (iF 0 4) (iF 0 5) (iF 0 6) (iF 0 7) (iF 0 8) (nI (iR 0)) (nI (iK 0)) (nI (iG 0)) (iu 0) (ig 0), wH E a 52 (iF 1 0) (iF 1 1) (iF 1 2) (iF 1 3) (iF 1 4) (iF 1 5) (iF 1 6) (iF 1 7) (iF 1 8) (nI (iR 1)) (nI (iK 1)) (nI (iG 1)) (iu 1) (ig 1), wA E a 62 yk.1 (nI yk.2.1) (nI yk.2.2), wF E a 64 31 65 75 (uI 0) (uI 1) (uI 2), wH E a 65 (cF 0) (cF 1) (cF 2) (cF 3) (cF 4) (cF 5) (cF 6) (cF 7) (cF 8) (cI 0) (cI 1) (cI 2) (cI 3) (nI cg), [(a 75, iA E 5 fi), (a 76, iA E 5 sr)], wQ E a 77 31 s] [wH E a 31 se sn bk so lk ek m1 m2 m3 (nI R) (nI K) (nI Gk) (nI 0) (nI 0)] rfl (by decide) rfl rfl) rfl (Nat.le_of_ble_eq_true rfl) (by decide) (by decide) (by decide) rfl rfl (fun r w1 hpost => ?_)
                        obtain ⟨rfl, rfl⟩ := hpost
                        refine mr_w (wput_id (jn_cut [1, 1, 16, 2, 1, 10, 10, 1, 10, 10, 2, 1, 10, 2, 2] [6] [w0 E a fn ((nI 0)), [(a 1, .inl (E.1.1 101, 8, .inr (.inr (.inr (.inr (rwA a))))))], wRS E a it th ln sz, wT E a 18 t (nI S) (tI 0) (tI 1) (tI 2) (tI 3), [(a 20, .inr (4, [.ref (a 18), .ref (a 21), .int (rI 0), .int (rI 1), .int (rI 2)]))], wH E a 21 (pF 0) (pF 1) (pF 2) (pF 3) (pF 4) (pF 5) (pF 6) (pF 7) (pF 8) (pI 0) (pI 1) (pI 2) (pI 3) (pI 4), wH E a 31 se sn bk so lk ek m1 m2 m3 (nI R) (nI K) (nI Gk) (nI 0) (nI 0), [(a 41, .inl (E.1.1 102, 2, .inr (.inr (.inr (.inr (imA a))))))], wH E a 42 (iF 0 0) (iF 0 1) (iF 0 2) (iF 0 3) (iF 0 4) (iF 0 5) (iF 0 6) (iF 0 7) (iF 0 8) (nI (iR 0)) (nI (iK 0)) (nI (iG 0)) (iu 0) (ig 0), wH E a 52 (iF 1 0) (iF 1 1) (iF 1 2) (iF 1 3) (iF 1 4) (iF 1 5) (iF 1 6) (iF 1 7) (iF 1 8) (nI (iR 1)) (nI (iK 1)) (nI (iG 1)) (iu 1) (ig 1), wA E a 62 yk.1 (nI yk.2.1) (nI yk.2.2), wF E a 64 31 65 75 (uI 0) (uI 1) (uI 2), wH E a 65 (cF 0) (cF 1) (cF 2) (cF 3) (cF 4) (cF 5) (cF 6) (cF 7) (cF 8) (cI 0) (cI 1) (cI 2) (cI 3) (nI cg), [(a 75, iA E 5 fi), (a 76, iA E 5 sr)], wQ E a 77 31 s] [wH E a 31 se sn bk so lk ek m1 m2 m3 (nI R) (nI K) (nI Gk) (nI 0) (nI 0)] rfl (by decide) rfl rfl)) ?_
                        refine mr_iret C dX7_bells_186 rfl rfl (by decide) (by decide) hlen ?_
                        rw [hO]
                        obtain rfl : k = n := by omega
                        exact ⟨_, _, Gk, bk, lk, ek, yk, m1, m2, m3, rfl, rfl, (ifP_f hR0).mpr ((ifP_t (by omega)).mpr ((ifP_f (by rw [ir_]; exact hth)).mpr ((ifP_t hpl).mpr ((ifP_t hset).mpr ((ifP_f hful).mpr ⟨rfl, rfl, by rw [ir_, ii_, in_]; exact hBk⟩)))))⟩
                      · rw [nI_leI (by omega) (by omega)] at c_129
                        refine mr_aload_n C 133 dX7_bells_132 rfl rfl ?_
                        refine mr_get C 0 136 dX7_bells_133 rfl fl_X7_45 rfl rfl ?_
                        refine mr_aload_n C 137 dX7_bells_136 rfl rfl ?_
                        refine mr_get C 0 140 dX7_bells_137 rfl fl_X7_34 rfl rfl ?_
                        refine mr_callV C (c_keep E a 62 31 yk.1 yk.2.2 yk.2.1 se sn bk so lk ek m1 m2 m3 (nI R) (nI K) (nI Gk) (nI 0) (nI 0) hyk.2 hyk.1) [62, 63, 31, 32, 33, 34, 35, 36, 37, 38, 39, 40] 62 0 143 dX7_bells_140 rfl mk_X0_keep mi_X0_keep ml_X7_145 rfl rfl rfl (jn_cut [1, 1, 16, 2, 1, 10, 10, 1, 10, 10, 2, 1, 10, 2, 2] [10, 6] [w0 E a fn fd, [(a 1, .inl (E.1.1 101, 8, .inr (.inr (.inr (.inr (rwA a))))))], wRS E a it th ln sz, wT E a 18 t (nI S) (tI 0) (tI 1) (tI 2) (tI 3), [(a 20, .inr (4, [.ref (a 18), .ref (a 21), .int (rI 0), .int (rI 1), .int (rI 2)]))], wH E a 21 (pF 0) (pF 1) (pF 2) (pF 3) (pF 4) (pF 5) (pF 6) (pF 7) (pF 8) (pI 0) (pI 1) (pI 2) (pI 3) (pI 4), wH E a 31 se sn bk so lk ek m1 m2 m3 (nI R) (nI K) (nI Gk) (nI 0) (nI 0), [(a 41, .inl (E.1.1 102, 2, .inr (.inr (.inr (.inr (imA a))))))], wH E a 42 (iF 0 0) (iF 0 1) (iF 0 2) (iF 0 3) (iF 0 4) (iF 0 5) (iF 0 6) (iF 0 7) (iF 0 8) (nI (iR 0)) (nI (iK 0)) (nI (iG 0)) (iu 0) (ig 0), wH E a 52 (iF 1 0) (iF 1 1) (iF 1 2) (iF 1 3) (iF 1 4) (iF 1 5) (iF 1 6) (iF 1 7) (iF 1 8) (nI (iR 1)) (nI (iK 1)) (nI (iG 1)) (iu 1) (ig 1), wA E a 62 yk.1 (nI yk.2.1) (nI yk.2.2), wF E a 64 31 65 75 (uI 0) (uI 1) (uI 2), wH E a 65 (cF 0) (cF 1) (cF 2) (cF 3) (cF 4) (cF 5) (cF 6) (cF 7) (cF 8) (cI 0) (cI 1) (cI 2) (cI 3) (nI cg), [(a 75, iA E 5 fi), (a 76, iA E 5 sr)], wQ E a 77 31 s] [wA E a 62 yk.1 (nI yk.2.1) (nI yk.2.2), wH E a 31 se sn bk so lk ek m1 m2 m3 (nI R) (nI K) (nI Gk) (nI 0) (nI 0)] rfl (by decide) rfl rfl) rfl (Nat.le_of_ble_eq_true rfl) (by decide) (by decide) (by decide) rfl rfl (fun r w1 hpost => ?_)
                        obtain ⟨rfl, rfl⟩ := hpost
                        refine mr_w (ws' := wX E a fn fd it th ln sz t S tI rI pF pI se sn bk so lk ek m1 m2 m3 R K Gk iF iR iK iG iu ig (keepS yk sn bk lk ek Gk).1 (keepS yk sn bk lk ek Gk).2.1 (keepS yk sn bk lk ek Gk).2.2 uI cF cI cg fi sr s) (jn_put [1, 1, 16, 2, 1, 10, 10, 1, 10, 10, 2, 1, 10, 2, 2] [10, 6] [w0 E a fn fd, [(a 1, .inl (E.1.1 101, 8, .inr (.inr (.inr (.inr (rwA a))))))], wRS E a it th ln sz, wT E a 18 t (nI S) (tI 0) (tI 1) (tI 2) (tI 3), [(a 20, .inr (4, [.ref (a 18), .ref (a 21), .int (rI 0), .int (rI 1), .int (rI 2)]))], wH E a 21 (pF 0) (pF 1) (pF 2) (pF 3) (pF 4) (pF 5) (pF 6) (pF 7) (pF 8) (pI 0) (pI 1) (pI 2) (pI 3) (pI 4), wH E a 31 se sn bk so lk ek m1 m2 m3 (nI R) (nI K) (nI Gk) (nI 0) (nI 0), [(a 41, .inl (E.1.1 102, 2, .inr (.inr (.inr (.inr (imA a))))))], wH E a 42 (iF 0 0) (iF 0 1) (iF 0 2) (iF 0 3) (iF 0 4) (iF 0 5) (iF 0 6) (iF 0 7) (iF 0 8) (nI (iR 0)) (nI (iK 0)) (nI (iG 0)) (iu 0) (ig 0), wH E a 52 (iF 1 0) (iF 1 1) (iF 1 2) (iF 1 3) (iF 1 4) (iF 1 5) (iF 1 6) (iF 1 7) (iF 1 8) (nI (iR 1)) (nI (iK 1)) (nI (iG 1)) (iu 1) (ig 1), wA E a 62 yk.1 (nI yk.2.1) (nI yk.2.2), wF E a 64 31 65 75 (uI 0) (uI 1) (uI 2), wH E a 65 (cF 0) (cF 1) (cF 2) (cF 3) (cF 4) (cF 5) (cF 6) (cF 7) (cF 8) (cI 0) (cI 1) (cI 2) (cI 3) (nI cg), [(a 75, iA E 5 fi), (a 76, iA E 5 sr)], wQ E a 77 31 s] [wA E a 62 (keepS yk sn bk lk ek Gk).1 (nI (keepS yk sn bk lk ek Gk).2.1) (nI (keepS yk sn bk lk ek Gk).2.2), wH E a 31 se sn bk so lk ek m1 m2 m3 (nI R) (nI K) (nI Gk) (nI 0) (nI 0)] [w0 E a fn fd, [(a 1, .inl (E.1.1 101, 8, .inr (.inr (.inr (.inr (rwA a))))))], wRS E a it th ln sz, wT E a 18 t (nI S) (tI 0) (tI 1) (tI 2) (tI 3), [(a 20, .inr (4, [.ref (a 18), .ref (a 21), .int (rI 0), .int (rI 1), .int (rI 2)]))], wH E a 21 (pF 0) (pF 1) (pF 2) (pF 3) (pF 4) (pF 5) (pF 6) (pF 7) (pF 8) (pI 0) (pI 1) (pI 2) (pI 3) (pI 4), wH E a 31 se sn bk so lk ek m1 m2 m3 (nI R) (nI K) (nI Gk) (nI 0) (nI 0), [(a 41, .inl (E.1.1 102, 2, .inr (.inr (.inr (.inr (imA a))))))], wH E a 42 (iF 0 0) (iF 0 1) (iF 0 2) (iF 0 3) (iF 0 4) (iF 0 5) (iF 0 6) (iF 0 7) (iF 0 8) (nI (iR 0)) (nI (iK 0)) (nI (iG 0)) (iu 0) (ig 0), wH E a 52 (iF 1 0) (iF 1 1) (iF 1 2) (iF 1 3) (iF 1 4) (iF 1 5) (iF 1 6) (iF 1 7) (iF 1 8) (nI (iR 1)) (nI (iK 1)) (nI (iG 1)) (iu 1) (ig 1), wA E a 62 (keepS yk sn bk lk ek Gk).1 (nI (keepS yk sn bk lk ek Gk).2.1) (nI (keepS yk sn bk lk ek Gk).2.2), wF E a 64 31 65 75 (uI 0) (uI 1) (uI 2), wH E a 65 (cF 0) (cF 1) (cF 2) (cF 3) (cF 4) (cF 5) (cF 6) (cF 7) (cF 8) (cI 0) (cI 1) (cI 2) (cI 3) (nI cg), [(a 75, iA E 5 fi), (a 76, iA E 5 sr)], wQ E a 77 31 s] rfl (by decide) rfl rfl rfl) ?_
                        refine mr_aload_n C 144 dX7_bells_143 rfl rfl ?_
                        refine mr_get C 0 147 dX7_bells_144 rfl fl_X7_34 rfl rfl ?_
                        refine mr_callV C (c_ring E a 31 se sn bk so lk ek m1 m2 m3 (nI 0) R K Gk 0 (lN_ lk) hR hK (by omega) (by decide) (fun c hc => ⟨(hlk c hc).1, Nat.lt_of_lt_of_le (hlk c hc).2 hR⟩)) [31, 32, 33, 34, 35, 36, 37, 38, 39, 40] 31 3 150 dX7_bells_147 rfl mk_X3_ring mi_X3_ring ml_X7_148 rfl rfl rfl (jn_cut [1, 1, 16, 2, 1, 10, 10, 1, 10, 10, 2, 1, 10, 2, 2] [6] [w0 E a fn fd, [(a 1, .inl (E.1.1 101, 8, .inr (.inr (.inr (.inr (rwA a))))))], wRS E a it th ln sz, wT E a 18 t (nI S) (tI 0) (tI 1) (tI 2) (tI 3), [(a 20, .inr (4, [.ref (a 18), .ref (a 21), .int (rI 0), .int (rI 1), .int (rI 2)]))], wH E a 21 (pF 0) (pF 1) (pF 2) (pF 3) (pF 4) (pF 5) (pF 6) (pF 7) (pF 8) (pI 0) (pI 1) (pI 2) (pI 3) (pI 4), wH E a 31 se sn bk so lk ek m1 m2 m3 (nI R) (nI K) (nI Gk) (nI 0) (nI 0), [(a 41, .inl (E.1.1 102, 2, .inr (.inr (.inr (.inr (imA a))))))], wH E a 42 (iF 0 0) (iF 0 1) (iF 0 2) (iF 0 3) (iF 0 4) (iF 0 5) (iF 0 6) (iF 0 7) (iF 0 8) (nI (iR 0)) (nI (iK 0)) (nI (iG 0)) (iu 0) (ig 0), wH E a 52 (iF 1 0) (iF 1 1) (iF 1 2) (iF 1 3) (iF 1 4) (iF 1 5) (iF 1 6) (iF 1 7) (iF 1 8) (nI (iR 1)) (nI (iK 1)) (nI (iG 1)) (iu 1) (ig 1), wA E a 62 ((keepS yk sn bk lk ek Gk).1) (nI ((keepS yk sn bk lk ek Gk).2.1)) (nI ((keepS yk sn bk lk ek Gk).2.2)), wF E a 64 31 65 75 (uI 0) (uI 1) (uI 2), wH E a 65 (cF 0) (cF 1) (cF 2) (cF 3) (cF 4) (cF 5) (cF 6) (cF 7) (cF 8) (cI 0) (cI 1) (cI 2) (cI 3) (nI cg), [(a 75, iA E 5 fi), (a 76, iA E 5 sr)], wQ E a 77 31 s] [wH E a 31 se sn bk so lk ek m1 m2 m3 (nI R) (nI K) (nI Gk) (nI 0) (nI 0)] rfl (by decide) rfl rfl) rfl (Nat.le_of_ble_eq_true rfl) (by decide) (by decide) (by decide) rfl rfl (fun r w1 hpost => ?_)
                        obtain ⟨be1, lo1, k1, k2, k3, rfl, rfl, hb1, hl1⟩ := hpost
                        have hB : BellS R K sn so ek Gk bk lk _ (Gk + 1) be1 lo1 := ⟨rfl, rfl, hb1, hl1⟩
                        refine mr_w (ws' := wX E a fn fd it th ln sz t S tI rI pF pI se sn be1 so lo1 ek k1 k2 k3 R K (Gk + 1) iF iR iK iG iu ig (keepS yk sn bk lk ek Gk).1 (keepS yk sn bk lk ek Gk).2.1 (keepS yk sn bk lk ek Gk).2.2 uI cF cI cg fi sr s) (jn_put [1, 1, 16, 2, 1, 10, 10, 1, 10, 10, 2, 1, 10, 2, 2] [6] [w0 E a fn fd, [(a 1, .inl (E.1.1 101, 8, .inr (.inr (.inr (.inr (rwA a))))))], wRS E a it th ln sz, wT E a 18 t (nI S) (tI 0) (tI 1) (tI 2) (tI 3), [(a 20, .inr (4, [.ref (a 18), .ref (a 21), .int (rI 0), .int (rI 1), .int (rI 2)]))], wH E a 21 (pF 0) (pF 1) (pF 2) (pF 3) (pF 4) (pF 5) (pF 6) (pF 7) (pF 8) (pI 0) (pI 1) (pI 2) (pI 3) (pI 4), wH E a 31 se sn bk so lk ek m1 m2 m3 (nI R) (nI K) (nI Gk) (nI 0) (nI 0), [(a 41, .inl (E.1.1 102, 2, .inr (.inr (.inr (.inr (imA a))))))], wH E a 42 (iF 0 0) (iF 0 1) (iF 0 2) (iF 0 3) (iF 0 4) (iF 0 5) (iF 0 6) (iF 0 7) (iF 0 8) (nI (iR 0)) (nI (iK 0)) (nI (iG 0)) (iu 0) (ig 0), wH E a 52 (iF 1 0) (iF 1 1) (iF 1 2) (iF 1 3) (iF 1 4) (iF 1 5) (iF 1 6) (iF 1 7) (iF 1 8) (nI (iR 1)) (nI (iK 1)) (nI (iG 1)) (iu 1) (ig 1), wA E a 62 ((keepS yk sn bk lk ek Gk).1) (nI ((keepS yk sn bk lk ek Gk).2.1)) (nI ((keepS yk sn bk lk ek Gk).2.2)), wF E a 64 31 65 75 (uI 0) (uI 1) (uI 2), wH E a 65 (cF 0) (cF 1) (cF 2) (cF 3) (cF 4) (cF 5) (cF 6) (cF 7) (cF 8) (cI 0) (cI 1) (cI 2) (cI 3) (nI cg), [(a 75, iA E 5 fi), (a 76, iA E 5 sr)], wQ E a 77 31 s] [wH E a 31 se sn be1 so lo1 ek k1 k2 k3 (nI R) (nI K) (nI (Gk + 1)) (nI 0) (nI 0)] [w0 E a fn fd, [(a 1, .inl (E.1.1 101, 8, .inr (.inr (.inr (.inr (rwA a))))))], wRS E a it th ln sz, wT E a 18 t (nI S) (tI 0) (tI 1) (tI 2) (tI 3), [(a 20, .inr (4, [.ref (a 18), .ref (a 21), .int (rI 0), .int (rI 1), .int (rI 2)]))], wH E a 21 (pF 0) (pF 1) (pF 2) (pF 3) (pF 4) (pF 5) (pF 6) (pF 7) (pF 8) (pI 0) (pI 1) (pI 2) (pI 3) (pI 4), wH E a 31 se sn be1 so lo1 ek k1 k2 k3 (nI R) (nI K) (nI (Gk + 1)) (nI 0) (nI 0), [(a 41, .inl (E.1.1 102, 2, .inr (.inr (.inr (.inr (imA a))))))], wH E a 42 (iF 0 0) (iF 0 1) (iF 0 2) (iF 0 3) (iF 0 4) (iF 0 5) (iF 0 6) (iF 0 7) (iF 0 8) (nI (iR 0)) (nI (iK 0)) (nI (iG 0)) (iu 0) (ig 0), wH E a 52 (iF 1 0) (iF 1 1) (iF 1 2) (iF 1 3) (iF 1 4) (iF 1 5) (iF 1 6) (iF 1 7) (iF 1 8) (nI (iR 1)) (nI (iK 1)) (nI (iG 1)) (iu 1) (ig 1), wA E a 62 ((keepS yk sn bk lk ek Gk).1) (nI ((keepS yk sn bk lk ek Gk).2.1)) (nI ((keepS yk sn bk lk ek Gk).2.2)), wF E a 64 31 65 75 (uI 0) (uI 1) (uI 2), wH E a 65 (cF 0) (cF 1) (cF 2) (cF 3) (cF 4) (cF 5) (cF 6) (cF 7) (cF 8) (cI 0) (cI 1) (cI 2) (cI 3) (nI cg), [(a 75, iA E 5 fi), (a 76, iA E 5 sr)], wQ E a 77 31 s] rfl (by decide) rfl rfl rfl) ?_
                        refine mr_pop C 151 dX7_bells_150 rfl rfl ?_
                        refine mr_aload_n C 152 dX7_bells_151 rfl rfl ?_
                        refine mr_get C 0 155 dX7_bells_152 rfl fl_X7_34 rfl rfl ?_
                        refine mr_aload C 157 dX7_bells_155 rfl rfl ?_
                        refine mr_get C (2 + 2 * r) 160 dX7_bells_157 rfl fl_X7_98 (wX_row E a fn fd it th ln sz t S tI rI pF pI se sn be1 so lo1 ek k1 k2 k3 R K ((Gk + 1)) iF iR iK iG iu ig ((keepS yk sn bk lk ek Gk).1) ((keepS yk sn bk lk ek Gk).2.1) ((keepS yk sn bk lk ek Gk).2.2) uI cF cI cg fi sr s r hr).1 rfl ?_
                        refine mr_iload_n C 161 dX7_bells_160 rfl rfl ?_
                        refine mr_iload C 163 dX7_bells_161 rfl rfl ?_
                        refine mr_iadd C (nI (i + k)) 164 dX7_bells_163 rfl (nI_add _ _) ?_
                        refine mr_iald C (2 + 2 * r + 1) (i + k) 165 dX7_bells_164 rfl (wX_row E a fn fd it th ln sz t S tI rI pF pI se sn be1 so lo1 ek k1 k2 k3 R K ((Gk + 1)) iF iR iK iG iu ig ((keepS yk sn bk lk ek Gk).1) ((keepS yk sn bk lk ek Gk).2.1) ((keepS yk sn bk lk ek Gk).2.2) uI cF cI cg fi sr s r hr).2 rfl (by omega) (by decide) ?_
                        refine mr_callV C (c_addHeads E a 31 se sn be1 so lo1 ek k1 k2 k3 (nI R) (nI (Gk + 1)) (nI 0) (nI 0) K hK (it r (i + k))) [31, 32, 33, 34, 35, 36, 37, 38, 39, 40] 31 3 168 dX7_bells_165 rfl mk_X3_addHeads mi_X3_addHeads ml_X7_163 rfl rfl rfl (jn_cut [1, 1, 16, 2, 1, 10, 10, 1, 10, 10, 2, 1, 10, 2, 2] [6] [w0 E a fn fd, [(a 1, .inl (E.1.1 101, 8, .inr (.inr (.inr (.inr (rwA a))))))], wRS E a it th ln sz, wT E a 18 t (nI S) (tI 0) (tI 1) (tI 2) (tI 3), [(a 20, .inr (4, [.ref (a 18), .ref (a 21), .int (rI 0), .int (rI 1), .int (rI 2)]))], wH E a 21 (pF 0) (pF 1) (pF 2) (pF 3) (pF 4) (pF 5) (pF 6) (pF 7) (pF 8) (pI 0) (pI 1) (pI 2) (pI 3) (pI 4), wH E a 31 se sn be1 so lo1 ek k1 k2 k3 (nI R) (nI K) (nI ((Gk + 1))) (nI 0) (nI 0), [(a 41, .inl (E.1.1 102, 2, .inr (.inr (.inr (.inr (imA a))))))], wH E a 42 (iF 0 0) (iF 0 1) (iF 0 2) (iF 0 3) (iF 0 4) (iF 0 5) (iF 0 6) (iF 0 7) (iF 0 8) (nI (iR 0)) (nI (iK 0)) (nI (iG 0)) (iu 0) (ig 0), wH E a 52 (iF 1 0) (iF 1 1) (iF 1 2) (iF 1 3) (iF 1 4) (iF 1 5) (iF 1 6) (iF 1 7) (iF 1 8) (nI (iR 1)) (nI (iK 1)) (nI (iG 1)) (iu 1) (ig 1), wA E a 62 ((keepS yk sn bk lk ek Gk).1) (nI ((keepS yk sn bk lk ek Gk).2.1)) (nI ((keepS yk sn bk lk ek Gk).2.2)), wF E a 64 31 65 75 (uI 0) (uI 1) (uI 2), wH E a 65 (cF 0) (cF 1) (cF 2) (cF 3) (cF 4) (cF 5) (cF 6) (cF 7) (cF 8) (cI 0) (cI 1) (cI 2) (cI 3) (nI cg), [(a 75, iA E 5 fi), (a 76, iA E 5 sr)], wQ E a 77 31 s] [wH E a 31 se sn be1 so lo1 ek k1 k2 k3 (nI R) (nI K) (nI ((Gk + 1))) (nI 0) (nI 0)] rfl (by decide) rfl rfl) rfl (Nat.le_of_ble_eq_true rfl) (by decide) (by decide) (by decide) rfl rfl (fun r w1 hpost => ?_)
                        obtain ⟨fh, rfl, rfl, hfh⟩ := hpost
                        refine mr_w (ws' := wX E a fn fd it th ln sz t S tI rI pF pI se sn be1 so lo1 fh k1 k2 k3 R K (Gk + 1) iF iR iK iG iu ig (keepS yk sn bk lk ek Gk).1 (keepS yk sn bk lk ek Gk).2.1 (keepS yk sn bk lk ek Gk).2.2 uI cF cI cg fi sr s) (jn_put [1, 1, 16, 2, 1, 10, 10, 1, 10, 10, 2, 1, 10, 2, 2] [6] [w0 E a fn fd, [(a 1, .inl (E.1.1 101, 8, .inr (.inr (.inr (.inr (rwA a))))))], wRS E a it th ln sz, wT E a 18 t (nI S) (tI 0) (tI 1) (tI 2) (tI 3), [(a 20, .inr (4, [.ref (a 18), .ref (a 21), .int (rI 0), .int (rI 1), .int (rI 2)]))], wH E a 21 (pF 0) (pF 1) (pF 2) (pF 3) (pF 4) (pF 5) (pF 6) (pF 7) (pF 8) (pI 0) (pI 1) (pI 2) (pI 3) (pI 4), wH E a 31 se sn be1 so lo1 ek k1 k2 k3 (nI R) (nI K) (nI ((Gk + 1))) (nI 0) (nI 0), [(a 41, .inl (E.1.1 102, 2, .inr (.inr (.inr (.inr (imA a))))))], wH E a 42 (iF 0 0) (iF 0 1) (iF 0 2) (iF 0 3) (iF 0 4) (iF 0 5) (iF 0 6) (iF 0 7) (iF 0 8) (nI (iR 0)) (nI (iK 0)) (nI (iG 0)) (iu 0) (ig 0), wH E a 52 (iF 1 0) (iF 1 1) (iF 1 2) (iF 1 3) (iF 1 4) (iF 1 5) (iF 1 6) (iF 1 7) (iF 1 8) (nI (iR 1)) (nI (iK 1)) (nI (iG 1)) (iu 1) (ig 1), wA E a 62 ((keepS yk sn bk lk ek Gk).1) (nI ((keepS yk sn bk lk ek Gk).2.1)) (nI ((keepS yk sn bk lk ek Gk).2.2)), wF E a 64 31 65 75 (uI 0) (uI 1) (uI 2), wH E a 65 (cF 0) (cF 1) (cF 2) (cF 3) (cF 4) (cF 5) (cF 6) (cF 7) (cF 8) (cI 0) (cI 1) (cI 2) (cI 3) (nI cg), [(a 75, iA E 5 fi), (a 76, iA E 5 sr)], wQ E a 77 31 s] [wH E a 31 se sn be1 so lo1 fh k1 k2 k3 (nI R) (nI K) (nI (Gk + 1)) (nI 0) (nI 0)] [w0 E a fn fd, [(a 1, .inl (E.1.1 101, 8, .inr (.inr (.inr (.inr (rwA a))))))], wRS E a it th ln sz, wT E a 18 t (nI S) (tI 0) (tI 1) (tI 2) (tI 3), [(a 20, .inr (4, [.ref (a 18), .ref (a 21), .int (rI 0), .int (rI 1), .int (rI 2)]))], wH E a 21 (pF 0) (pF 1) (pF 2) (pF 3) (pF 4) (pF 5) (pF 6) (pF 7) (pF 8) (pI 0) (pI 1) (pI 2) (pI 3) (pI 4), wH E a 31 se sn be1 so lo1 fh k1 k2 k3 (nI R) (nI K) (nI (Gk + 1)) (nI 0) (nI 0), [(a 41, .inl (E.1.1 102, 2, .inr (.inr (.inr (.inr (imA a))))))], wH E a 42 (iF 0 0) (iF 0 1) (iF 0 2) (iF 0 3) (iF 0 4) (iF 0 5) (iF 0 6) (iF 0 7) (iF 0 8) (nI (iR 0)) (nI (iK 0)) (nI (iG 0)) (iu 0) (ig 0), wH E a 52 (iF 1 0) (iF 1 1) (iF 1 2) (iF 1 3) (iF 1 4) (iF 1 5) (iF 1 6) (iF 1 7) (iF 1 8) (nI (iR 1)) (nI (iK 1)) (nI (iG 1)) (iu 1) (ig 1), wA E a 62 ((keepS yk sn bk lk ek Gk).1) (nI ((keepS yk sn bk lk ek Gk).2.1)) (nI ((keepS yk sn bk lk ek Gk).2.2)), wF E a 64 31 65 75 (uI 0) (uI 1) (uI 2), wH E a 65 (cF 0) (cF 1) (cF 2) (cF 3) (cF 4) (cF 5) (cF 6) (cF 7) (cF 8) (cI 0) (cI 1) (cI 2) (cI 3) (nI cg), [(a 75, iA E 5 fi), (a 76, iA E 5 sr)], wQ E a 77 31 s] rfl (by decide) rfl rfl rfl) ?_
                        refine mr_iinc C (nI (k + 1)) 171 dX7_bells_168 rfl rfl (by decide) (nI_add k 1) ?_
                        refine mr_goto C 126 dX7_bells_171 (by decide) ?_
                        refine mr_at (ih (by omega) (Gk + 1) be1 lo1 fh (keepS yk sn bk lk ek Gk) k1 k2 k3 (by omega) (hB.lo hR hlk) (keepS_ok hyk) ?_) rfl rfl rfl
                        exact ⟨(Gk, bk, lk, ek, yk), hBk, ⟨_, hB⟩, rfl, hfh⟩
                    exact mr_at (LB 0 (Nat.zero_le _) G be lo he (kp, h, x) n1 n2 n3 rfl hl ⟨hh, hx⟩ rfl) rfl rfl rfl
                  · rw [← Ne, bP_ne] at c_117
                    refine mr_ldc C 122 dX7_bells_120 rfl kc_X7_112 ?_
                    refine mr_iret C dX7_bells_122 rfl rfl (by decide) (by decide) hlen ?_
                    rw [hO]
                    exact ⟨_, _, G, be, lo, he, (kp, h, x), n1, n2, n3, rfl, rfl, (ifP_f c_7).mpr ((ifP_t (by omega)).mpr ((ifP_f (by rw [ir_]; exact hth)).mpr ((ifP_t hpl).mpr ((ifP_t (by rw [ir_, ii_, in_]; exact c_88)).mpr ((ifP_t (by rw [ir_, ii_, in_]; exact Or.inr c_117)).mpr ⟨rfl, rfl, rfl⟩)))))⟩
              · rw [bI_eq] at c_88
                refine mr_ldc C 93 dX7_bells_91 rfl kc_X7_70 ?_
                refine mr_iret C dX7_bells_93 rfl rfl (by decide) (by decide) hlen ?_
                rw [hO]
                exact ⟨_, _, G, be, lo, he, (kp, h, x), n1, n2, n3, rfl, rfl, (ifP_f c_7).mpr ((ifP_t (by omega)).mpr ((ifP_f (by rw [ir_]; exact hth)).mpr ((ifP_t hpl).mpr ((ifP_f (by rw [ir_, ii_, in_]; exact c_88)).mpr ⟨rfl, rfl, rfl⟩))))⟩
            · rw [bI_eq] at c_63
              refine mr_aload_n C 67 dX7_bells_66 rfl rfl ?_
              refine mr_iconst C (nI 2) 68 dX7_bells_67 rfl rfl ?_
              refine mr_callV C (c_found E a fn fd 2) [0] 0 7 71 dX7_bells_68 rfl mk_X7_found mi_X7_found ml_X7_71 rfl rfl rfl (jn_cut [1, 1, 16, 2, 1, 10, 10, 1, 10, 10, 2, 1, 10, 2, 2] [0] [w0 E a fn fd, [(a 1, .inl (E.1.1 101, 8, .inr (.inr (.inr (.inr (rwA a))))))], wRS E a it th ln sz, wT E a 18 t (nI S) (tI 0) (tI 1) (tI 2) (tI 3), [(a 20, .inr (4, [.ref (a 18), .ref (a 21), .int (rI 0), .int (rI 1), .int (rI 2)]))], wH E a 21 (pF 0) (pF 1) (pF 2) (pF 3) (pF 4) (pF 5) (pF 6) (pF 7) (pF 8) (pI 0) (pI 1) (pI 2) (pI 3) (pI 4), wH E a 31 se sn be so lo he n1 n2 n3 (nI R) (nI K) (nI G) (nI 0) (nI 0), [(a 41, .inl (E.1.1 102, 2, .inr (.inr (.inr (.inr (imA a))))))], wH E a 42 (iF 0 0) (iF 0 1) (iF 0 2) (iF 0 3) (iF 0 4) (iF 0 5) (iF 0 6) (iF 0 7) (iF 0 8) (nI (iR 0)) (nI (iK 0)) (nI (iG 0)) (iu 0) (ig 0), wH E a 52 (iF 1 0) (iF 1 1) (iF 1 2) (iF 1 3) (iF 1 4) (iF 1 5) (iF 1 6) (iF 1 7) (iF 1 8) (nI (iR 1)) (nI (iK 1)) (nI (iG 1)) (iu 1) (ig 1), wA E a 62 kp (nI h) (nI x), wF E a 64 31 65 75 (uI 0) (uI 1) (uI 2), wH E a 65 (cF 0) (cF 1) (cF 2) (cF 3) (cF 4) (cF 5) (cF 6) (cF 7) (cF 8) (cI 0) (cI 1) (cI 2) (cI 3) (nI cg), [(a 75, iA E 5 fi), (a 76, iA E 5 sr)], wQ E a 77 31 s] [w0 E a fn fd] rfl (by decide) rfl rfl) rfl (Nat.le_of_ble_eq_true rfl) (by decide) (by decide) (by decide) rfl rfl (fun r w1 hpost => ?_)
              obtain ⟨rfl, rfl⟩ := hpost
              refine mr_w (ws' := wX E a fn (nI 2) it th ln sz t S tI rI pF pI se sn be so lo he n1 n2 n3 R K G iF iR iK iG iu ig kp h x uI cF cI cg fi sr s) (jn_put [1, 1, 16, 2, 1, 10, 10, 1, 10, 10, 2, 1, 10, 2, 2] [0] [w0 E a fn fd, [(a 1, .inl (E.1.1 101, 8, .inr (.inr (.inr (.inr (rwA a))))))], wRS E a it th ln sz, wT E a 18 t (nI S) (tI 0) (tI 1) (tI 2) (tI 3), [(a 20, .inr (4, [.ref (a 18), .ref (a 21), .int (rI 0), .int (rI 1), .int (rI 2)]))], wH E a 21 (pF 0) (pF 1) (pF 2) (pF 3) (pF 4) (pF 5) (pF 6) (pF 7) (pF 8) (pI 0) (pI 1) (pI 2) (pI 3) (pI 4), wH E a 31 se sn be so lo he n1 n2 n3 (nI R) (nI K) (nI G) (nI 0) (nI 0), [(a 41, .inl (E.1.1 102, 2, .inr (.inr (.inr (.inr (imA a))))))], wH E a 42 (iF 0 0) (iF 0 1) (iF 0 2) (iF 0 3) (iF 0 4) (iF 0 5) (iF 0 6) (iF 0 7) (iF 0 8) (nI (iR 0)) (nI (iK 0)) (nI (iG 0)) (iu 0) (ig 0), wH E a 52 (iF 1 0) (iF 1 1) (iF 1 2) (iF 1 3) (iF 1 4) (iF 1 5) (iF 1 6) (iF 1 7) (iF 1 8) (nI (iR 1)) (nI (iK 1)) (nI (iG 1)) (iu 1) (ig 1), wA E a 62 kp (nI h) (nI x), wF E a 64 31 65 75 (uI 0) (uI 1) (uI 2), wH E a 65 (cF 0) (cF 1) (cF 2) (cF 3) (cF 4) (cF 5) (cF 6) (cF 7) (cF 8) (cI 0) (cI 1) (cI 2) (cI 3) (nI cg), [(a 75, iA E 5 fi), (a 76, iA E 5 sr)], wQ E a 77 31 s] [w0 E a fn (nI 2)] [w0 E a fn (nI 2), [(a 1, .inl (E.1.1 101, 8, .inr (.inr (.inr (.inr (rwA a))))))], wRS E a it th ln sz, wT E a 18 t (nI S) (tI 0) (tI 1) (tI 2) (tI 3), [(a 20, .inr (4, [.ref (a 18), .ref (a 21), .int (rI 0), .int (rI 1), .int (rI 2)]))], wH E a 21 (pF 0) (pF 1) (pF 2) (pF 3) (pF 4) (pF 5) (pF 6) (pF 7) (pF 8) (pI 0) (pI 1) (pI 2) (pI 3) (pI 4), wH E a 31 se sn be so lo he n1 n2 n3 (nI R) (nI K) (nI G) (nI 0) (nI 0), [(a 41, .inl (E.1.1 102, 2, .inr (.inr (.inr (.inr (imA a))))))], wH E a 42 (iF 0 0) (iF 0 1) (iF 0 2) (iF 0 3) (iF 0 4) (iF 0 5) (iF 0 6) (iF 0 7) (iF 0 8) (nI (iR 0)) (nI (iK 0)) (nI (iG 0)) (iu 0) (ig 0), wH E a 52 (iF 1 0) (iF 1 1) (iF 1 2) (iF 1 3) (iF 1 4) (iF 1 5) (iF 1 6) (iF 1 7) (iF 1 8) (nI (iR 1)) (nI (iK 1)) (nI (iG 1)) (iu 1) (ig 1), wA E a 62 kp (nI h) (nI x), wF E a 64 31 65 75 (uI 0) (uI 1) (uI 2), wH E a 65 (cF 0) (cF 1) (cF 2) (cF 3) (cF 4) (cF 5) (cF 6) (cF 7) (cF 8) (cI 0) (cI 1) (cI 2) (cI 3) (nI cg), [(a 75, iA E 5 fi), (a 76, iA E 5 sr)], wQ E a 77 31 s] rfl (by decide) rfl rfl rfl) ?_
              refine mr_iret C dX7_bells_71 rfl rfl (by decide) (by decide) hlen ?_
              rw [hO]
              exact ⟨_, _, G, be, lo, he, (kp, h, x), n1, n2, n3, rfl, rfl, (ifP_f c_7).mpr ((ifP_t (by omega)).mpr ((ifP_f (by rw [ir_]; exact hth)).mpr ((ifP_f (by rw [ir_, hsz]; omega)).mpr ⟨rfl, rfl, rfl⟩)))⟩
          · refine mr_aload_n C 51 dX7_bells_50 rfl rfl ?_
            refine mr_iconst C (nI 1) 52 dX7_bells_51 rfl rfl ?_
            refine mr_callV C (c_found E a fn fd 1) [0] 0 7 55 dX7_bells_52 rfl mk_X7_found mi_X7_found ml_X7_71 rfl rfl rfl (jn_cut [1, 1, 16, 2, 1, 10, 10, 1, 10, 10, 2, 1, 10, 2, 2] [0] [w0 E a fn fd, [(a 1, .inl (E.1.1 101, 8, .inr (.inr (.inr (.inr (rwA a))))))], wRS E a it th ln sz, wT E a 18 t (nI S) (tI 0) (tI 1) (tI 2) (tI 3), [(a 20, .inr (4, [.ref (a 18), .ref (a 21), .int (rI 0), .int (rI 1), .int (rI 2)]))], wH E a 21 (pF 0) (pF 1) (pF 2) (pF 3) (pF 4) (pF 5) (pF 6) (pF 7) (pF 8) (pI 0) (pI 1) (pI 2) (pI 3) (pI 4), wH E a 31 se sn be so lo he n1 n2 n3 (nI R) (nI K) (nI G) (nI 0) (nI 0), [(a 41, .inl (E.1.1 102, 2, .inr (.inr (.inr (.inr (imA a))))))], wH E a 42 (iF 0 0) (iF 0 1) (iF 0 2) (iF 0 3) (iF 0 4) (iF 0 5) (iF 0 6) (iF 0 7) (iF 0 8) (nI (iR 0)) (nI (iK 0)) (nI (iG 0)) (iu 0) (ig 0), wH E a 52 (iF 1 0) (iF 1 1) (iF 1 2) (iF 1 3) (iF 1 4) (iF 1 5) (iF 1 6) (iF 1 7) (iF 1 8) (nI (iR 1)) (nI (iK 1)) (nI (iG 1)) (iu 1) (ig 1), wA E a 62 kp (nI h) (nI x), wF E a 64 31 65 75 (uI 0) (uI 1) (uI 2), wH E a 65 (cF 0) (cF 1) (cF 2) (cF 3) (cF 4) (cF 5) (cF 6) (cF 7) (cF 8) (cI 0) (cI 1) (cI 2) (cI 3) (nI cg), [(a 75, iA E 5 fi), (a 76, iA E 5 sr)], wQ E a 77 31 s] [w0 E a fn fd] rfl (by decide) rfl rfl) rfl (Nat.le_of_ble_eq_true rfl) (by decide) (by decide) (by decide) rfl rfl (fun r w1 hpost => ?_)
            obtain ⟨rfl, rfl⟩ := hpost
            refine mr_w (ws' := wX E a fn (nI 1) it th ln sz t S tI rI pF pI se sn be so lo he n1 n2 n3 R K G iF iR iK iG iu ig kp h x uI cF cI cg fi sr s) (jn_put [1, 1, 16, 2, 1, 10, 10, 1, 10, 10, 2, 1, 10, 2, 2] [0] [w0 E a fn fd, [(a 1, .inl (E.1.1 101, 8, .inr (.inr (.inr (.inr (rwA a))))))], wRS E a it th ln sz, wT E a 18 t (nI S) (tI 0) (tI 1) (tI 2) (tI 3), [(a 20, .inr (4, [.ref (a 18), .ref (a 21), .int (rI 0), .int (rI 1), .int (rI 2)]))], wH E a 21 (pF 0) (pF 1) (pF 2) (pF 3) (pF 4) (pF 5) (pF 6) (pF 7) (pF 8) (pI 0) (pI 1) (pI 2) (pI 3) (pI 4), wH E a 31 se sn be so lo he n1 n2 n3 (nI R) (nI K) (nI G) (nI 0) (nI 0), [(a 41, .inl (E.1.1 102, 2, .inr (.inr (.inr (.inr (imA a))))))], wH E a 42 (iF 0 0) (iF 0 1) (iF 0 2) (iF 0 3) (iF 0 4) (iF 0 5) (iF 0 6) (iF 0 7) (iF 0 8) (nI (iR 0)) (nI (iK 0)) (nI (iG 0)) (iu 0) (ig 0), wH E a 52 (iF 1 0) (iF 1 1) (iF 1 2) (iF 1 3) (iF 1 4) (iF 1 5) (iF 1 6) (iF 1 7) (iF 1 8) (nI (iR 1)) (nI (iK 1)) (nI (iG 1)) (iu 1) (ig 1), wA E a 62 kp (nI h) (nI x), wF E a 64 31 65 75 (uI 0) (uI 1) (uI 2), wH E a 65 (cF 0) (cF 1) (cF 2) (cF 3) (cF 4) (cF 5) (cF 6) (cF 7) (cF 8) (cI 0) (cI 1) (cI 2) (cI 3) (nI cg), [(a 75, iA E 5 fi), (a 76, iA E 5 sr)], wQ E a 77 31 s] [w0 E a fn (nI 1)] [w0 E a fn (nI 1), [(a 1, .inl (E.1.1 101, 8, .inr (.inr (.inr (.inr (rwA a))))))], wRS E a it th ln sz, wT E a 18 t (nI S) (tI 0) (tI 1) (tI 2) (tI 3), [(a 20, .inr (4, [.ref (a 18), .ref (a 21), .int (rI 0), .int (rI 1), .int (rI 2)]))], wH E a 21 (pF 0) (pF 1) (pF 2) (pF 3) (pF 4) (pF 5) (pF 6) (pF 7) (pF 8) (pI 0) (pI 1) (pI 2) (pI 3) (pI 4), wH E a 31 se sn be so lo he n1 n2 n3 (nI R) (nI K) (nI G) (nI 0) (nI 0), [(a 41, .inl (E.1.1 102, 2, .inr (.inr (.inr (.inr (imA a))))))], wH E a 42 (iF 0 0) (iF 0 1) (iF 0 2) (iF 0 3) (iF 0 4) (iF 0 5) (iF 0 6) (iF 0 7) (iF 0 8) (nI (iR 0)) (nI (iK 0)) (nI (iG 0)) (iu 0) (ig 0), wH E a 52 (iF 1 0) (iF 1 1) (iF 1 2) (iF 1 3) (iF 1 4) (iF 1 5) (iF 1 6) (iF 1 7) (iF 1 8) (nI (iR 1)) (nI (iK 1)) (nI (iG 1)) (iu 1) (ig 1), wA E a 62 kp (nI h) (nI x), wF E a 64 31 65 75 (uI 0) (uI 1) (uI 2), wH E a 65 (cF 0) (cF 1) (cF 2) (cF 3) (cF 4) (cF 5) (cF 6) (cF 7) (cF 8) (cI 0) (cI 1) (cI 2) (cI 3) (nI cg), [(a 75, iA E 5 fi), (a 76, iA E 5 sr)], wQ E a 77 31 s] rfl (by decide) rfl rfl rfl) ?_
            refine mr_iret C dX7_bells_55 rfl rfl (by decide) (by decide) hlen ?_
            rw [hO]
            exact ⟨_, _, G, be, lo, he, (kp, h, x), n1, n2, n3, rfl, rfl, (ifP_f c_7).mpr ((ifP_t (by omega)).mpr ((ifP_t (by rw [ir_]; exact c_47)).mpr ⟨rfl, rfl, rfl⟩))⟩
        · rw [tI_le (by omega)] at c_28
          refine mr_ldc C 33 dX7_bells_31 rfl kc_X7_70 ?_
          refine mr_iret C dX7_bells_33 rfl rfl (by decide) (by decide) hlen ?_
          rw [hO]
          exact ⟨_, _, G, be, lo, he, (kp, h, x), n1, n2, n3, rfl, rfl, (ifP_f c_7).mpr ((ifP_f (by omega)).mpr ⟨rfl, rfl, rfl⟩)⟩
  · have c_7 : R = 0 := (nI_eq (b := 0) (by omega) (by omega)).mp c_7
    refine mr_ldc C 12 dX7_bells_10 rfl kc_X7_141 ?_
    refine mr_iret C dX7_bells_12 rfl rfl (by decide) (by decide) hlen ?_
    rw [hO]
    exact ⟨_, _, G, be, lo, he, (kp, h, x), n1, n2, n3, rfl, rfl, (ifP_t c_7).mpr ⟨rfl, rfl, rfl⟩⟩

