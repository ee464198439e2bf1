/-! the reference: bell, doors, heads, undoing, images -/
theorem RH.cg {f f' : FN} {R K G : Nat} {se sn be so lo he se' sn' be' so' lo' he' : FN} (h : RH f R K G se sn be so lo he) (hR : R ≤ 6) (hK : K ≤ 5) (hf : ∀ j, j < 37 → f' j = f j) (h1 : ∀ r, r < R → se' r = se r ∧ sn' r = sn r ∧ be' r = be r) (h2 : ∀ c, c < K → so' c = so c ∧ lo' c = lo c ∧ he' c = he c) : RH f' R K G se' sn' be' so' lo' he' := by
  obtain ⟨e0, e2, e3, e4, e5, e6⟩ := h
  refine ⟨(hf 0 (by decide)).trans e0, (hf 2 (by decide)).trans e2, (hf 3 (by decide)).trans e3, fun r hr => ⟨?_, ?_, ?_⟩, fun r h1 h2 => (hf _ (by omega)).trans (e5 r h1 h2), fun c hc => ⟨?_, ?_, ?_⟩⟩
  · rw [hf _ (by omega), (h1 r hr).1]; exact (e4 r hr).1
  · rw [hf _ (by omega), (h1 r hr).2.1]; exact (e4 r hr).2.1
  · rw [hf _ (by omega), (h1 r hr).2.2]; exact (e4 r hr).2.2
  · rw [hf _ (by omega), (h2 c hc).1]; exact (e6 c hc).1
  · rw [hf _ (by omega), (h2 c hc).2.1]; exact (e6 c hc).2.1
  · rw [hf _ (by omega), (h2 c hc).2.2]; exact (e6 c hc).2.2
theorem RH.door {ho : FN} {R K G : Nat} {se sn be so lo he : FN} (h : RH ho R K G se sn be so lo he) (hR : R ≤ 6) {x y : Nat} (hx : x < R) (hy : y < R) (z v1 v2 : Int32) (e1 : v1 = (sn x &&& ((nI 1 <<< (nI y &&& 31)) ^^^ (-1))) ||| (z <<< (nI y &&& 31)))
    (e2 : v2 = ((upd ho (10 + x) v1) (10 + y) &&& ((nI 1 <<< (nI x &&& 31)) ^^^ (-1))) ||| (z <<< (nI x &&& 31))) : RH (upd (upd ho (10 + x) v1) (10 + y) v2) R K G se (drS sn x y z) be so lo he := by
  obtain ⟨a0, a2, a3, a4, a5, a6⟩ := h
  have k1 : ∀ r, r < R → upd ho (10 + x) v1 (10 + r) = dr1 sn x y z r := by
    intro r hr
    unfold dr1
    rw [up_at, up_at, e1]
    by_cases e : r = x
    · rw [if_pos (by omega), if_pos e]
    · rw [if_neg (by omega), if_neg e]; exact (a4 r hr).2.1
  have k2 : ∀ r, r < R → upd (upd ho (10 + x) v1) (10 + y) v2 (10 + r) = drS sn x y z r := by
    intro r hr
    show _ = upd (dr1 sn x y z) y _ r
    rw [up_at (dr1 sn x y z), up_at (upd ho (10 + x) v1), e2, k1 y hy]
    by_cases e : r = y
    · rw [if_pos (by omega), if_pos e]
    · rw [if_neg (by omega), if_neg e]; exact k1 r hr
  refine ⟨?_, ?_, ?_, fun r hr => ⟨?_, k2 r hr, ?_⟩, fun r hr1 hr2 => ?_, fun c hc => ⟨?_, ?_, ?_⟩⟩
  · rw [up_n (by omega), up_n (by omega)]; exact a0
  · rw [up_n (by omega), up_n (by omega)]; exact a2
  · rw [up_n (by omega), up_n (by omega)]; exact a3
  · rw [up_n (by omega), up_n (by omega)]; exact (a4 r hr).1
  · rw [up_n (by omega), up_n (by omega)]; exact (a4 r hr).2.2
  · rw [up_n (by omega), up_n (by omega)]; exact a5 r hr1 hr2
  · rw [up_n (by omega), up_n (by omega)]; exact (a6 c hc).1
  · rw [up_n (by omega), up_n (by omega)]; exact (a6 c hc).2.1
  · rw [up_n (by omega), up_n (by omega)]; exact (a6 c hc).2.2
theorem RH.head {ho : FN} {R K G : Nat} {se sn be so lo he : FN} (h : RH ho R K G se sn be so lo he) (hR : R ≤ 6) {c j : Nat} (hj : j = 22 + 3 * c + 2) (v : Int32) : RH (upd ho j v) R K G se sn be so lo (upd he c v) := by
  subst hj
  obtain ⟨a0, a2, a3, a4, a5, a6⟩ := h
  refine ⟨?_, ?_, ?_, fun r hr => ⟨?_, ?_, ?_⟩, fun r hr1 hr2 => ?_, fun d hd => ⟨?_, ?_, ?_⟩⟩
  · rw [up_n (by omega)]; exact a0
  · rw [up_n (by omega)]; exact a2
  · rw [up_n (by omega)]; exact a3
  · rw [up_n (by omega)]; exact (a4 r hr).1
  · rw [up_n (by omega)]; exact (a4 r hr).2.1
  · rw [up_n (by omega)]; exact (a4 r hr).2.2
  · rw [up_n (by omega)]; exact a5 r hr1 hr2
  · rw [up_n (by omega)]; exact (a6 d hd).1
  · rw [up_n (by omega)]; exact (a6 d hd).2.1
  · rw [up_at, up_at]
    by_cases e : d = c
    · rw [if_pos (by omega), if_pos e]
    · rw [if_neg (by omega), if_neg e]; exact (a6 d hd).2.2
theorem RA.none {wa kp : FN} {x R K : Nat} {se so : FN} : RA wa (kp, 0, x) R K se so := fun i h => absurd h (Nat.not_lt_zero i)
theorem sI_last {h x : Nat} (h1 : 0 < h) (hh : h ≤ 24) (hx : x < 24) : sI x h (h - 1) = lastS x := by
  unfold sI lastS; split <;> omega
theorem sI_back {h x i : Nat} (h1 : 0 < h) (hh : h ≤ 24) (hx : x < 24) (hi : i < h - 1) : sI (lastS x) (h - 1) i = sI x h i := by
  unfold sI lastS; split <;> omega
/-- images in the class and in the reference -/
def RIm (iF : Nat → Nat → FN) (iR iK iG : Nat → Nat) (ik ke : FN) : Prop := ∀ i, i < 2 → (iR i = 0 ∧ ik i = 0) ∨ (0 < iR i ∧ ik i = 1 ∧ RH (fun j => ke (37 * i + j)) (iR i) (iK i) (iG i) (iF i 0) (iF i 1) (iF i 2) (iF i 3) (iF i 4) (iF i 5))
set_option maxRecDepth 20000 in
set_option maxHeartbeats 4000000 in
theorem c_m_door (E : EG) (a : Nat → Nat) (tn st td lt lg cu tk sr tl fa fp gn gi gm tr : Int32) (la mn im ho fr wa tp wh go se no al be ik ke tc : FN) (R K G : Nat) (se0 sn0 be0 so0 lo0 he0 : FN) (hR : R ≤ 6) (hK : K ≤ 5) (hG : G ≤ 9999) (hl : ∀ c, c < K → lo0 c = nI (lN_ lo0 c) ∧ lN_ lo0 c < R) (hso : ∀ c, c < K → ∃ k, 1 ≤ k ∧ k ≤ 5 ∧ so0 c = nI k) (hrh : RH ho R K G se0 sn0 be0 so0 lo0 he0) (r0 u0 z0 : Int32) (kp : FN) (h x : Nat) (hh : h ≤ 24) (hx : x < 24) (hA : RA wa (kp, h, x) R K se0 so0) : Ctr E mX8_door (5, 0, 0) [.ref (a 0), .int r0, .int u0, .int z0] (wM E a tn st la mn im ho fr wa ((nI h)) tp td lt lg cu tk sr tl fa fp wh go se no al be gn gi gm ik ke tc tr) (fun v w => ∃ (ho' wa' : FN) (h' : Nat) (v2 : Int32), v = some (.int v2) ∧ w = wM E a ((nI 0)) st la mn im (ho') fr (wa') ((nI h')) tp td lt lg cu tk sr tl fa fp wh go se no al be gn gi gm ik ke tc tr ∧ ∀ (v' : Int32) (sn' : FN) (y' : ACT), NxDoor r0 u0 z0 R sn0 be0 lo0 he0 G (kp, h, x) v' sn' y' → v' = v2 ∧ y'.2.1 = h' ∧ RH ho' R K G se0 sn' be0 so0 lo0 he0 ∧ RA wa' y' R K se0 so0) := by
  refine Ctr.of (by decide) (Nat.le_of_ble_eq_true rfl) ?_
  intro Z hO hn C
  have hlen : zn Z ≤ 17 := by rw [hn]; exact Nat.le_of_ble_eq_true rfl
  have h0 := hrh.1
  have h2 := hrh.2.1
  have h3 := hrh.2.2.1
  have hk : ∀ c, c < K → ∃ k, 1 ≤ k ∧ k ≤ 5 ∧ hoS ho c = nI k := fun c hc => by
    obtain ⟨k, e1, e2, e3⟩ := hso c hc
    exact ⟨k, e1, e2, (hrh.2.2.2.2.2 c hc).1.trans e3⟩
  refine mr_aload_n C 1 dX8_door_0 rfl rfl ?_
  refine mr_iconst C (nI 0) 2 dX8_door_1 rfl rfl ?_
  refine mr_put C 0 5 dX8_door_2 rfl fs_X8_59 rfl rfl rfl (Nat.le_of_ble_eq_true rfl) ?_
  refine mr_w (ws' := wM E a ((nI 0)) st la mn im ho fr wa (nI h) tp td lt lg cu tk sr tl fa fp wh go se no al be gn gi gm ik ke tc tr) rfl ?_
  refine mr_aload_n C 6 dX8_door_5 rfl rfl ?_
  refine mr_iload_n C 7 dX8_door_6 rfl rfl ?_
  refine mr_callV C (c_m_isRoom E a ((nI 0)) st (nI h) td lt lg cu tk sr tl fa fp gn gi gm tr la mn im ho fr wa tp wh go se no al be ik ke tc R hR h0 r0) [0, 1, 2, 3, 4, 5, 6, 7, 8, 9, 10, 11, 12, 13, 14, 15, 16] 0 8 10 dX8_door_7 rfl mk_X8_isRoom mi_X8_isRoom ml_X8_239 rfl rfl rfl rfl rfl (Nat.le_of_ble_eq_true rfl) (by decide) (by decide) (by decide) rfl rfl (fun r w1 hpost => ?_)
  obtain ⟨rfl, rfl⟩ := hpost
  refine mr_w (wput_all _ _ 17 rfl rfl) ?_
  refine mr_ifeq C 36 13 dX8_door_10 (by decide) rfl (fun c_10 => ?_) (fun c_10 => ?_)
  · rw [bI_eq] at c_10
    refine mr_ldc C 38 dX8_door_36 rfl kc_X8_79 ?_
    refine mr_iret C dX8_door_38 rfl rfl (by decide) (by decide) hlen ?_
    rw [hO]
    refine ⟨ho, wa, h, _, rfl, rfl, ?_⟩
    intro v9 sn9 y9 hx9
    replace hx9 := (ifP_f (by omega)).mp (hx9)
    obtain ⟨rfl, rfl, rfl⟩ := hx9
    exact ⟨rfl, rfl, hrh, hA⟩
  · rw [← Ne, bI_ne] at c_10
    refine mr_aload_n C 14 dX8_door_13 rfl rfl ?_
    refine mr_iload_n C 15 dX8_door_14 rfl rfl ?_
    refine mr_callV C (c_m_isRoom E a ((nI 0)) st (nI h) td lt lg cu tk sr tl fa fp gn gi gm tr la mn im ho fr wa tp wh go se no al be ik ke tc R hR h0 u0) [0, 1, 2, 3, 4, 5, 6, 7, 8, 9, 10, 11, 12, 13, 14, 15, 16] 0 8 18 dX8_door_15 rfl mk_X8_isRoom mi_X8_isRoom ml_X8_239 rfl rfl rfl rfl rfl (Nat.le_of_ble_eq_true rfl) (by decide) (by decide) (by decide) rfl rfl (fun r w1 hpost => ?_)
    obtain ⟨rfl, rfl⟩ := hpost
    refine mr_w (wput_all _ _ 17 rfl rfl) ?_
    refine mr_ifeq C 36 21 dX8_door_18 (by decide) rfl (fun c_18 => ?_) (fun c_18 => ?_)
    · rw [bI_eq] at c_18
      refine mr_ldc C 38 dX8_door_36 rfl kc_X8_79 ?_
      refine mr_iret C dX8_door_38 rfl rfl (by decide) (by decide) hlen ?_
      rw [hO]
      refine ⟨ho, wa, h, _, rfl, rfl, ?_⟩
      intro v9 sn9 y9 hx9
      replace hx9 := (ifP_f (by omega)).mp (hx9)
      obtain ⟨rfl, rfl, rfl⟩ := hx9
      exact ⟨rfl, rfl, hrh, hA⟩
    · rw [← Ne, bI_ne] at c_18
      refine mr_iload_n C 22 dX8_door_21 rfl rfl ?_
      refine mr_iload_n C 23 dX8_door_22 rfl rfl ?_
      refine mr_icmpeq C 36 26 dX8_door_23 (by decide) rfl (fun c_23 => ?_) (fun c_23 => ?_)
      · rw [tI_xx] at c_23
        refine mr_ldc C 38 dX8_door_36 rfl kc_X8_79 ?_
        refine mr_iret C dX8_door_38 rfl rfl (by decide) (by decide) hlen ?_
        rw [hO]
        refine ⟨ho, wa, h, _, rfl, rfl, ?_⟩
        intro v9 sn9 y9 hx9
        replace hx9 := (ifP_f (by omega)).mp (hx9)
        obtain ⟨rfl, rfl, rfl⟩ := hx9
        exact ⟨rfl, rfl, hrh, hA⟩
      · rw [tI_xx] at c_23
        refine mr_iload_n C 27 dX8_door_26 rfl rfl ?_
        refine mr_i2l C _ 28 dX8_door_27 rfl rfl ?_
        refine mr_lconst C 0 29 dX8_door_28 rfl rfl ?_
        refine mr_lconst C 1 30 dX8_door_29 rfl rfl ?_
        refine mr_callS C (c_inK E z0 (0) (1) _ _ rfl rfl) [] 33 dX8_door_30 rfl mk_X8_in ms_X8_in ml_X8_69 rfl rfl rfl rfl (Nat.le_of_ble_eq_true rfl) (by decide) (by decide) (by decide) (fun r w1 hpost => ?_)
        obtain ⟨rfl, rfl⟩ := hpost
        refine mr_w (ws' := wM E a ((nI 0)) st la mn im ho fr wa (nI h) tp td lt lg cu tk sr tl fa fp wh go se no al be gn gi gm ik ke tc tr) rfl ?_
        refine mr_ifne C 39 36 dX8_door_33 (by decide) rfl (fun c_33 => ?_) (fun c_33 => ?_)
        · rw [bI_ne] at c_33
          obtain ⟨r, hr, rfl⟩ := tI_of (x := r0) (n := R) (by omega) (by omega)
          have er : (nI r).toInt = (r : Int) := tI_n (by omega)
          have ir_ : iN (nI r) = r := iN_n (by omega)
          obtain ⟨u, hu, rfl⟩ := tI_of (x := u0) (n := R) (by omega) (by omega)
          have eu : (nI u).toInt = (u : Int) := tI_n (by omega)
          have iu_ : iN (nI u) = u := iN_n (by omega)
          obtain ⟨z, hz, rfl⟩ := tI_of (x := z0) (n := 2) (by omega) (by omega)
          have ez : (nI z).toInt = (z : Int) := tI_n (by omega)
          have iz_ : iN (nI z) = z := iN_n (by omega)
          have c_23 : r ≠ u := fun h => c_23 (by omega)
          refine mr_aload_n C 40 dX8_door_39 rfl rfl ?_
          refine mr_callV C (c_keep_m E a ((nI 0)) st td lt lg cu tk sr tl fa fp gn gi gm tr la mn im ho fr wa tp wh go se no al be ik ke tc h hh) [0, 1, 2, 3, 4, 5, 6, 7, 8, 9, 10, 11, 12, 13, 14, 15, 16] 0 8 43 dX8_door_40 rfl mk_X8_keep mi_X8_keep ml_X8_216 rfl rfl rfl rfl rfl (Nat.le_of_ble_eq_true rfl) (by decide) (by decide) (by decide) rfl rfl (fun r w1 hpost => ?_)
          obtain ⟨wa1, rfl, rfl, hw1, hw2⟩ := hpost
          have hA1 : RA wa1 (keepS (kp, h, x) sn0 be0 lo0 he0 G) R K se0 so0 := hA.keep hh hx hR hK (by omega) hrh hw1 hw2
          refine mr_w (wput_all _ _ 17 rfl rfl) ?_
          refine mr_aload_n C 44 dX8_door_43 rfl rfl ?_
          refine mr_get C 0 47 dX8_door_44 rfl fl_X8_19 rfl rfl ?_
          refine mr_bipush C (nI 10) 49 dX8_door_47 rfl rfl ?_
          refine mr_iload_n C 50 dX8_door_49 rfl rfl ?_
          refine mr_iadd C (nI (10 + r)) 51 dX8_door_50 rfl (nI_add _ _) ?_
          refine mr_iale C 4 (10 + r) ((sn0 r)) 52 dX8_door_51 rfl rfl rfl (by omega) (by decide) (hrh.2.2.2.1 r hr).2.1 ?_
          refine mr_iload_n C 53 dX8_door_52 rfl rfl ?_
          refine mr_ishr C _ 54 dX8_door_53 rfl rfl ?_
          refine mr_iconst C (nI 1) 55 dX8_door_54 rfl rfl ?_
          refine mr_iand C _ 56 dX8_door_55 rfl rfl ?_
          refine mr_istore C 58 dX8_door_56 rfl (by decide) ?_
          refine mr_aload_n C 59 dX8_door_58 rfl rfl ?_
          refine mr_get C 0 62 dX8_door_59 rfl fl_X8_19 rfl rfl ?_
          refine mr_bipush C (nI 10) 64 dX8_door_62 rfl rfl ?_
          refine mr_iload_n C 65 dX8_door_64 rfl rfl ?_
          refine mr_iadd C (nI (10 + r)) 66 dX8_door_65 rfl (nI_add _ _) ?_
          refine mr_aload_n C 67 dX8_door_66 rfl rfl ?_
          refine mr_get C 0 70 dX8_door_67 rfl fl_X8_19 rfl rfl ?_
          refine mr_bipush C (nI 10) 72 dX8_door_70 rfl rfl ?_
          refine mr_iload_n C 73 dX8_door_72 rfl rfl ?_
          refine mr_iadd C (nI (10 + r)) 74 dX8_door_73 rfl (nI_add _ _) ?_
          refine mr_iale C 4 (10 + r) ((sn0 r)) 75 dX8_door_74 rfl rfl rfl (by omega) (by decide) (hrh.2.2.2.1 r hr).2.1 ?_
          refine mr_iconst C (nI 1) 76 dX8_door_75 rfl rfl ?_
          refine mr_iload_n C 77 dX8_door_76 rfl rfl ?_
          refine mr_ishl C _ 78 dX8_door_77 rfl rfl ?_
          refine mr_iconst C (-1) 79 dX8_door_78 rfl rfl ?_
          refine mr_ixor C _ 80 dX8_door_79 rfl rfl ?_
          refine mr_iand C _ 81 dX8_door_80 rfl rfl ?_
          refine mr_iload_n C 82 dX8_door_81 rfl rfl ?_
          refine mr_iload_n C 83 dX8_door_82 rfl rfl ?_
          refine mr_ishl C _ 84 dX8_door_83 rfl rfl ?_
          refine mr_ior C _ 85 dX8_door_84 rfl rfl ?_
          refine mr_iast C 4 (10 + r) 86 dX8_door_85 rfl rfl rfl (by omega) (by decide) ?_
          refine mr_aload_n C 87 dX8_door_86 rfl rfl ?_
          refine mr_get C 0 90 dX8_door_87 rfl fl_X8_19 rfl rfl ?_
          refine mr_bipush C (nI 10) 92 dX8_door_90 rfl rfl ?_
          refine mr_iload_n C 93 dX8_door_92 rfl rfl ?_
          refine mr_iadd C (nI (10 + u)) 94 dX8_door_93 rfl (nI_add _ _) ?_
          refine mr_aload_n C 95 dX8_door_94 rfl rfl ?_
          refine mr_get C 0 98 dX8_door_95 rfl fl_X8_19 rfl rfl ?_
          refine mr_bipush C (nI 10) 100 dX8_door_98 rfl rfl ?_
          refine mr_iload_n C 101 dX8_door_100 rfl rfl ?_
          refine mr_iadd C (nI (10 + u)) 102 dX8_door_101 rfl (nI_add _ _) ?_
          refine mr_iald C 4 (10 + u) 103 dX8_door_102 rfl rfl rfl (by omega) (by decide) ?_
          refine mr_iconst C (nI 1) 104 dX8_door_103 rfl rfl ?_
          refine mr_iload_n C 105 dX8_door_104 rfl rfl ?_
          refine mr_ishl C _ 106 dX8_door_105 rfl rfl ?_
          refine mr_iconst C (-1) 107 dX8_door_106 rfl rfl ?_
          refine mr_ixor C _ 108 dX8_door_107 rfl rfl ?_
          refine mr_iand C _ 109 dX8_door_108 rfl rfl ?_
          refine mr_iload_n C 110 dX8_door_109 rfl rfl ?_
          refine mr_iload_n C 111 dX8_door_110 rfl rfl ?_
          refine mr_ishl C _ 112 dX8_door_111 rfl rfl ?_
          refine mr_ior C _ 113 dX8_door_112 rfl rfl ?_
          refine mr_iast C 4 (10 + u) 114 dX8_door_113 rfl rfl rfl (by omega) (by decide) ?_
          refine mr_iload C 116 dX8_door_114 rfl rfl ?_
          refine mr_iret C dX8_door_116 rfl rfl (by decide) (by decide) hlen ?_
          rw [hO]
          refine ⟨_, wa1, _, _, rfl, rfl, ?_⟩
          intro v9 sn9 y9 hx9
          replace hx9 := (ifP_t (by omega)).mp (hx9)
          obtain ⟨rfl, rfl, rfl⟩ := hx9
          rw [ir_, iu_]
          exact ⟨rfl, rfl, hrh.door hR hr hu (nI z) _ _ rfl rfl, hA1⟩
        · rw [bI_eq] at c_33
          refine mr_ldc C 38 dX8_door_36 rfl kc_X8_79 ?_
          refine mr_iret C dX8_door_38 rfl rfl (by decide) (by decide) hlen ?_
          rw [hO]
          refine ⟨ho, wa, h, _, rfl, rfl, ?_⟩
          intro v9 sn9 y9 hx9
          replace hx9 := (ifP_f (by omega)).mp (hx9)
          obtain ⟨rfl, rfl, rfl⟩ := hx9
          exact ⟨rfl, rfl, hrh, hA⟩

set_option maxRecDepth 20000 in
set_option maxHeartbeats 4000000 in
theorem c_m_heads (E : EG) (a : Nat → Nat) (tn st td lt lg cu tk sr tl fa fp gn gi gm tr : Int32) (la mn im ho fr wa tp wh go se no al be ik ke tc : FN) (R K G : Nat) (se0 sn0 be0 so0 lo0 he0 : FN) (hR : R ≤ 6) (hK : K ≤ 5) (hG : G ≤ 9999) (hl : ∀ c, c < K → lo0 c = nI (lN_ lo0 c) ∧ lN_ lo0 c < R) (hso : ∀ c, c < K → ∃ k, 1 ≤ k ∧ k ≤ 5 ∧ so0 c = nI k) (hrh : RH ho R K G se0 sn0 be0 so0 lo0 he0) (c0 n0 : Int32) (kp : FN) (h x : Nat) (hh : h ≤ 24) (hx : x < 24) (hA : RA wa (kp, h, x) R K se0 so0) : Ctr E mX8_heads (5, 0, 0) [.ref (a 0), .int c0, .int n0] (wM E a tn st la mn im ho fr wa ((nI h)) tp td lt lg cu tk sr tl fa fp wh go se no al be gn gi gm ik ke tc tr) (fun v w => ∃ (ho' wa' : FN) (h' : Nat) (v2 : Int32), v = some (.int v2) ∧ w = wM E a ((nI 0)) st la mn im (ho') fr (wa') ((nI h')) tp td lt lg cu tk sr tl fa fp wh go se no al be gn gi gm ik ke tc tr ∧ ∀ (v' : Int32) (he' : FN) (y' : ACT), NxHeads c0 n0 K sn0 be0 lo0 he0 G (kp, h, x) v' he' y' → v' = v2 ∧ y'.2.1 = h' ∧ RH ho' R K G se0 sn0 be0 so0 lo0 he' ∧ RA wa' y' R K se0 so0) := by
  refine Ctr.of (by decide) (Nat.le_of_ble_eq_true rfl) ?_
  intro Z hO hn C
  have hlen : zn Z ≤ 17 := by rw [hn]; exact Nat.le_of_ble_eq_true rfl
  have h0 := hrh.1
  have h2 := hrh.2.1
  have h3 := hrh.2.2.1
  have hk : ∀ c, c < K → ∃ k, 1 ≤ k ∧ k ≤ 5 ∧ hoS ho c = nI k := fun c hc => by
    obtain ⟨k, e1, e2, e3⟩ := hso c hc
    exact ⟨k, e1, e2, (hrh.2.2.2.2.2 c hc).1.trans e3⟩
  refine mr_aload_n C 1 dX8_heads_0 rfl rfl ?_
  refine mr_iconst C (nI 0) 2 dX8_heads_1 rfl rfl ?_
  refine mr_put C 0 5 dX8_heads_2 rfl fs_X8_59 rfl rfl rfl (Nat.le_of_ble_eq_true rfl) ?_
  refine mr_w (ws' := wM E a ((nI 0)) st la mn im ho fr wa (nI h) tp td lt lg cu tk sr tl fa fp wh go se no al be gn gi gm ik ke tc tr) rfl ?_
  refine mr_aload_n C 6 dX8_heads_5 rfl rfl ?_
  refine mr_iload_n C 7 dX8_heads_6 rfl rfl ?_
  refine mr_callV C (c_m_isCrowd E a ((nI 0)) st (nI h) td lt lg cu tk sr tl fa fp gn gi gm tr la mn im ho fr wa tp wh go se no al be ik ke tc K hK h2 c0) [0, 1, 2, 3, 4, 5, 6, 7, 8, 9, 10, 11, 12, 13, 14, 15, 16] 0 8 10 dX8_heads_7 rfl mk_X8_isCrowd mi_X8_isCrowd ml_X8_242 rfl rfl rfl rfl rfl (Nat.le_of_ble_eq_true rfl) (by decide) (by decide) (by decide) rfl rfl (fun r w1 hpost => ?_)
  obtain ⟨rfl, rfl⟩ := hpost
  refine mr_w (wput_all _ _ 17 rfl rfl) ?_
  refine mr_ifeq C 25 13 dX8_heads_10 (by decide) rfl (fun c_10 => ?_) (fun c_10 => ?_)
  · rw [bI_eq] at c_10
    refine mr_ldc C 27 dX8_heads_25 rfl kc_X8_79 ?_
    refine mr_iret C dX8_heads_27 rfl rfl (by decide) (by decide) hlen ?_
    rw [hO]
    refine ⟨ho, wa, h, _, rfl, rfl, ?_⟩
    intro v9 he9 y9 hx9
    replace hx9 := (ifP_f (by omega)).mp (hx9)
    obtain ⟨rfl, rfl, rfl⟩ := hx9
    exact ⟨rfl, rfl, hrh, hA⟩
  · rw [← Ne, bI_ne] at c_10
    refine mr_iload_n C 14 dX8_heads_13 rfl rfl ?_
    refine mr_i2l C _ 15 dX8_heads_14 rfl rfl ?_
    refine mr_lconst C 1 16 dX8_heads_15 rfl rfl ?_
    refine mr_ldc2 C 19 dX8_heads_16 rfl kc_X8_245 ?_
    refine mr_callS C (c_inK E n0 (1) (99) _ _ rfl rfl) [] 22 dX8_heads_19 rfl mk_X8_in ms_X8_in ml_X8_69 rfl rfl rfl rfl (Nat.le_of_ble_eq_true rfl) (by decide) (by decide) (by decide) (fun r w1 hpost => ?_)
    obtain ⟨rfl, rfl⟩ := hpost
    refine mr_w (ws' := wM E a ((nI 0)) st la mn im ho fr wa (nI h) tp td lt lg cu tk sr tl fa fp wh go se no al be gn gi gm ik ke tc tr) rfl ?_
    refine mr_ifne C 28 25 dX8_heads_22 (by decide) rfl (fun c_22 => ?_) (fun c_22 => ?_)
    · rw [bI_ne] at c_22
      obtain ⟨c, hc, rfl⟩ := tI_of (x := c0) (n := K) (by omega) (by omega)
      have ec : (nI c).toInt = (c : Int) := tI_n (by omega)
      have ic_ : iN (nI c) = c := iN_n (by omega)
      refine mr_aload_n C 29 dX8_heads_28 rfl rfl ?_
      refine mr_callV C (c_keep_m E a ((nI 0)) st td lt lg cu tk sr tl fa fp gn gi gm tr la mn im ho fr wa tp wh go se no al be ik ke tc h hh) [0, 1, 2, 3, 4, 5, 6, 7, 8, 9, 10, 11, 12, 13, 14, 15, 16] 0 8 32 dX8_heads_29 rfl mk_X8_keep mi_X8_keep ml_X8_216 rfl rfl rfl rfl rfl (Nat.le_of_ble_eq_true rfl) (by decide) (by decide) (by decide) rfl rfl (fun r w1 hpost => ?_)
      obtain ⟨wa1, rfl, rfl, hw1, hw2⟩ := hpost
      have hA1 : RA wa1 (keepS (kp, h, x) sn0 be0 lo0 he0 G) R K se0 so0 := hA.keep hh hx hR hK (by omega) hrh hw1 hw2
      refine mr_w (wput_all _ _ 17 rfl rfl) ?_
      refine mr_aload_n C 33 dX8_heads_32 rfl rfl ?_
      refine mr_iload_n C 34 dX8_heads_33 rfl rfl ?_
      refine mr_iconst C (nI 2) 35 dX8_heads_34 rfl rfl ?_
      refine mr_callV C (c_of E a ((nI 0)) st (nI ((min (h + 1) 24))) td lt lg cu tk sr tl fa fp gn gi gm tr la mn im ho fr wa1 tp wh go se no al be ik ke tc c 2 (by omega) (by decide) (he0 c) (hrh.2.2.2.2.2 c hc).2.2) [0, 1, 2, 3, 4, 5, 6, 7, 8, 9, 10, 11, 12, 13, 14, 15, 16] 0 8 38 dX8_heads_35 rfl mk_X8_of mi_X8_of ml_X8_201 rfl rfl rfl rfl rfl (Nat.le_of_ble_eq_true rfl) (by decide) (by decide) (by decide) rfl rfl (fun r w1 hpost => ?_)
      obtain ⟨rfl, rfl⟩ := hpost
      refine mr_w (wput_all _ _ 17 rfl rfl) ?_
      refine mr_istore_n C 39 dX8_heads_38 rfl rfl (by decide) ?_
      refine mr_aload_n C 40 dX8_heads_39 rfl rfl ?_
      refine mr_get C 0 43 dX8_heads_40 rfl fl_X8_19 rfl rfl ?_
      refine mr_bipush C (nI 22) 45 dX8_heads_43 rfl rfl ?_
      refine mr_iconst C (nI 3) 46 dX8_heads_45 rfl rfl ?_
      refine mr_iload_n C 47 dX8_heads_46 rfl rfl ?_
      refine mr_imul C (nI (3 * c)) 48 dX8_heads_47 rfl (pk_mul _ _) ?_
      refine mr_iadd C (nI (22 + (3 * c))) 49 dX8_heads_48 rfl (nI_add _ _) ?_
      refine mr_iconst C (nI 2) 50 dX8_heads_49 rfl rfl ?_
      refine mr_iadd C (nI ((22 + (3 * c)) + 2)) 51 dX8_heads_50 rfl (nI_add _ _) ?_
      refine mr_iload_n C 52 dX8_heads_51 rfl rfl ?_
      refine mr_iast C 4 ((22 + (3 * c)) + 2) 53 dX8_heads_52 rfl rfl rfl (by omega) (by decide) ?_
      refine mr_iload_n C 54 dX8_heads_53 rfl rfl ?_
      refine mr_iret C dX8_heads_54 rfl rfl (by decide) (by decide) hlen ?_
      rw [hO]
      refine ⟨_, wa1, _, _, rfl, rfl, ?_⟩
      intro v9 he9 y9 hx9
      replace hx9 := (ifP_t (by omega)).mp (hx9)
      obtain ⟨rfl, rfl, rfl⟩ := hx9
      rw [ic_]
      exact ⟨rfl, rfl, hrh.head hR rfl n0, hA1⟩
    · rw [bI_eq] at c_22
      refine mr_ldc C 27 dX8_heads_25 rfl kc_X8_79 ?_
      refine mr_iret C dX8_heads_27 rfl rfl (by decide) (by decide) hlen ?_
      rw [hO]
      refine ⟨ho, wa, h, _, rfl, rfl, ?_⟩
      intro v9 he9 y9 hx9
      replace hx9 := (ifP_f (by omega)).mp (hx9)
      obtain ⟨rfl, rfl, rfl⟩ := hx9
      exact ⟨rfl, rfl, hrh, hA⟩

set_option maxRecDepth 20000 in
set_option maxHeartbeats 4000000 in
theorem c_m_undo (E : EG) (a : Nat → Nat) (tn st td lt lg cu tk sr tl fa fp gn gi gm tr : Int32) (la mn im ho fr wa tp wh go se no al be ik ke tc : FN) (R K G : Nat) (se0 sn0 be0 so0 lo0 he0 : FN) (hR : R ≤ 6) (hK : K ≤ 5) (hG : G ≤ 9999) (hl : ∀ c, c < K → lo0 c = nI (lN_ lo0 c) ∧ lN_ lo0 c < R) (hso : ∀ c, c < K → ∃ k, 1 ≤ k ∧ k ≤ 5 ∧ so0 c = nI k) (hrh : RH ho R K G se0 sn0 be0 so0 lo0 he0) (kp : FN) (h x : Nat) (hh : h ≤ 24) (hx : x < 24) (hA : RA wa (kp, h, x) R K se0 so0) : Ctr E mX8_undo (5, 0, 0) [.ref (a 0)] (wM E a tn st la mn im ho fr wa ((nI h)) tp td lt lg cu tk sr tl fa fp wh go se no al be gn gi gm ik ke tc tr) (fun v w => ∃ (ho' wa' : FN) (h' : Nat) (v2 : Int32), v = some (.int v2) ∧ w = wM E a ((nI 0)) st la mn im (ho') fr (wa') ((nI h')) tp td lt lg cu tk sr tl fa fp wh go se no al be gn gi gm ik ke tc tr ∧ ∀ (v' : Int32) (sn' be' lo' he' : FN) (G' : Nat) (y' : ACT), NxUndo sn0 be0 lo0 he0 G (kp, h, x) v' sn' be' lo' he' G' y' → v' = v2 ∧ y'.2.1 = h' ∧ RH ho' R K G' se0 sn' be' so0 lo' he' ∧ RA wa' y' R K se0 so0) := by
  refine Ctr.of (by decide) (Nat.le_of_ble_eq_true rfl) ?_
  intro Z hO hn C
  have hlen : zn Z ≤ 17 := by rw [hn]; exact Nat.le_of_ble_eq_true rfl
  have h0 := hrh.1
  have h2 := hrh.2.1
  have h3 := hrh.2.2.1
  have hk : ∀ c, c < K → ∃ k, 1 ≤ k ∧ k ≤ 5 ∧ hoS ho c = nI k := fun c hc => by
    obtain ⟨k, e1, e2, e3⟩ := hso c hc
    exact ⟨k, e1, e2, (hrh.2.2.2.2.2 c hc).1.trans e3⟩
  refine mr_aload_n C 1 dX8_undo_0 rfl rfl ?_
  refine mr_iconst C (nI 0) 2 dX8_undo_1 rfl rfl ?_
  refine mr_put C 0 5 dX8_undo_2 rfl fs_X8_59 rfl rfl rfl (Nat.le_of_ble_eq_true rfl) ?_
  refine mr_w (ws' := wM E a ((nI 0)) st la mn im ho fr wa (nI h) tp td lt lg cu tk sr tl fa fp wh go se no al be gn gi gm ik ke tc tr) rfl ?_
  refine mr_aload_n C 6 dX8_undo_5 rfl rfl ?_
  refine mr_get C 0 9 dX8_undo_6 rfl fl_X8_189 rfl rfl ?_
  refine mr_ifne C 15 12 dX8_undo_9 (by decide) rfl (fun c_9 => ?_) (fun c_9 => ?_)
  · have c_9 : ¬ h = 0 := fun e => c_9 (by rw [e]; rfl)
    refine mr_aload_n C 16 dX8_undo_15 rfl rfl ?_
    refine mr_dup C 17 dX8_undo_16 rfl rfl ?_
    refine mr_get C 0 20 dX8_undo_17 rfl fl_X8_189 rfl rfl ?_
    refine mr_iconst C (nI 1) 21 dX8_undo_20 rfl rfl ?_
    refine mr_isub C (nI (h - 1)) 22 dX8_undo_21 rfl (pk_sub (by omega)) ?_
    refine mr_put C 0 25 dX8_undo_22 rfl fs_X8_189 rfl rfl rfl (Nat.le_of_ble_eq_true rfl) ?_
    refine mr_w (ws' := wM E a ((nI 0)) st la mn im ho fr wa ((nI (h - 1))) tp td lt lg cu tk sr tl fa fp wh go se no al be gn gi gm ik ke tc tr) rfl ?_
    refine mr_iconst C (nI 0) 26 dX8_undo_25 rfl rfl ?_
    refine mr_istore_n C 27 dX8_undo_26 rfl rfl (by decide) ?_
    have L : ∀ k, k ≤ 37 → ∀ f : FN, ((∀ j, j < k → f j = wa (37 * (h - 1) + j)) ∧ ∀ j, k ≤ j → f j = ho j) → V E mX8_undo (5, 0, 0) Z 0 0 (wM E a ((nI 0)) st la mn im f fr wa ((nI (h - 1))) tp td lt lg cu tk sr tl fa fp wh go se no al be gn gi gm ik ke tc tr) [(0, .ref (a 0)), (1, .int (nI k))] [] 27 := by
      refine lp_up 37 ?_
      intro k hk9 ih f hf
      refine mr_iload_n C 28 dX8_undo_27 rfl rfl ?_
      refine mr_bipush C (nI 37) 30 dX8_undo_28 rfl rfl ?_
      refine mr_icmpge C 59 33 dX8_undo_30 (by decide) rfl (fun c_30 => ?_) (fun c_30 => ?_)
      · rw [nI_leI (by omega) (by omega)] at c_30
        refine mr_aload_n C 60 dX8_undo_59 rfl rfl ?_
        refine mr_get C 0 63 dX8_undo_60 rfl fl_X8_189 rfl rfl ?_
        refine mr_iret C dX8_undo_63 rfl rfl (by decide) (by decide) hlen ?_
        rw [hO]
        obtain rfl : k = 37 := by omega
        refine ⟨f, wa, h - 1, _, rfl, rfl, ?_⟩
        intro v9 sn9 be9 lo9 he9 G9 y9 hx9
        replace hx9 := (ifP_f (by show ¬ h = 0; omega)).mp (hx9)
        obtain ⟨rfl, rfl, b1, b2, b3, b4, b5, b6⟩ := hx9
        have hL := hA (h - 1) (by show h - 1 < h; omega)
        rw [sI_last (by omega) hh hx] at hL
        unfold RSl at hL
        refine ⟨rfl, rfl, ?_, fun i hi => ?_⟩
        · have eG : iN ((kp, h, x).fst (lastS x * 23 + 22)) = G9 := (congrArg iN b6).symm.trans (iN_n (by omega))
          rw [eG] at hL
          exact RH.cong hL hR hK (fun j hj => hf.1 j hj) ⟨Ag.rf, b1, b2, Ag.rf, b3, b4⟩
        · have hi : i < h - 1 := hi
          show RSl _ kp (sI (lastS x) (h - 1) i) R K se0 so0
          rw [sI_back (by omega) hh hx hi]
          exact hA i (by show i < h; omega)
      · rw [nI_leI (by omega) (by omega)] at c_30
        refine mr_aload_n C 34 dX8_undo_33 rfl rfl ?_
        refine mr_get C 0 37 dX8_undo_34 rfl fl_X8_19 rfl rfl ?_
        refine mr_iload_n C 38 dX8_undo_37 rfl rfl ?_
        refine mr_aload_n C 39 dX8_undo_38 rfl rfl ?_
        refine mr_get C 0 42 dX8_undo_39 rfl fl_X8_25 rfl rfl ?_
        refine mr_bipush C (nI 37) 44 dX8_undo_42 rfl rfl ?_
        refine mr_aload_n C 45 dX8_undo_44 rfl rfl ?_
        refine mr_get C 0 48 dX8_undo_45 rfl fl_X8_189 rfl rfl ?_
        refine mr_imul C (nI (37 * (h - 1))) 49 dX8_undo_48 rfl (pk_mul _ _) ?_
        refine mr_iload_n C 50 dX8_undo_49 rfl rfl ?_
        refine mr_iadd C (nI ((37 * (h - 1)) + k)) 51 dX8_undo_50 rfl (nI_add _ _) ?_
        refine mr_iald C 6 ((37 * (h - 1)) + k) 52 dX8_undo_51 rfl rfl rfl (by omega) (by decide) ?_
        refine mr_iast C 4 k 53 dX8_undo_52 rfl rfl rfl (by omega) (by decide) ?_
        refine mr_iinc C (nI (k + 1)) 56 dX8_undo_53 rfl rfl (by decide) (nI_add k 1) ?_
        refine mr_goto C 27 dX8_undo_56 (by decide) ?_
        refine mr_at (ih (by omega) _ ⟨fun j hj => ?_, fun j hj => ?_⟩) rfl rfl rfl
        · rw [up_at]
          by_cases e : j = k
          · rw [if_pos e, e]
          · rw [if_neg e]; exact hf.1 j (by omega)
        · rw [up_n (by omega)]; exact hf.2 j (by omega)
    exact mr_at (L 0 (Nat.zero_le _) ho ⟨fun j h => absurd h (Nat.not_lt_zero j), fun _ _ => rfl⟩) rfl rfl rfl
  · have c_9 : h = 0 := (nI_eq (b := 0) (by omega) (by omega)).mp c_9
    refine mr_ldc C 14 dX8_undo_12 rfl kc_X8_226 ?_
    refine mr_iret C dX8_undo_14 rfl rfl (by decide) (by decide) hlen ?_
    rw [hO]
    refine ⟨ho, wa, h, _, rfl, rfl, ?_⟩
    intro v9 sn9 be9 lo9 he9 G9 y9 hx9
    replace hx9 := (ifP_t (c_9)).mp (hx9)
    obtain ⟨rfl, rfl, rfl, rfl, rfl, rfl, rfl⟩ := hx9
    exact ⟨rfl, rfl, hrh, hA⟩

set_option maxRecDepth 20000 in
set_option maxHeartbeats 4000000 in
theorem c_m_bell (E : EG) (a : Nat → Nat) (tn st td lt lg cu tk sr tl fa fp gn gi gm tr : Int32) (la mn im ho fr wa tp wh go se no al be ik ke tc : FN) (R K G : Nat) (se0 sn0 be0 so0 lo0 he0 : FN) (hR : R ≤ 6) (hK : K ≤ 5) (hG : G ≤ 9999) (hl : ∀ c, c < K → lo0 c = nI (lN_ lo0 c) ∧ lN_ lo0 c < R) (hso : ∀ c, c < K → ∃ k, 1 ≤ k ∧ k ≤ 5 ∧ so0 c = nI k) (hrh : RH ho R K G se0 sn0 be0 so0 lo0 he0) (kp : FN) (h x : Nat) (hh : h ≤ 24) (hx : x < 24) (hA : RA wa (kp, h, x) R K se0 so0) : Ctr E mX8_bell (5, 0, 0) [.ref (a 0)] (wM E a tn st la mn im ho fr wa ((nI h)) tp td lt lg cu tk sr tl fa fp wh go se no al be gn gi gm ik ke tc tr) (fun v w => ∃ (ho' wa' : FN) (h' : Nat) (v2 : Int32) (wh' go' se' no' al' be1' : FN) (gn' gi' gm' : Int32), v = some (.int v2) ∧ w = wM E a ((nI 0)) st la mn im (ho') fr (wa') ((nI h')) tp td lt lg cu tk sr tl fa fp (wh') (go') (se') (no') (al') (be1') (gn') (gi') (gm') ik ke tc tr ∧ ∀ (v' : Int32) (G' : Nat) (be' lo' : FN) (y' : ACT), NxBell R K sn0 so0 he0 G be0 lo0 (kp, h, x) v' G' be' lo' y' → v' = v2 ∧ y'.2.1 = h' ∧ RH ho' R K G' se0 sn0 be' so0 lo' he0 ∧ RA wa' y' R K se0 so0) := by
  refine Ctr.of (by decide) (Nat.le_of_ble_eq_true rfl) ?_
  intro Z hO hn C
  have hlen : zn Z ≤ 17 := by rw [hn]; exact Nat.le_of_ble_eq_true rfl
  have h0 := hrh.1
  have h2 := hrh.2.1
  have h3 := hrh.2.2.1
  have hk : ∀ c, c < K → ∃ k, 1 ≤ k ∧ k ≤ 5 ∧ hoS ho c = nI k := fun c hc => by
    obtain ⟨k, e1, e2, e3⟩ := hso c hc
    exact ⟨k, e1, e2, (hrh.2.2.2.2.2 c hc).1.trans e3⟩
  refine mr_aload_n C 1 dX8_bell_0 rfl rfl ?_
  refine mr_iconst C (nI 0) 2 dX8_bell_1 rfl rfl ?_
  refine mr_put C 0 5 dX8_bell_2 rfl fs_X8_59 rfl rfl rfl (Nat.le_of_ble_eq_true rfl) ?_
  refine mr_w (ws' := wM E a ((nI 0)) st la mn im ho fr wa (nI h) tp td lt lg cu tk sr tl fa fp wh go se no al be gn gi gm ik ke tc tr) rfl ?_
  refine mr_aload_n C 6 dX8_bell_5 rfl rfl ?_
  refine mr_callV C (c_m_isThere E a ((nI 0)) st (nI h) td lt lg cu tk sr tl fa fp gn gi gm tr la mn im ho fr wa tp wh go se no al be ik ke tc R hR h0) [0, 1, 2, 3, 4, 5, 6, 7, 8, 9, 10, 11, 12, 13, 14, 15, 16] 0 8 9 dX8_bell_6 rfl mk_X8_isThere mi_X8_isThere ml_X8_222 rfl rfl rfl rfl rfl (Nat.le_of_ble_eq_true rfl) (by decide) (by decide) (by decide) rfl rfl (fun r w1 hpost => ?_)
  obtain ⟨rfl, rfl⟩ := hpost
  refine mr_w (wput_all _ _ 17 rfl rfl) ?_
  refine mr_ifne C 15 12 dX8_bell_9 (by decide) rfl (fun c_9 => ?_) (fun c_9 => ?_)
  · rw [bI_ne] at c_9
    refine mr_aload_n C 16 dX8_bell_15 rfl rfl ?_
    refine mr_get C 0 19 dX8_bell_16 rfl fl_X8_19 rfl rfl ?_
    refine mr_iconst C (nI 3) 20 dX8_bell_19 rfl rfl ?_
    refine mr_iale C 4 3 (nI G) 21 dX8_bell_20 rfl rfl rfl (by omega) (by decide) h3 ?_
    refine mr_sipush C (nI 9999) 24 dX8_bell_21 rfl rfl ?_
    refine mr_icmpne C 32 27 dX8_bell_24 (by decide) rfl (fun c_24 => ?_) (fun c_24 => ?_)
    · rw [Ne, nI_eq (by omega) (by omega)] at c_24
      refine mr_aload_n C 33 dX8_bell_32 rfl rfl ?_
      refine mr_callV C (c_ring_m E a ((nI 0)) st td lt lg cu tk sr tl fa fp gn gi gm tr la mn im ho fr wa tp wh go se no al be ik ke tc R K G se0 sn0 be0 so0 lo0 he0 hR hK hG hl hso hrh kp h x hh hx hA) [0, 1, 2, 3, 4, 5, 6, 7, 8, 9, 10, 11, 12, 13, 14, 15, 16] 0 8 36 dX8_bell_33 rfl mk_X8_ring mi_X8_ring ml_X8_227 rfl rfl rfl rfl rfl (Nat.le_of_ble_eq_true rfl) (by decide) (by decide) (by decide) rfl rfl (fun r w1 hpost => ?_)
      obtain ⟨ho1, wa2, wh2, go2, se2, no2, al2, be2, gn2, gi2, gm2, rfl, rfl, hrh2, hA2⟩ := hpost
      refine mr_w (wput_all _ _ 17 rfl rfl) ?_
      refine mr_iret C dX8_bell_36 rfl rfl (by decide) (by decide) hlen ?_
      rw [hO]
      refine ⟨ho1, wa2, _, _, _, _, _, _, _, _, _, _, _, rfl, rfl, ?_⟩
      intro v9 G9 be9 lo9 y9 hx9
      replace hx9 := (ifP_f (by omega)).mp ((ifP_f (by omega)).mp (hx9))
      obtain ⟨⟨rfl, rfl, b1, b2⟩, rfl⟩ := hx9
      exact ⟨rfl, rfl, RH.cg hrh2 hR hK (fun _ _ => rfl) (fun r hr => ⟨rfl, rfl, b1 r (by omega)⟩) (fun c hc => ⟨rfl, b2 c hc, rfl⟩), hA2⟩
    · rw [nI_eq (by omega) (by omega)] at c_24
      refine mr_ldc C 29 dX8_bell_27 rfl kc_X8_89 ?_
      refine mr_goto C 36 dX8_bell_29 (by decide) ?_
      refine mr_iret C dX8_bell_36 rfl rfl (by decide) (by decide) hlen ?_
      rw [hO]
      refine ⟨ho, wa, h, _, _, _, _, _, _, _, _, _, _, rfl, rfl, ?_⟩
      intro v9 G9 be9 lo9 y9 hx9
      replace hx9 := (ifP_t (by omega)).mp ((ifP_f (by omega)).mp (hx9))
      obtain ⟨rfl, rfl, rfl, rfl, rfl⟩ := hx9
      exact ⟨rfl, rfl, hrh, hA⟩
  · rw [bI_eq] at c_9
    refine mr_ldc C 14 dX8_bell_12 rfl kc_X8_226 ?_
    refine mr_iret C dX8_bell_14 rfl rfl (by decide) (by decide) hlen ?_
    rw [hO]
    refine ⟨ho, wa, h, _, _, _, _, _, _, _, _, _, _, rfl, rfl, ?_⟩
    intro v9 G9 be9 lo9 y9 hx9
    replace hx9 := (ifP_t (by omega)).mp (hx9)
    obtain ⟨rfl, rfl, rfl, rfl, rfl⟩ := hx9
    exact ⟨rfl, rfl, hrh, hA⟩

theorem RH.cg' {f f' : FN} {R K G : Nat} {se sn be so lo he : FN} (h : RH f R K G se sn be so lo he) (hf : ∀ j, j < 37 → f' j = f j) (hR : R ≤ 6 := by omega) (hK : K ≤ 5 := by omega) : RH f' R K G se sn be so lo he := RH.cg h hR hK hf (fun _ _ => ⟨rfl, rfl, rfl⟩) (fun _ _ => ⟨rfl, rfl, rfl⟩)
set_option maxRecDepth 20000 in
set_option maxHeartbeats 4000000 in
theorem c_m_image (E : EG) (a : Nat → Nat) (tn st ac td lt lg cu tk sr tl fa fp gn gi gm tr : Int32) (la mn im ho fr wa tp wh go se no al be ik ke tc : FN) (R K G : Nat) (se0 sn0 be0 so0 lo0 he0 : FN) (hR : R ≤ 6) (hK : K ≤ 5) (hG : G ≤ 9999) (hl : ∀ c, c < K → lo0 c = nI (lN_ lo0 c) ∧ lN_ lo0 c < R) (hso : ∀ c, c < K → ∃ k, 1 ≤ k ∧ k ≤ 5 ∧ so0 c = nI k) (hrh : RH ho R K G se0 sn0 be0 so0 lo0 he0) (k0 : Int32) (iF : Nat → Nat → FN) (iR iK iG : Nat → Nat) (him : RIm iF iR iK iG ik ke) (him2 : ∀ i, i < 2 → iR i ≤ 6 ∧ iK i ≤ 5) : Ctr E mX8_image (5, 0, 0) [.ref (a 0), .int k0] (wM E a tn st la mn im ho fr wa ac tp td lt lg cu tk sr tl fa fp wh go se no al be gn gi gm ik ke tc tr) (fun v w => ∃ (ik' ke' : FN) (v2 : Int32), v = some (.int v2) ∧ w = wM E a ((nI 0)) st la mn im ho fr wa ac tp td lt lg cu tk sr tl fa fp wh go se no al be gn gi gm (ik') (ke') tc tr ∧ ∀ (v' : Int32) (y' : IMT), NxImage k0 R K G se0 sn0 be0 so0 lo0 he0 (iF, iR, iK, iG) v' y' → v' = v2 ∧ RIm y'.1 y'.2.1 y'.2.2.1 y'.2.2.2 ik' ke') := by
  refine Ctr.of (by decide) (Nat.le_of_ble_eq_true rfl) ?_
  intro Z hO hn C
  have hlen : zn Z ≤ 17 := by rw [hn]; exact Nat.le_of_ble_eq_true rfl
  have h0 := hrh.1
  have h2 := hrh.2.1
  have h3 := hrh.2.2.1
  have hk : ∀ c, c < K → ∃ k, 1 ≤ k ∧ k ≤ 5 ∧ hoS ho c = nI k := fun c hc => by
    obtain ⟨k, e1, e2, e3⟩ := hso c hc
    exact ⟨k, e1, e2, (hrh.2.2.2.2.2 c hc).1.trans e3⟩
  refine mr_aload_n C 1 dX8_image_0 rfl rfl ?_
  refine mr_iconst C (nI 0) 2 dX8_image_1 rfl rfl ?_
  refine mr_put C 0 5 dX8_image_2 rfl fs_X8_59 rfl rfl rfl (Nat.le_of_ble_eq_true rfl) ?_
  refine mr_w (ws' := wM E a ((nI 0)) st la mn im ho fr wa ac tp td lt lg cu tk sr tl fa fp wh go se no al be gn gi gm ik ke tc tr) rfl ?_
  refine mr_iload_n C 6 dX8_image_5 rfl rfl ?_
  refine mr_i2l C _ 7 dX8_image_6 rfl rfl ?_
  refine mr_lconst C 0 8 dX8_image_7 rfl rfl ?_
  refine mr_lconst C 1 9 dX8_image_8 rfl rfl ?_
  refine mr_callS C (c_inK E k0 (0) (1) _ _ rfl rfl) [] 12 dX8_image_9 rfl mk_X8_in ms_X8_in ml_X8_69 rfl rfl rfl rfl (Nat.le_of_ble_eq_true rfl) (by decide) (by decide) (by decide) (fun r w1 hpost => ?_)
  obtain ⟨rfl, rfl⟩ := hpost
  refine mr_w (ws' := wM E a ((nI 0)) st la mn im ho fr wa ac tp td lt lg cu tk sr tl fa fp wh go se no al be gn gi gm ik ke tc tr) rfl ?_
  refine mr_ifne C 18 15 dX8_image_12 (by decide) rfl (fun c_12 => ?_) (fun c_12 => ?_)
  · rw [bI_ne] at c_12
    refine mr_aload_n C 19 dX8_image_18 rfl rfl ?_
    refine mr_callV C (c_m_isThere E a ((nI 0)) st ac td lt lg cu tk sr tl fa fp gn gi gm tr la mn im ho fr wa tp wh go se no al be ik ke tc R hR h0) [0, 1, 2, 3, 4, 5, 6, 7, 8, 9, 10, 11, 12, 13, 14, 15, 16] 0 8 22 dX8_image_19 rfl mk_X8_isThere mi_X8_isThere ml_X8_222 rfl rfl rfl rfl rfl (Nat.le_of_ble_eq_true rfl) (by decide) (by decide) (by decide) rfl rfl (fun r w1 hpost => ?_)
    obtain ⟨rfl, rfl⟩ := hpost
    refine mr_w (wput_all _ _ 17 rfl rfl) ?_
    refine mr_ifne C 28 25 dX8_image_22 (by decide) rfl (fun c_22 => ?_) (fun c_22 => ?_)
    · rw [bI_ne] at c_22
      obtain ⟨k, hk, rfl⟩ := tI_of (x := k0) (n := 2) (by omega) (by omega)
      have ek : (nI k).toInt = (k : Int) := tI_n (by omega)
      have ik_ : iN (nI k) = k := iN_n (by omega)
      refine mr_iconst C (nI 0) 29 dX8_image_28 rfl rfl ?_
      refine mr_istore_n C 30 dX8_image_29 rfl rfl (by decide) ?_
      have L : ∀ i, i ≤ 37 → ∀ f : FN, ((∀ j, j < i → f (37 * k + j) = ho j) ∧ ∀ y, (y < 37 * k ∨ 37 * k + i ≤ y) → f y = ke y) → V E mX8_image (5, 0, 0) Z 0 0 (wM E a ((nI 0)) st la mn im ho fr wa ac tp td lt lg cu tk sr tl fa fp wh go se no al be gn gi gm ik f tc tr) [(0, .ref (a 0)), (1, .int (nI k)), (2, .int (nI i))] [] 30 := by
        refine lp_up 37 ?_
        intro i hi9 ih f hf
        refine mr_iload_n C 31 dX8_image_30 rfl rfl ?_
        refine mr_bipush C (nI 37) 33 dX8_image_31 rfl rfl ?_
        refine mr_icmpge C 59 36 dX8_image_33 (by decide) rfl (fun c_33 => ?_) (fun c_33 => ?_)
        · rw [nI_leI (by omega) (by omega)] at c_33
          refine mr_aload_n C 60 dX8_image_59 rfl rfl ?_
          refine mr_get C 0 63 dX8_image_60 rfl fl_X8_49 rfl rfl ?_
          refine mr_iload_n C 64 dX8_image_63 rfl rfl ?_
          refine mr_iconst C (nI 1) 65 dX8_image_64 rfl rfl ?_
          refine mr_zast C 14 k 66 dX8_image_65 rfl rfl rfl (by omega) (by decide) ?_
          refine mr_iconst C (nI 1) 67 dX8_image_66 rfl rfl ?_
          refine mr_iret C dX8_image_67 rfl rfl (by decide) (by decide) hlen ?_
          rw [hO]
          obtain rfl : i = 37 := by omega
          refine ⟨_, f, _, rfl, rfl, ?_⟩
          intro v9 y9 hx9
          replace hx9 := (ifP_f (by omega)).mp ((ifP_t (by omega)).mp (hx9))
          obtain ⟨rfl, F, rfl, hF⟩ := hx9
          simp only [ik_]
          refine ⟨rfl, fun i hi => ?_⟩
          by_cases e : i = k
          · subst e
            rw [vu_s, vu_s, vu_s, vu_s, up_s]
            obtain ⟨a1, a2, a3, a4, a5, a6⟩ := hF
            exact Or.inr ⟨by omega, rfl, RH.cong hrh hR hK (fun j hj => hf.1 j hj) ⟨a1, a2, a3, a4, a5, a6⟩⟩
          · rw [vu_n e, vu_n e, vu_n e, vu_n e, up_n e]
            rcases him i hi with h | ⟨h1, h2, h3⟩
            · exact Or.inl h
            · refine Or.inr ⟨h1, h2, ?_⟩
              exact RH.cg' h3 (fun j hj => hf.2 _ (by omega)) (him2 i hi).1 (him2 i hi).2
        · rw [nI_leI (by omega) (by omega)] at c_33
          refine mr_aload_n C 37 dX8_image_36 rfl rfl ?_
          refine mr_get C 0 40 dX8_image_37 rfl fl_X8_53 rfl rfl ?_
          refine mr_bipush C (nI 37) 42 dX8_image_40 rfl rfl ?_
          refine mr_iload_n C 43 dX8_image_42 rfl rfl ?_
          refine mr_imul C (nI (37 * k)) 44 dX8_image_43 rfl (pk_mul _ _) ?_
          refine mr_iload_n C 45 dX8_image_44 rfl rfl ?_
          refine mr_iadd C (nI ((37 * k) + i)) 46 dX8_image_45 rfl (nI_add _ _) ?_
          refine mr_aload_n C 47 dX8_image_46 rfl rfl ?_
          refine mr_get C 0 50 dX8_image_47 rfl fl_X8_19 rfl rfl ?_
          refine mr_iload_n C 51 dX8_image_50 rfl rfl ?_
          refine mr_iald C 4 i 52 dX8_image_51 rfl rfl rfl (by omega) (by decide) ?_
          refine mr_iast C 15 ((37 * k) + i) 53 dX8_image_52 rfl rfl rfl (by omega) (by decide) ?_
          refine mr_iinc C (nI (i + 1)) 56 dX8_image_53 rfl rfl (by decide) (nI_add i 1) ?_
          refine mr_goto C 30 dX8_image_56 (by decide) ?_
          refine mr_at (ih (by omega) _ ⟨fun j hj => ?_, fun y hy => ?_⟩) rfl rfl rfl
          · rw [up_at]
            by_cases e : j = i
            · rw [if_pos (by omega), e]
            · rw [if_neg (by omega)]; exact hf.1 j (by omega)
          · rw [up_n (by omega)]; exact hf.2 y (by omega)
      exact mr_at (L 0 (Nat.zero_le _) ke ⟨fun j h => absurd h (Nat.not_lt_zero j), fun _ _ => rfl⟩) rfl rfl rfl
    · rw [bI_eq] at c_22
      refine mr_ldc C 27 dX8_image_25 rfl kc_X8_226 ?_
      refine mr_iret C dX8_image_27 rfl rfl (by decide) (by decide) hlen ?_
      rw [hO]
      refine ⟨ik, ke, _, rfl, rfl, ?_⟩
      intro v9 y9 hx9
      replace hx9 := (ifP_t (by omega)).mp ((ifP_t (by omega)).mp (hx9))
      obtain ⟨rfl, rfl⟩ := hx9
      exact ⟨rfl, him⟩
  · rw [bI_eq] at c_12
    refine mr_ldc C 17 dX8_image_15 rfl kc_X8_79 ?_
    refine mr_iret C dX8_image_17 rfl rfl (by decide) (by decide) hlen ?_
    rw [hO]
    refine ⟨ik, ke, _, rfl, rfl, ?_⟩
    intro v9 y9 hx9
    replace hx9 := (ifP_f (by omega)).mp (hx9)
    obtain ⟨rfl, rfl⟩ := hx9
    exact ⟨rfl, him⟩

set_option maxRecDepth 20000 in
set_option maxHeartbeats 4000000 in
theorem c_m_restore (E : EG) (a : Nat → Nat) (tn st td lt lg cu tk sr tl fa fp gn gi gm tr : Int32) (la mn im ho fr wa tp wh go se no al be ik ke tc : FN) (R K G : Nat) (se0 sn0 be0 so0 lo0 he0 : FN) (hR : R ≤ 6) (hK : K ≤ 5) (hG : G ≤ 9999) (hl : ∀ c, c < K → lo0 c = nI (lN_ lo0 c) ∧ lN_ lo0 c < R) (hso : ∀ c, c < K → ∃ k, 1 ≤ k ∧ k ≤ 5 ∧ so0 c = nI k) (hrh : RH ho R K G se0 sn0 be0 so0 lo0 he0) (k0 : Int32) (iF : Nat → Nat → FN) (iR iK iG : Nat → Nat) (him : RIm iF iR iK iG ik ke) (him2 : ∀ i, i < 2 → iR i ≤ 6 ∧ iK i ≤ 5) (kp : FN) (h x : Nat) (hA : RA wa (kp, h, x) R K se0 so0) : Ctr E mX8_restore (5, 0, 0) [.ref (a 0), .int k0] (wM E a tn st la mn im ho fr wa ((nI h)) tp td lt lg cu tk sr tl fa fp wh go se no al be gn gi gm ik ke tc tr) (fun v w => ∃ (ho' : FN) (h' : Nat) (v2 : Int32), v = some (.int v2) ∧ w = wM E a ((nI 0)) st la mn im (ho') fr wa ((nI h')) tp td lt lg cu tk sr tl fa fp wh go se no al be gn gi gm ik ke tc tr ∧ ∀ (v' : Int32) (z' : HST) (y' : ACT), NxRestore k0 (R, K, G, se0, sn0, be0, so0, lo0, he0) (kp, h, x) (iF, iR, iK, iG) v' z' y' → v' = v2 ∧ y'.2.1 = h' ∧ RH ho' z'.1 z'.2.1 z'.2.2.1 z'.2.2.2.1 z'.2.2.2.2.1 z'.2.2.2.2.2.1 z'.2.2.2.2.2.2.1 z'.2.2.2.2.2.2.2.1 z'.2.2.2.2.2.2.2.2 ∧ RA wa y' z'.1 z'.2.1 z'.2.2.2.1 z'.2.2.2.2.2.2.1) := by
  refine Ctr.of (by decide) (Nat.le_of_ble_eq_true rfl) ?_
  intro Z hO hn C
  have hlen : zn Z ≤ 17 := by rw [hn]; exact Nat.le_of_ble_eq_true rfl
  have h0 := hrh.1
  have h2 := hrh.2.1
  have h3 := hrh.2.2.1
  have hk : ∀ c, c < K → ∃ k, 1 ≤ k ∧ k ≤ 5 ∧ hoS ho c = nI k := fun c hc => by
    obtain ⟨k, e1, e2, e3⟩ := hso c hc
    exact ⟨k, e1, e2, (hrh.2.2.2.2.2 c hc).1.trans e3⟩
  refine mr_aload_n C 1 dX8_restore_0 rfl rfl ?_
  refine mr_iconst C (nI 0) 2 dX8_restore_1 rfl rfl ?_
  refine mr_put C 0 5 dX8_restore_2 rfl fs_X8_59 rfl rfl rfl (Nat.le_of_ble_eq_true rfl) ?_
  refine mr_w (ws' := wM E a ((nI 0)) st la mn im ho fr wa (nI h) tp td lt lg cu tk sr tl fa fp wh go se no al be gn gi gm ik ke tc tr) rfl ?_
  refine mr_iload_n C 6 dX8_restore_5 rfl rfl ?_
  refine mr_i2l C _ 7 dX8_restore_6 rfl rfl ?_
  refine mr_lconst C 0 8 dX8_restore_7 rfl rfl ?_
  refine mr_lconst C 1 9 dX8_restore_8 rfl rfl ?_
  refine mr_callS C (c_inK E k0 (0) (1) _ _ rfl rfl) [] 12 dX8_restore_9 rfl mk_X8_in ms_X8_in ml_X8_69 rfl rfl rfl rfl (Nat.le_of_ble_eq_true rfl) (by decide) (by decide) (by decide) (fun r w1 hpost => ?_)
  obtain ⟨rfl, rfl⟩ := hpost
  refine mr_w (ws' := wM E a ((nI 0)) st la mn im ho fr wa (nI h) tp td lt lg cu tk sr tl fa fp wh go se no al be gn gi gm ik ke tc tr) rfl ?_
  refine mr_ifne C 18 15 dX8_restore_12 (by decide) rfl (fun c_12 => ?_) (fun c_12 => ?_)
  · rw [bI_ne] at c_12
    obtain ⟨k, hk, rfl⟩ := tI_of (x := k0) (n := 2) (by omega) (by omega)
    have ek : (nI k).toInt = (k : Int) := tI_n (by omega)
    have ik_ : iN (nI k) = k := iN_n (by omega)
    refine mr_aload_n C 19 dX8_restore_18 rfl rfl ?_
    refine mr_get C 0 22 dX8_restore_19 rfl fl_X8_49 rfl rfl ?_
    refine mr_iload_n C 23 dX8_restore_22 rfl rfl ?_
    refine mr_zald C 14 k 24 dX8_restore_23 rfl rfl rfl (by omega) (by decide) ?_
    refine mr_ifne C 30 27 dX8_restore_24 (by decide) rfl (fun c_24 => ?_) (fun c_24 => ?_)
    · obtain ⟨hpos, -, hkk⟩ := (him k hk).resolve_left (fun e => c_24 e.2)
      refine mr_iconst C (nI 0) 31 dX8_restore_30 rfl rfl ?_
      refine mr_istore_n C 32 dX8_restore_31 rfl rfl (by decide) ?_
      have L : ∀ i, i ≤ 37 → ∀ f : FN, ((∀ j, j < i → f j = ke (37 * k + j)) ∧ ∀ j, i ≤ j → f j = ho j) → V E mX8_restore (5, 0, 0) Z 0 0 (wM E a ((nI 0)) st la mn im f fr wa ((nI h)) tp td lt lg cu tk sr tl fa fp wh go se no al be gn gi gm ik ke tc tr) [(0, .ref (a 0)), (1, .int (nI k)), (2, .int (nI i))] [] 32 := by
        refine lp_up 37 ?_
        intro i hi9 ih f hf
        refine mr_iload_n C 33 dX8_restore_32 rfl rfl ?_
        refine mr_bipush C (nI 37) 35 dX8_restore_33 rfl rfl ?_
        refine mr_icmpge C 61 38 dX8_restore_35 (by decide) rfl (fun c_35 => ?_) (fun c_35 => ?_)
        · rw [nI_leI (by omega) (by omega)] at c_35
          refine mr_aload_n C 62 dX8_restore_61 rfl rfl ?_
          refine mr_iconst C (nI 0) 63 dX8_restore_62 rfl rfl ?_
          refine mr_put C 0 66 dX8_restore_63 rfl fs_X8_189 rfl rfl rfl (Nat.le_of_ble_eq_true rfl) ?_
          refine mr_iconst C (nI 1) 67 dX8_restore_66 rfl rfl ?_
          refine mr_iret C dX8_restore_67 rfl rfl (by decide) (by decide) hlen ?_
          rw [hO]
          obtain rfl : i = 37 := by omega
          refine ⟨f, 0, _, rfl, rfl, ?_⟩
          intro v9 z9 y9 hx9
          replace hx9 := (ifP_f (by rw [ik_]; show ¬ iR k = 0; omega)).mp ((ifP_t (by omega)).mp (hx9))
          rw [ik_] at hx9
          obtain ⟨rfl, rfl, e1, e2, e3, hF⟩ := hx9
          rw [e1, e2, e3]
          exact ⟨rfl, rfl, RH.cong hkk (him2 k hk).1 (him2 k hk).2 (fun j hj => hf.1 j hj) hF, RA.none⟩
        · rw [nI_leI (by omega) (by omega)] at c_35
          refine mr_aload_n C 39 dX8_restore_38 rfl rfl ?_
          refine mr_get C 0 42 dX8_restore_39 rfl fl_X8_19 rfl rfl ?_
          refine mr_iload_n C 43 dX8_restore_42 rfl rfl ?_
          refine mr_aload_n C 44 dX8_restore_43 rfl rfl ?_
          refine mr_get C 0 47 dX8_restore_44 rfl fl_X8_53 rfl rfl ?_
          refine mr_bipush C (nI 37) 49 dX8_restore_47 rfl rfl ?_
          refine mr_iload_n C 50 dX8_restore_49 rfl rfl ?_
          refine mr_imul C (nI (37 * k)) 51 dX8_restore_50 rfl (pk_mul _ _) ?_
          refine mr_iload_n C 52 dX8_restore_51 rfl rfl ?_
          refine mr_iadd C (nI ((37 * k) + i)) 53 dX8_restore_52 rfl (nI_add _ _) ?_
          refine mr_iald C 15 ((37 * k) + i) 54 dX8_restore_53 rfl rfl rfl (by omega) (by decide) ?_
          refine mr_iast C 4 i 55 dX8_restore_54 rfl rfl rfl (by omega) (by decide) ?_
          refine mr_iinc C (nI (i + 1)) 58 dX8_restore_55 rfl rfl (by decide) (nI_add i 1) ?_
          refine mr_goto C 32 dX8_restore_58 (by decide) ?_
          refine mr_at (ih (by omega) _ ⟨fun j hj => ?_, fun j hj => ?_⟩) rfl rfl rfl
          · rw [up_at]
            by_cases e : j = i
            · rw [if_pos e, e]
            · rw [if_neg e]; exact hf.1 j (by omega)
          · rw [up_n (by omega)]; exact hf.2 j (by omega)
      exact mr_at (L 0 (Nat.zero_le _) ho ⟨fun j h => absurd h (Nat.not_lt_zero j), fun _ _ => rfl⟩) rfl rfl rfl
    · refine mr_ldc C 29 dX8_restore_27 rfl kc_X8_226 ?_
      refine mr_iret C dX8_restore_29 rfl rfl (by decide) (by decide) hlen ?_
      rw [hO]
      have hz : iR k = 0 := (him k hk).elim (fun e => e.1) (fun e => absurd (e.2.1.symm.trans c_24) (by decide))
      refine ⟨ho, h, _, rfl, rfl, ?_⟩
      intro v9 z9 y9 hx9
      replace hx9 := (ifP_t (by rw [ik_]; exact hz)).mp ((ifP_t (by omega)).mp (hx9))
      obtain ⟨rfl, rfl, rfl⟩ := hx9
      exact ⟨rfl, rfl, hrh, hA⟩
  · rw [bI_eq] at c_12
    refine mr_ldc C 17 dX8_restore_15 rfl kc_X8_79 ?_
    refine mr_iret C dX8_restore_17 rfl rfl (by decide) (by decide) hlen ?_
    rw [hO]
    refine ⟨ho, h, _, rfl, rfl, ?_⟩
    intro v9 z9 y9 hx9
    replace hx9 := (ifP_f (by omega)).mp (hx9)
    obtain ⟨rfl, rfl, rfl⟩ := hx9
    exact ⟨rfl, rfl, hrh, hA⟩

