/-! the reference: what is kept, bells, doors, heads, undoing, images -/
theorem RH.cong {f f' : FN} {R K G : Nat} {se sn be so lo he se' sn' be' so' lo' he' : FN} (h : RH f R K G se sn be so lo he) (hR : R ≤ 6) (hK : K ≤ 5) (hf : ∀ j, j < 37 → f' j = f j) (h6 : HE6 se sn be so lo he se' sn' be' so' lo' he') : RH f' R K G se' sn' be' so' lo' he' := by
  obtain ⟨e0, e2, e3, e4, e5, e6⟩ := h
  obtain ⟨a1, a2, a3, a4, a5, a6⟩ := h6
  refine ⟨(hf 0 (by decide)).trans e0, (hf 2 (by decide)).trans e2, (hf 3 (by decide)).trans e3, fun r hr => ⟨?_, ?_, ?_⟩, fun r h1 h2 => (hf _ (by omega)).trans (e5 r h1 h2), fun c hc => ⟨?_, ?_, ?_⟩⟩
  · rw [hf _ (by omega), a1 r (by omega)]; exact (e4 r hr).1
  · rw [hf _ (by omega), a2 r (by omega)]; exact (e4 r hr).2.1
  · rw [hf _ (by omega), a3 r (by omega)]; exact (e4 r hr).2.2
  · rw [hf _ (by omega), a4 c (by omega)]; exact (e6 c hc).1
  · rw [hf _ (by omega), a5 c (by omega)]; exact (e6 c hc).2.1
  · rw [hf _ (by omega), a6 c (by omega)]; exact (e6 c hc).2.2
theorem Ag.rf {n : Nat} {f : FN} : Ag n f f := fun _ _ => rfl
/-- the slot of act i, the oldest first -/
def sI (x h i : Nat) : Nat := (x + 24 - h + i) % 24
def RSl (f kp : FN) (s R K : Nat) (se so : FN) : Prop := RH f R K (iN (kp (s * 23 + 22))) se (fun j => kp (s * 23 + j)) (fun j => kp (s * 23 + 6 + j)) so (fun j => kp (s * 23 + 12 + j)) (fun j => kp (s * 23 + 17 + j))
/-- acts in the class and in the reference -/
def RA (wa : FN) (y : ACT) (R K : Nat) (se so : FN) : Prop := ∀ i, i < y.2.1 → RSl (fun j => wa (37 * i + j)) y.1 (sI y.2.2 y.2.1 i) R K se so
theorem RSl.cong {f f' kp kp' : FN} {s R K : Nat} {se so : FN} (h : RSl f kp s R K se so) (hR : R ≤ 6) (hK : K ≤ 5) (hf : ∀ j, j < 37 → f' j = f j) (hk : ∀ i, s * 23 ≤ i → i < s * 23 + 23 → kp' i = kp i) : RSl f' kp' s R K se so := by
  unfold RSl
  rw [hk _ (by omega) (by omega)]
  exact RH.cong h hR hK hf ⟨Ag.rf, fun j hj => hk _ (by omega) (by omega), fun j hj => hk _ (by omega) (by omega), Ag.rf, fun j hj => hk _ (by omega) (by omega), fun j hj => hk _ (by omega) (by omega)⟩
theorem RA.keep {wa wa' ho : FN} {kp : FN} {h x R K G : Nat} {se sn be so lo he : FN} (hA : RA wa (kp, h, x) R K se so) (hh : h ≤ 24) (hx : x < 24) (hR : R ≤ 6) (hK : K ≤ 5) (hG : G < 2 ^ 31) (hrh : RH ho R K G se sn be so lo he)
    (h1 : ∀ j, j < 37 → wa' (37 * (min (h + 1) 24 - 1) + j) = ho j) (h2 : ∀ i j, i < min (h + 1) 24 - 1 → j < 37 → wa' (37 * i + j) = wa (37 * (if h = 24 then i + 1 else i) + j)) : RA wa' (keepS (kp, h, x) sn be lo he G) R K se so := by
  intro i hi
  have hi : i < min (h + 1) 24 := hi
  show RSl _ (kpPut kp x sn be lo he (nI G)) (sI (if x + 1 < 24 then x + 1 else 0) (min (h + 1) 24) i) R K se so
  by_cases e : i = min (h + 1) 24 - 1
  · have es : sI (if x + 1 < 24 then x + 1 else 0) (min (h + 1) 24) i = x := by
      unfold sI; split <;> omega
    rw [es]
    obtain ⟨s1, s2, s3, s4, s5⟩ := kpPut_SL kp x sn be lo he (nI G)
    unfold RSl
    rw [s5, iN_n hG]
    exact RH.cong hrh hR hK (fun j hj => by rw [e]; exact h1 j hj) ⟨Ag.rf, s1, s2, Ag.rf, s3, s4⟩
  · have es : sI (if x + 1 < 24 then x + 1 else 0) (min (h + 1) 24) i = sI x h (if h = 24 then i + 1 else i) := by
      unfold sI; split <;> split <;> omega
    have en : sI x h (if h = 24 then i + 1 else i) ≠ x := by
      unfold sI; split <;> omega
    rw [es]
    refine RSl.cong (hA (if h = 24 then i + 1 else i) (by show _ < h; split <;> omega)) hR hK (fun j hj => h2 i j (by omega) hj) (fun t h3 h4 => kpPut_out kp x sn be lo he (nI G) ?_)
    show t < x * 23 ∨ x * 23 + 23 ≤ t
    have : sI x h (if h = 24 then i + 1 else i) < x ∨ x < sI x h (if h = 24 then i + 1 else i) := by omega
    omega
set_option maxRecDepth 20000 in
set_option maxHeartbeats 4000000 in
theorem c_keep_m (E : EG) (a : Nat → Nat) (tn st td lt lg cu tk sr tl fa fp gn gi gm tr : Int32) (la mn im ho fr wa tp wh go se no al be ik ke tc : FN) (h : Nat) (hh : h ≤ 24) : Ctr E mX8_keep (1, 0, 0) [.ref (a 0)] (wM E a tn st la mn im ho fr wa ((nI h)) tp td lt lg cu tk sr tl fa fp wh go se no al be gn gi gm ik ke tc tr) (fun v w => ∃ wa' : FN, v = none ∧ w = wM E a tn st la mn im ho fr (wa') ((nI (min (h + 1) 24))) tp td lt lg cu tk sr tl fa fp wh go se no al be gn gi gm ik ke tc tr ∧ (∀ j, j < 37 → wa' (37 * ((min (h + 1) 24) - 1) + j) = ho j) ∧ ∀ i j, i < (min (h + 1) 24) - 1 → j < 37 → wa' (37 * i + j) = wa (37 * (if h = 24 then i + 1 else i) + j)) := by
  refine Ctr.of (by decide) (Nat.le_of_ble_eq_true rfl) ?_
  intro Z hO hn C
  have hlen : zn Z ≤ 17 := by rw [hn]; exact Nat.le_of_ble_eq_true rfl
  have L2 : ∀ (a1 : Nat) (w1 : FN), a1 < 24 → a1 + 1 = (min (h + 1) 24) → (∀ i j, i < a1 → j < 37 → w1 (37 * i + j) = wa (37 * (if h = 24 then i + 1 else i) + j)) → ∀ k, k ≤ 37 → ∀ f : FN, ((∀ j, j < k → f (37 * a1 + j) = ho j) ∧ ∀ y, (y < 37 * a1 ∨ 37 * a1 + k ≤ y) → f y = w1 y) → V E mX8_keep (1, 0, 0) Z 0 0 (wM E a tn st la mn im ho fr f ((nI a1)) tp td lt lg cu tk sr tl fa fp wh go se no al be gn gi gm ik ke tc tr) [(0, .ref (a 0)), (1, .int (nI k))] [] 51 := by
    intro a1 w1 ha24 ha1 hw1
    refine lp_up 37 ?_
    intro k hk ih f hf
    refine mr_iload_n C 52 dX8_keep_51 rfl rfl ?_
    refine mr_bipush C (nI 37) 54 dX8_keep_52 rfl rfl ?_
    refine mr_icmpge C 83 57 dX8_keep_54 (by decide) rfl (fun c_54 => ?_) (fun c_54 => ?_)
    · rw [nI_leI (by omega) (by omega)] at c_54
      refine mr_aload_n C 84 dX8_keep_83 rfl rfl ?_
      refine mr_dup C 85 dX8_keep_84 rfl rfl ?_
      refine mr_get C 0 88 dX8_keep_85 rfl fl_X8_189 rfl rfl ?_
      refine mr_iconst C (nI 1) 89 dX8_keep_88 rfl rfl ?_
      refine mr_iadd C (nI (a1 + 1)) 90 dX8_keep_89 rfl (nI_add _ _) ?_
      refine mr_put C 0 93 dX8_keep_90 rfl fs_X8_189 rfl rfl rfl (Nat.le_of_ble_eq_true rfl) ?_
      refine mr_vret C dX8_keep_93 rfl (by decide) (by decide) hlen ?_
      rw [hO]
      obtain rfl : k = 37 := by omega
      refine ⟨f, rfl, ?_, fun j hj => ?_, fun i j hi hj => ?_⟩
      · rw [← ha1]; rfl
      · rw [show min (h + 1) 24 - 1 = a1 by omega]; exact hf.1 j hj
      · rw [hf.2 _ (by omega)]; exact hw1 i j (by omega) hj
    · rw [nI_leI (by omega) (by omega)] at c_54
      refine mr_aload_n C 58 dX8_keep_57 rfl rfl ?_
      refine mr_get C 0 61 dX8_keep_58 rfl fl_X8_25 rfl rfl ?_
      refine mr_bipush C (nI 37) 63 dX8_keep_61 rfl rfl ?_
      refine mr_aload_n C 64 dX8_keep_63 rfl rfl ?_
      refine mr_get C 0 67 dX8_keep_64 rfl fl_X8_189 rfl rfl ?_
      refine mr_imul C (nI (37 * a1)) 68 dX8_keep_67 rfl (pk_mul _ _) ?_
      refine mr_iload_n C 69 dX8_keep_68 rfl rfl ?_
      refine mr_iadd C (nI ((37 * a1) + k)) 70 dX8_keep_69 rfl (nI_add _ _) ?_
      refine mr_aload_n C 71 dX8_keep_70 rfl rfl ?_
      refine mr_get C 0 74 dX8_keep_71 rfl fl_X8_19 rfl rfl ?_
      refine mr_iload_n C 75 dX8_keep_74 rfl rfl ?_
      refine mr_iald C 4 k 76 dX8_keep_75 rfl rfl rfl (by omega) (by decide) ?_
      refine mr_iast C 6 ((37 * a1) + k) 77 dX8_keep_76 rfl rfl rfl (by omega) (by decide) ?_
      refine mr_iinc C (nI (k + 1)) 80 dX8_keep_77 rfl rfl (by decide) (nI_add k 1) ?_
      refine mr_goto C 51 dX8_keep_80 (by decide) ?_
      refine mr_at (ih (by omega) _ ⟨fun j hj => ?_, fun y hy => ?_⟩) rfl rfl rfl
      · rw [up_at]
        by_cases e : j = k
        · rw [if_pos (by omega), e]
        · rw [if_neg (by omega)]; exact hf.1 j (by omega)
      · rw [up_n (by omega)]; exact hf.2 y (by omega)
  have L1 : h = 24 → ∀ k, k ≤ 851 → ∀ f : FN, ((∀ y, y < k → f y = wa (y + 37)) ∧ ∀ y, k ≤ y → f y = wa y) → V E mX8_keep (1, 0, 0) Z 0 0 (wM E a tn st la mn im ho fr f ((nI h)) tp td lt lg cu tk sr tl fa fp wh go se no al be gn gi gm ik ke tc tr) [(0, .ref (a 0)), (1, .int (nI k))] [] 11 := by
    intro h24
    refine lp_up 851 ?_
    intro k hk ih f hf
    refine mr_iload_n C 12 dX8_keep_11 rfl rfl ?_
    refine mr_sipush C (nI 851) 15 dX8_keep_12 rfl rfl ?_
    refine mr_icmpge C 39 18 dX8_keep_15 (by decide) rfl (fun c_15 => ?_) (fun c_15 => ?_)
    · rw [nI_leI (by omega) (by omega)] at c_15
      refine mr_aload_n C 40 dX8_keep_39 rfl rfl ?_
      refine mr_dup C 41 dX8_keep_40 rfl rfl ?_
      refine mr_get C 0 44 dX8_keep_41 rfl fl_X8_189 rfl rfl ?_
      refine mr_iconst C (nI 1) 45 dX8_keep_44 rfl rfl ?_
      refine mr_isub C (nI 23) 46 dX8_keep_45 rfl (by rw [h24]; rfl) ?_
      refine mr_put C 0 49 dX8_keep_46 rfl fs_X8_189 rfl rfl rfl (Nat.le_of_ble_eq_true rfl) ?_
      refine mr_iconst C (nI 0) 50 dX8_keep_49 rfl rfl ?_
      refine mr_istore_n C 51 dX8_keep_50 rfl rfl (by decide) ?_
      obtain rfl : k = 851 := by omega
      exact mr_at (L2 23 f (by decide) (by omega) (fun i j hi hj => by rw [hf.1 _ (by omega), if_pos h24]; congr 1; omega) 0 (Nat.zero_le _) f ⟨fun j h => absurd h (Nat.not_lt_zero j), fun _ _ => rfl⟩) rfl rfl rfl
    · rw [nI_leI (by omega) (by omega)] at c_15
      refine mr_aload_n C 19 dX8_keep_18 rfl rfl ?_
      refine mr_get C 0 22 dX8_keep_19 rfl fl_X8_25 rfl rfl ?_
      refine mr_iload_n C 23 dX8_keep_22 rfl rfl ?_
      refine mr_aload_n C 24 dX8_keep_23 rfl rfl ?_
      refine mr_get C 0 27 dX8_keep_24 rfl fl_X8_25 rfl rfl ?_
      refine mr_iload_n C 28 dX8_keep_27 rfl rfl ?_
      refine mr_bipush C (nI 37) 30 dX8_keep_28 rfl rfl ?_
      refine mr_iadd C (nI (k + 37)) 31 dX8_keep_30 rfl (nI_add _ _) ?_
      refine mr_iald C 6 (k + 37) 32 dX8_keep_31 rfl rfl rfl (by omega) (by decide) ?_
      refine mr_iast C 6 k 33 dX8_keep_32 rfl rfl rfl (by omega) (by decide) ?_
      refine mr_iinc C (nI (k + 1)) 36 dX8_keep_33 rfl rfl (by decide) (nI_add k 1) ?_
      refine mr_goto C 11 dX8_keep_36 (by decide) ?_
      refine mr_at (ih (by omega) _ ⟨fun y hy => ?_, fun y hy => ?_⟩) rfl rfl rfl
      · rw [up_at]
        by_cases e : y = k
        · rw [if_pos e, e, hf.2 _ (by omega)]
        · rw [if_neg e]; exact hf.1 y (by omega)
      · rw [up_n (by omega)]; exact hf.2 y (by omega)
  refine mr_aload_n C 1 dX8_keep_0 rfl rfl ?_
  refine mr_get C 0 4 dX8_keep_1 rfl fl_X8_189 rfl rfl ?_
  refine mr_bipush C (nI 24) 6 dX8_keep_4 rfl rfl ?_
  refine mr_icmpne C 49 9 dX8_keep_6 (by decide) rfl (fun c_6 => ?_) (fun c_6 => ?_)
  · rw [Ne, nI_eq (by omega) (by omega)] at c_6
    refine mr_iconst C (nI 0) 50 dX8_keep_49 rfl rfl ?_
    refine mr_istore_n C 51 dX8_keep_50 rfl rfl (by decide) ?_
    exact mr_at (L2 h wa (by omega) (by omega) (fun i j hi hj => by rw [if_neg c_6]) 0 (Nat.zero_le _) wa ⟨fun j h => absurd h (Nat.not_lt_zero j), fun _ _ => rfl⟩) rfl rfl rfl
  · rw [nI_eq (by omega) (by omega)] at c_6
    refine mr_iconst C (nI 0) 10 dX8_keep_9 rfl rfl ?_
    refine mr_istore_n C 11 dX8_keep_10 rfl rfl (by decide) ?_
    exact mr_at (L1 c_6 0 (Nat.zero_le _) wa ⟨fun j h => absurd h (Nat.not_lt_zero j), fun _ _ => rfl⟩) rfl rfl rfl

set_option maxRecDepth 20000 in
set_option maxHeartbeats 4000000 in
theorem c_ring_m (E : EG) (a : Nat → Nat) (tn st td lt lg cu tk sr tl fa fp gn gi gm tr : Int32) (la mn im ho fr wa tp wh go se no al be ik ke tc : FN) (R K G : Nat) (se0 sn0 be0 so0 lo0 he0 : FN) (hR : R ≤ 6) (hK : K ≤ 5) (hG : G ≤ 9999) (hl : ∀ c, c < K → lo0 c = nI (lN_ lo0 c) ∧ lN_ lo0 c < R) (hso : ∀ c, c < K → ∃ k, 1 ≤ k ∧ k ≤ 5 ∧ so0 c = nI k) (hrh : RH ho R K G se0 sn0 be0 so0 lo0 he0) (kp : FN) (h x : Nat) (hh : h ≤ 24) (hx : x < 24) (hA : RA wa (kp, h, x) R K se0 so0) : Ctr E mX8_ring (4, 0, 0) [.ref (a 0)] (wM E a tn st la mn im ho fr wa ((nI h)) tp td lt lg cu tk sr tl fa fp wh go se no al be gn gi gm ik ke tc tr) (fun v w => ∃ (ho' wa' wh' go' se' no' al' be' : FN) (gn' gi' gm' : Int32), v = some (.int (wentS (lN_ lo0) (rg1 (nI 0) 0 R K sn0 so0 he0 (G, be0, lN_ lo0)).2.2 K)) ∧ w = wM E a tn st la mn im (ho') fr (wa') ((nI (min (h + 1) 24))) tp td lt lg cu tk sr tl fa fp (wh') (go') (se') (no') (al') (be') (gn') (gi') (gm') ik ke tc tr ∧ RH ho' R K (G + 1) se0 sn0 (rg1 (nI 0) 0 R K sn0 so0 he0 (G, be0, lN_ lo0)).2.1 so0 (fun c => nI ((rg1 (nI 0) 0 R K sn0 so0 he0 (G, be0, lN_ lo0)).2.2 c)) he0 ∧ RA wa' (keepS (kp, h, x) sn0 be0 lo0 he0 G) R K se0 so0) := by
  refine Ctr.of (by decide) (Nat.le_of_ble_eq_true rfl) ?_
  intro Z hO hn C
  have hlen : zn Z ≤ 17 := by rw [hn]; exact Nat.le_of_ble_eq_true rfl
  have h0 := hrh.1
  have h2 := hrh.2.1
  have h3 := hrh.2.2.1
  have hk : ∀ c, c < K → ∃ k, 1 ≤ k ∧ k ≤ 5 ∧ hoS ho c = nI k := fun c hc => by
    obtain ⟨k, e1, e2, e3⟩ := hso c hc
    exact ⟨k, e1, e2, (hrh.2.2.2.2.2 c hc).1.trans e3⟩
  refine mr_aload_n C 1 dX8_ring_0 rfl rfl ?_
  refine mr_callV C (c_keep_m E a tn st td lt lg cu tk sr tl fa fp gn gi gm tr la mn im ho fr wa tp wh go se no al be ik ke tc h hh) [0, 1, 2, 3, 4, 5, 6, 7, 8, 9, 10, 11, 12, 13, 14, 15, 16] 0 8 4 dX8_ring_1 rfl mk_X8_keep mi_X8_keep ml_X8_216 rfl rfl rfl rfl rfl (Nat.le_of_ble_eq_true rfl) (by decide) (by decide) (by decide) rfl rfl (fun r w1 hpost => ?_)
  obtain ⟨wa1, rfl, rfl, hw1, hw2⟩ := hpost
  have hA1 : RA wa1 (keepS (kp, h, x) sn0 be0 lo0 he0 G) R K se0 so0 := hA.keep hh hx hR hK (by omega) hrh hw1 hw2
  refine mr_w (wput_all _ _ 17 rfl rfl) ?_
  refine mr_aload_n C 5 dX8_ring_4 rfl rfl ?_
  refine mr_callV C (c_layNow E a tn st (nI ((min (h + 1) 24))) td lt lg cu tk sr tl fa fp gn gi gm tr la mn im ho fr wa1 tp wh go se no al be ik ke tc R K G hR hK h0 h2 h3) [0, 1, 2, 3, 4, 5, 6, 7, 8, 9, 10, 11, 12, 13, 14, 15, 16] 0 8 8 dX8_ring_5 rfl mk_X8_layNow mi_X8_layNow ml_X8_219 rfl rfl rfl rfl rfl (Nat.le_of_ble_eq_true rfl) (by decide) (by decide) (by decide) rfl rfl (fun r w1 hpost => ?_)
  obtain ⟨f1, f2, f3_, rfl, rfl, hf1, hf2⟩ := hpost
  have hH : HM R K sn0 so0 he0 (G, be0, lN_ lo0) ho f1 f2 f3_ := hrh.lay hl hf1 hf2
  refine mr_w (wput_all _ _ 17 rfl rfl) ?_
  refine mr_aload_n C 9 dX8_ring_8 rfl rfl ?_
  refine mr_callV C (c_goBellH E a tn st (nI ((min (h + 1) 24))) td lt lg cu tk sr tl fa fp (nI 0) tr la mn im ho fr wa1 tp f3_ go f1 no al f2 ik ke tc R K 0 hR hK (by decide) h0 h2 hk sn0 so0 he0 (G, be0, lN_ lo0) (by show G < 2 ^ 30; omega) hH) [0, 1, 2, 3, 4, 5, 6, 7, 8, 9, 10, 11, 12, 13, 14, 15, 16] 0 8 12 dX8_ring_9 rfl mk_X8_goBell mi_X8_goBell ml_X8_213 rfl rfl rfl rfl rfl (Nat.le_of_ble_eq_true rfl) (by decide) (by decide) (by decide) rfl rfl (fun r w1 hpost => ?_)
  obtain ⟨wh2, be2, k1, k2, k3, rfl, rfl, hH2⟩ := hpost
  refine mr_w (wput_all _ _ 17 rfl rfl) ?_
  refine mr_istore_n C 13 dX8_ring_12 rfl rfl (by decide) ?_
  refine mr_aload_n C 14 dX8_ring_13 rfl rfl ?_
  refine mr_get C 0 17 dX8_ring_14 rfl fl_X8_19 rfl rfl ?_
  refine mr_iconst C (nI 3) 18 dX8_ring_17 rfl rfl ?_
  refine mr_dup2 C 19 dX8_ring_18 rfl rfl rfl ?_
  refine mr_iale C 4 3 (nI G) 20 dX8_ring_19 rfl rfl rfl (by omega) (by decide) h3 ?_
  refine mr_iconst C (nI 1) 21 dX8_ring_20 rfl rfl ?_
  refine mr_iadd C (nI (G + 1)) 22 dX8_ring_21 rfl (nI_add _ _) ?_
  refine mr_iast C 4 3 23 dX8_ring_22 rfl rfl rfl (by omega) (by decide) ?_
  refine mr_iconst C (nI 0) 24 dX8_ring_23 rfl rfl ?_
  refine mr_istore_n C 25 dX8_ring_24 rfl rfl (by decide) ?_
  generalize hwv : wentS (lN_ lo0) (rg1 (nI 0) 0 R K sn0 so0 he0 (G, be0, lN_ lo0)).2.2 K = wv at hO ⊢
  have LB : ∀ i, i ≤ K → ∀ f : FN, (∀ y, f y = if 22 ≤ y ∧ (y - 22) % 3 = 1 ∧ (y - 22) / 3 < i then wh2 ((y - 22) / 3) else if y = 3 then nI (G + 1) else if 16 ≤ y ∧ y < 16 + R then be2 (y - 16) else ho y) → V E mX8_ring (4, 0, 0) Z 0 0 (wM E a tn st la mn im f fr wa1 ((nI (min (h + 1) 24))) tp td lt lg cu tk sr tl fa fp wh2 k3 f1 k1 k2 be2 ((nI (rg1 (nI 0) 0 R K sn0 so0 he0 (G, be0, lN_ lo0)).1)) ((nI 0)) ((nI 0)) ik ke tc tr) [(0, .ref (a 0)), (1, .int wv), (2, .int (nI i))] [] 58 := by
    refine lp_up K ?_
    intro i hi ih f hf
    refine mr_iload_n C 59 dX8_ring_58 rfl rfl ?_
    refine mr_aload_n C 60 dX8_ring_59 rfl rfl ?_
    refine mr_get C 0 63 dX8_ring_60 rfl fl_X8_19 rfl rfl ?_
    refine mr_iconst C (nI 2) 64 dX8_ring_63 rfl rfl ?_
    refine mr_iale C 4 2 (nI K) 65 dX8_ring_64 rfl rfl rfl (by omega) (by decide) (by rw [hf 2, if_neg (by omega), if_neg (by decide), if_neg (by omega)]; exact h2) ?_
    refine mr_icmpge C 93 68 dX8_ring_65 (by decide) rfl (fun c_65 => ?_) (fun c_65 => ?_)
    · rw [nI_leI (by omega) (by omega)] at c_65
      refine mr_iload_n C 94 dX8_ring_93 rfl rfl ?_
      refine mr_iret C dX8_ring_94 rfl rfl (by decide) (by decide) hlen ?_
      rw [hO]
      have hiK : i = K := by omega
      rw [hiK] at hf
      refine ⟨f, wa1, _, _, _, _, _, _, _, _, _, rfl, rfl, ?_, hA1⟩
      refine ⟨?_, ?_, ?_, fun r hr => ⟨?_, ?_, ?_⟩, fun r hr1 hr2 => ?_, fun c hc => ⟨?_, ?_, ?_⟩⟩
      · rw [hf, if_neg (by omega), if_neg (by decide), if_neg (by omega)]; exact h0
      · rw [hf, if_neg (by omega), if_neg (by decide), if_neg (by omega)]; exact h2
      · rw [hf, if_neg (by omega), if_pos rfl]
      · rw [hf, if_neg (by omega), if_neg (by omega), if_neg (by omega)]; exact (hrh.2.2.2.1 r hr).1
      · rw [hf, if_neg (by omega), if_neg (by omega), if_neg (by omega)]; exact (hrh.2.2.2.1 r hr).2.1
      · rw [hf, if_neg (by omega), if_neg (by omega), if_pos (by omega), show 16 + r - 16 = r by omega]; exact hH2.2.1 (Nat.succ_pos _) r hr
      · rw [hf, if_neg (by omega), if_neg (by omega), if_neg (by omega)]; exact hrh.2.2.2.2.1 r hr1 hr2
      · rw [hf, if_neg (by omega), if_neg (by omega), if_neg (by omega)]; exact (hrh.2.2.2.2.2 c hc).1
      · rw [hf, if_pos (by omega), show (22 + 3 * c + 1 - 22) / 3 = c by omega]; exact (hH2.2.2 c hc).2.2.1
      · rw [hf, if_neg (by omega), if_neg (by omega), if_neg (by omega)]; exact (hrh.2.2.2.2.2 c hc).2.2
    · rw [nI_leI (by omega) (by omega)] at c_65
      refine mr_aload_n C 69 dX8_ring_68 rfl rfl ?_
      refine mr_get C 0 72 dX8_ring_69 rfl fl_X8_19 rfl rfl ?_
      refine mr_bipush C (nI 22) 74 dX8_ring_72 rfl rfl ?_
      refine mr_iconst C (nI 3) 75 dX8_ring_74 rfl rfl ?_
      refine mr_iload_n C 76 dX8_ring_75 rfl rfl ?_
      refine mr_imul C (nI (3 * i)) 77 dX8_ring_76 rfl (pk_mul _ _) ?_
      refine mr_iadd C (nI (22 + (3 * i))) 78 dX8_ring_77 rfl (nI_add _ _) ?_
      refine mr_iconst C (nI 1) 79 dX8_ring_78 rfl rfl ?_
      refine mr_iadd C (nI ((22 + (3 * i)) + 1)) 80 dX8_ring_79 rfl (nI_add _ _) ?_
      refine mr_aload_n C 81 dX8_ring_80 rfl rfl ?_
      refine mr_get C 0 84 dX8_ring_81 rfl fl_X8_31 rfl rfl ?_
      refine mr_iload_n C 85 dX8_ring_84 rfl rfl ?_
      refine mr_iald C 8 i 86 dX8_ring_85 rfl rfl rfl (by omega) (by decide) ?_
      refine mr_iast C 4 ((22 + (3 * i)) + 1) 87 dX8_ring_86 rfl rfl rfl (by omega) (by decide) ?_
      refine mr_iinc C (nI (i + 1)) 90 dX8_ring_87 rfl rfl (by decide) (nI_add i 1) ?_
      refine mr_goto C 58 dX8_ring_90 (by decide) ?_
      refine mr_at (ih (by omega) _ (fun y => ?_)) rfl rfl rfl
      rw [up_at]
      by_cases e : y = 22 + 3 * i + 1
      · subst e; rw [if_pos rfl, if_pos (by omega), show (22 + 3 * i + 1 - 22) / 3 = i by omega]
      · rw [if_neg e, hf y]
        by_cases e2 : 22 ≤ y ∧ (y - 22) % 3 = 1 ∧ (y - 22) / 3 < i
        · rw [if_pos e2, if_pos (show 22 ≤ y ∧ (y - 22) % 3 = 1 ∧ (y - 22) / 3 < (i + 1) by omega)]
        · rw [if_neg e2, if_neg (show ¬ (22 ≤ y ∧ (y - 22) % 3 = 1 ∧ (y - 22) / 3 < (i + 1)) by omega)]
  have LA : ∀ i, i ≤ R → ∀ f : FN, (∀ y, f y = if y = 3 then nI (G + 1) else if 16 ≤ y ∧ y < 16 + i then be2 (y - 16) else ho y) → V E mX8_ring (4, 0, 0) Z 0 0 (wM E a tn st la mn im f fr wa1 ((nI (min (h + 1) 24))) tp td lt lg cu tk sr tl fa fp wh2 k3 f1 k1 k2 be2 ((nI (rg1 (nI 0) 0 R K sn0 so0 he0 (G, be0, lN_ lo0)).1)) ((nI 0)) ((nI 0)) ik ke tc tr) [(0, .ref (a 0)), (1, .int wv), (2, .int (nI i))] [] 25 := by
    refine lp_up R ?_
    intro i hi ih f hf
    refine mr_iload_n C 26 dX8_ring_25 rfl rfl ?_
    refine mr_aload_n C 27 dX8_ring_26 rfl rfl ?_
    refine mr_get C 0 30 dX8_ring_27 rfl fl_X8_19 rfl rfl ?_
    refine mr_iconst C (nI 0) 31 dX8_ring_30 rfl rfl ?_
    refine mr_iale C 4 0 (nI R) 32 dX8_ring_31 rfl rfl rfl (by omega) (by decide) (by rw [hf 0, if_neg (by decide), if_neg (by omega)]; exact h0) ?_
    refine mr_icmpge C 56 35 dX8_ring_32 (by decide) rfl (fun c_32 => ?_) (fun c_32 => ?_)
    · rw [nI_leI (by omega) (by omega)] at c_32
      refine mr_iconst C (nI 0) 57 dX8_ring_56 rfl rfl ?_
      refine mr_istore_n C 58 dX8_ring_57 rfl rfl (by decide) ?_
      have hiR : i = R := by omega
      rw [hiR] at hf
      exact mr_at (LB 0 (Nat.zero_le _) f (fun y => (hf y).trans (if_neg (fun h => absurd h.2.2 (Nat.not_lt_zero _))).symm)) rfl rfl rfl
    · rw [nI_leI (by omega) (by omega)] at c_32
      refine mr_aload_n C 36 dX8_ring_35 rfl rfl ?_
      refine mr_get C 0 39 dX8_ring_36 rfl fl_X8_19 rfl rfl ?_
      refine mr_bipush C (nI 16) 41 dX8_ring_39 rfl rfl ?_
      refine mr_iload_n C 42 dX8_ring_41 rfl rfl ?_
      refine mr_iadd C (nI (16 + i)) 43 dX8_ring_42 rfl (nI_add _ _) ?_
      refine mr_aload_n C 44 dX8_ring_43 rfl rfl ?_
      refine mr_get C 0 47 dX8_ring_44 rfl fl_X8_46 rfl rfl ?_
      refine mr_iload_n C 48 dX8_ring_47 rfl rfl ?_
      refine mr_iald C 13 i 49 dX8_ring_48 rfl rfl rfl (by omega) (by decide) ?_
      refine mr_iast C 4 (16 + i) 50 dX8_ring_49 rfl rfl rfl (by omega) (by decide) ?_
      refine mr_iinc C (nI (i + 1)) 53 dX8_ring_50 rfl rfl (by decide) (nI_add i 1) ?_
      refine mr_goto C 25 dX8_ring_53 (by decide) ?_
      refine mr_at (ih (by omega) _ (fun y => ?_)) rfl rfl rfl
      rw [up_at]
      by_cases e : y = 16 + i
      · subst e; rw [if_pos rfl, if_neg (by omega), if_pos (by omega), show 16 + i - 16 = i by omega]
      · rw [if_neg e, hf y]
        by_cases e2 : y = 3
        · rw [if_pos e2, if_pos e2]
        · rw [if_neg e2, if_neg e2]
          by_cases e3 : 16 ≤ y ∧ y < 16 + i
          · rw [if_pos e3, if_pos (by omega)]
          · rw [if_neg e3, if_neg (by omega)]
  exact mr_at (LA 0 (Nat.zero_le _) _ (fun y => by rw [up_at]; by_cases e : y = 3; rw [if_pos e, if_pos e]; rw [if_neg e, if_neg e, if_neg (by omega)])) rfl rfl rfl

