/-! the reference: beginnings, kinds, asks, counts -/
theorem dec_le {R K : Nat} (hR : R ≤ 6) (hK : K ≤ 5) : R ^ K < 2 ^ 20 := Nat.lt_of_le_of_lt (powRK hR hK) (by decide)
set_option maxRecDepth 20000 in
set_option maxHeartbeats 4000000 in
theorem c_layBegan (E : EG) (a : Nat → Nat) (tn st ac td lt lg cu tk sr tl fa fp gn gi gm tr : Int32) (la mn im ho fr wa tp wh go se no al be ik ke tc : FN) (R K G : Nat) (se0 sn0 be0 so0 lo0 he0 : FN) (hR : R ≤ 6) (hK : K ≤ 5) (hG : G ≤ 9999) (hl : ∀ c, c < K → lo0 c = nI (lN_ lo0 c) ∧ lN_ lo0 c < R) (hso : ∀ c, c < K → ∃ k, 1 ≤ k ∧ k ≤ 5 ∧ so0 c = nI k) (hrh : RH ho R K G se0 sn0 be0 so0 lo0 he0) (way : Nat) (hR0 : 0 < R) (hway : way < 2 ^ 30) : Ctr E mX8_layBegan (4, 0, 0) [.ref (a 0), .int (nI way)] (wM E a tn st la mn im ho fr wa ac tp td lt lg cu tk sr tl fa fp wh go se no al be gn gi gm ik ke tc tr) (fun v w => ∃ f1 f2 f : FN, v = none ∧ w = wM E a tn st la mn im ho fr wa ac tp td lt lg cu tk sr tl fa fp f go f1 no al f2 ((nI 0)) ((nI 0)) ((nI 0)) ik ke tc tr ∧ HM R K sn0 so0 he0 (0, fun _ => nI 0, decS R K way) ho f1 f2 f) := by
  refine Ctr.of (by decide) (Nat.le_of_ble_eq_true rfl) ?_
  intro Z hO hn C
  have hlen : zn Z ≤ 17 := by rw [hn]; exact Nat.le_of_ble_eq_true rfl
  have h0 := hrh.1
  have h2 := hrh.2.1
  have h3 := hrh.2.2.1
  have hk : ∀ c, c < K → ∃ k, 1 ≤ k ∧ k ≤ 5 ∧ hoS ho c = nI k := fun c hc => by
    obtain ⟨k, e1, e2, e3⟩ := hso c hc
    exact ⟨k, e1, e2, (hrh.2.2.2.2.2 c hc).1.trans e3⟩
  refine mr_aload_n C 1 dX8_layBegan_0 rfl rfl ?_
  refine mr_callV C (c_layNow E a tn st ac td lt lg cu tk sr tl fa fp gn gi gm tr la mn im ho fr wa tp wh go se no al be ik ke tc R K G hR hK h0 h2 h3) [0, 1, 2, 3, 4, 5, 6, 7, 8, 9, 10, 11, 12, 13, 14, 15, 16] 0 8 4 dX8_layBegan_1 rfl mk_X8_layNow mi_X8_layNow ml_X8_219 rfl rfl rfl rfl rfl (Nat.le_of_ble_eq_true rfl) (by decide) (by decide) (by decide) rfl rfl (fun r w1 hpost => ?_)
  obtain ⟨f1, f2, f3_, rfl, rfl, hf1, hf2⟩ := hpost
  have hH : HM R K sn0 so0 he0 (G, be0, lN_ lo0) ho f1 f2 f3_ := hrh.lay hl hf1 hf2
  refine mr_w (wput_all _ _ 17 rfl rfl) ?_
  refine mr_aload_n C 5 dX8_layBegan_4 rfl rfl ?_
  refine mr_iconst C (nI 0) 6 dX8_layBegan_5 rfl rfl ?_
  refine mr_put C 0 9 dX8_layBegan_6 rfl fs_X8_192 rfl rfl rfl (Nat.le_of_ble_eq_true rfl) ?_
  refine mr_iload_n C 10 dX8_layBegan_9 rfl rfl ?_
  refine mr_istore_n C 11 dX8_layBegan_10 rfl rfl (by decide) ?_
  refine mr_aload_n C 12 dX8_layBegan_11 rfl rfl ?_
  refine mr_get C 0 15 dX8_layBegan_12 rfl fl_X8_19 rfl rfl ?_
  refine mr_iconst C (nI 2) 16 dX8_layBegan_15 rfl rfl ?_
  refine mr_iale C 4 2 (nI K) 17 dX8_layBegan_16 rfl rfl rfl (by omega) (by decide) h2 ?_
  refine mr_iconst C (nI 1) 18 dX8_layBegan_17 rfl rfl ?_
  refine mr_isub C (nI K - nI 1) 19 dX8_layBegan_18 rfl rfl ?_
  refine mr_istore_n C 20 dX8_layBegan_19 rfl rfl (by decide) ?_
  have L : ∀ t, t ≤ K → ∀ f : FN, (∀ c, K - t ≤ c → c < K → f c = nI (decS R K way c)) → V E mX8_layBegan (4, 0, 0) Z 0 0 (wM E a tn st la mn im ho fr wa ac tp td lt lg cu tk sr tl fa fp f go f1 no al f2 ((nI 0)) ((nI 0)) ((nI 0)) ik ke tc tr) [(0, .ref (a 0)), (2, .int (nI (way / R ^ t))), (3, .int (nI (K - t) - nI 1))] [] 20 := by
    refine lp_up K ?_
    intro t ht ih f hf
    refine mr_iload_n C 21 dX8_layBegan_20 rfl rfl ?_
    refine mr_iflt C 53 24 dX8_layBegan_21 (by decide) rfl (fun c_21 => ?_) (fun c_21 => ?_)
    · have hKt : t = K := by
        by_cases h : t = K
        · exact h
        · rw [pk_sub (by omega)] at c_21; exact absurd c_21 (nI_pos (by omega))
      refine mr_vret C dX8_layBegan_53 rfl (by decide) (by decide) hlen ?_
      rw [hO]
      exact ⟨f1, f2, f, rfl, rfl, hH.1, fun h => absurd h (Nat.lt_irrefl 0), fun c hc => ⟨(hH.2.2 c hc).1, (hH.2.2 c hc).2.1, hf c (by omega) hc, decS_lt hR0⟩⟩
    · have hKt : t < K := by
        by_cases h : t = K
        · subst h; rw [Nat.sub_self] at c_21; exact absurd (by decide) c_21
        · omega
      have e3 : nI (K - t) - nI 1 = nI (K - 1 - t) := by rw [pk_sub (by omega)]; congr 1; omega
      rw [e3]
      have hm : way / R ^ t % R < R := Nat.mod_lt _ hR0
      refine mr_aload_n C 25 dX8_layBegan_24 rfl rfl ?_
      refine mr_get C 0 28 dX8_layBegan_25 rfl fl_X8_31 rfl rfl ?_
      refine mr_iload_n C 29 dX8_layBegan_28 rfl rfl ?_
      refine mr_iload_n C 30 dX8_layBegan_29 rfl rfl ?_
      refine mr_aload_n C 31 dX8_layBegan_30 rfl rfl ?_
      refine mr_get C 0 34 dX8_layBegan_31 rfl fl_X8_19 rfl rfl ?_
      refine mr_iconst C (nI 0) 35 dX8_layBegan_34 rfl rfl ?_
      refine mr_iale C 4 0 (nI R) 36 dX8_layBegan_35 rfl rfl rfl (by omega) (by decide) h0 ?_
      refine mr_irem C (nI (way / R ^ t % R)) 37 dX8_layBegan_36 rfl (nI_ne0 hR0 (by omega)) (pk_rem (Nat.lt_of_le_of_lt (Nat.div_le_self _ _) (by omega)) hR0 (by omega)) ?_
      refine mr_iast C 8 (K - 1 - t) 38 dX8_layBegan_37 rfl rfl rfl (by omega) (by decide) ?_
      refine mr_iload_n C 39 dX8_layBegan_38 rfl rfl ?_
      refine mr_aload_n C 40 dX8_layBegan_39 rfl rfl ?_
      refine mr_get C 0 43 dX8_layBegan_40 rfl fl_X8_19 rfl rfl ?_
      refine mr_iconst C (nI 0) 44 dX8_layBegan_43 rfl rfl ?_
      refine mr_iale C 4 0 (nI R) 45 dX8_layBegan_44 rfl rfl rfl (by omega) (by decide) h0 ?_
      refine mr_idiv C (nI (way / R ^ (t + 1))) 46 dX8_layBegan_45 rfl (nI_ne0 hR0 (by omega)) ((pk_div (Nat.lt_of_le_of_lt (Nat.div_le_self _ _) (by omega)) hR0 (by omega)).trans (congrArg nI (by rw [Nat.div_div_eq_div_mul, Nat.pow_succ]))) ?_
      refine mr_istore_n C 47 dX8_layBegan_46 rfl rfl (by decide) ?_
      refine mr_iinc C (nI (K - (t + 1)) - nI 1) 50 dX8_layBegan_47 rfl rfl (by decide) ((sub1 _).trans (congrArg (fun z => nI z - nI 1) (by omega))) ?_
      refine mr_goto C 20 dX8_layBegan_50 (by decide) ?_
      refine mr_at (ih (by omega) _ ?_) rfl rfl rfl
      intro c h1 h2
      by_cases e : c = K - 1 - t
      · subst e
        rw [decS_at (by omega)]; exact up_s
      · rw [up_n e]; exact hf c (by omega) h2
  have L0 := L 0 (Nat.zero_le _) f3_ (fun c h1 h2 => absurd h1 (by omega))
  rw [Nat.pow_zero, Nat.div_one, Nat.sub_zero] at L0
  exact mr_at L0 rfl rfl rfl

theorem cnt0 {P : Nat → Prop} : ∀ {n : Nat}, (∀ j, j < n → ¬ P j) → cntP P n = 0
  | 0, _ => rfl
  | n + 1, h => by rw [cntP_f (h n (by omega))]; exact cnt0 (fun j hj => h j (by omega))
set_option maxRecDepth 20000 in
set_option maxHeartbeats 4000000 in
theorem c_m_began (E : EG) (a : Nat → Nat) (tn st ac td lt lg cu tk sr tl fa fp gn gi gm tr : Int32) (la mn im ho fr wa tp wh go se no al be ik ke tc : FN) (R K G : Nat) (se0 sn0 be0 so0 lo0 he0 : FN) (hR : R ≤ 6) (hK : K ≤ 5) (hG : G ≤ 9999) (hl : ∀ c, c < K → lo0 c = nI (lN_ lo0 c) ∧ lN_ lo0 c < R) (hso : ∀ c, c < K → ∃ k, 1 ≤ k ∧ k ≤ 5 ∧ so0 c = nI k) (hrh : RH ho R K G se0 sn0 be0 so0 lo0 he0) (c0 n0 : Int32)  : Ctr E mX8_began (6, 0, 0) [.ref (a 0), .int c0, .int n0] (wM E a tn st la mn im ho fr wa ac tp td lt lg cu tk sr tl fa fp wh go se no al be gn gi gm ik ke tc tr) (fun v w => ∃ (wh' go' se' no' al' be' : FN) (gn' gi' gm' : Int32), v = some (.int (beganV c0 n0 R K sn0 so0 he0 (lN_ lo0))) ∧ w = wM E a ((nI 0)) st la mn im ho fr wa ac tp td lt lg cu tk sr tl fa fp (wh') (go') (se') (no') (al') (be') (gn') (gi') (gm') ik ke tc tr) := by
  refine Ctr.of (by decide) (Nat.le_of_ble_eq_true rfl) ?_
  intro Z hO hn C
  have hlen : zn Z ≤ 17 := by rw [hn]; exact Nat.le_of_ble_eq_true rfl
  have h0 := hrh.1
  have h2 := hrh.2.1
  have h3 := hrh.2.2.1
  have hk : ∀ c, c < K → ∃ k, 1 ≤ k ∧ k ≤ 5 ∧ hoS ho c = nI k := fun c hc => by
    obtain ⟨k, e1, e2, e3⟩ := hso c hc
    exact ⟨k, e1, e2, (hrh.2.2.2.2.2 c hc).1.trans e3⟩
  refine mr_aload_n C 1 dX8_began_0 rfl rfl ?_
  refine mr_iconst C (nI 0) 2 dX8_began_1 rfl rfl ?_
  refine mr_put C 0 5 dX8_began_2 rfl fs_X8_59 rfl rfl rfl (Nat.le_of_ble_eq_true rfl) ?_
  refine mr_w (ws' := wM E a ((nI 0)) st la mn im ho fr wa ac tp td lt lg cu tk sr tl fa fp wh go se no al be gn gi gm ik ke tc tr) rfl ?_
  refine mr_aload_n C 6 dX8_began_5 rfl rfl ?_
  refine mr_callV C (c_m_isThere E a ((nI 0)) st ac td lt lg cu tk sr tl fa fp gn gi gm tr la mn im ho fr wa tp wh go se no al be ik ke tc R hR h0) [0, 1, 2, 3, 4, 5, 6, 7, 8, 9, 10, 11, 12, 13, 14, 15, 16] 0 8 9 dX8_began_6 rfl mk_X8_isThere mi_X8_isThere ml_X8_222 rfl rfl rfl rfl rfl (Nat.le_of_ble_eq_true rfl) (by decide) (by decide) (by decide) rfl rfl (fun r w1 hpost => ?_)
  obtain ⟨rfl, rfl⟩ := hpost
  refine mr_w (wput_all _ _ 17 rfl rfl) ?_
  refine mr_ifne C 15 12 dX8_began_9 (by decide) rfl (fun c_9 => ?_) (fun c_9 => ?_)
  · rw [bI_ne] at c_9
    refine mr_iload_n C 16 dX8_began_15 rfl rfl ?_
    refine mr_i2l C _ 17 dX8_began_16 rfl rfl ?_
    refine mr_ldc2 C 20 dX8_began_17 rfl kc_X8_275 ?_
    refine mr_aload_n C 21 dX8_began_20 rfl rfl ?_
    refine mr_get C 0 24 dX8_began_21 rfl fl_X8_19 rfl rfl ?_
    refine mr_iconst C (nI 2) 25 dX8_began_24 rfl rfl ?_
    refine mr_iale C 4 2 (nI K) 26 dX8_began_25 rfl rfl rfl (by omega) (by decide) h2 ?_
    refine mr_iconst C (nI 1) 27 dX8_began_26 rfl rfl ?_
    refine mr_isub C (nI K - nI 1) 28 dX8_began_27 rfl rfl ?_
    refine mr_i2l C _ 29 dX8_began_28 rfl rfl ?_
    refine mr_callS C (c_inK E c0 (-1) ((K : Int) - 1) _ _ rfl (ends1 (by omega))) [] 32 dX8_began_29 rfl mk_X8_in ms_X8_in ml_X8_69 rfl rfl rfl rfl (Nat.le_of_ble_eq_true rfl) (by decide) (by decide) (by decide) (fun r w1 hpost => ?_)
    obtain ⟨rfl, rfl⟩ := hpost
    refine mr_w (ws' := wM E a ((nI 0)) st la mn im ho fr wa ac tp td lt lg cu tk sr tl fa fp wh go se no al be gn gi gm ik ke tc tr) rfl ?_
    refine mr_ifeq C 47 35 dX8_began_32 (by decide) rfl (fun c_32 => ?_) (fun c_32 => ?_)
    · rw [bI_eq] at c_32
      refine mr_ldc C 49 dX8_began_47 rfl kc_X8_79 ?_
      refine mr_iret C dX8_began_49 rfl rfl (by decide) (by decide) hlen ?_
      rw [hO]
      exact ⟨_, _, _, _, _, _, _, _, _, congrArg (fun z => some (Value.int z)) (((ifP_f (by omega)).trans (ifP_f (by omega))).symm), rfl⟩
    · rw [← Ne, bI_ne] at c_32
      refine mr_iload_n C 36 dX8_began_35 rfl rfl ?_
      refine mr_i2l C _ 37 dX8_began_36 rfl rfl ?_
      refine mr_lconst C 0 38 dX8_began_37 rfl rfl ?_
      refine mr_ldc2 C 41 dX8_began_38 rfl kc_X8_277 ?_
      refine mr_callS C (c_inK E n0 (0) (9) _ _ rfl rfl) [] 44 dX8_began_41 rfl mk_X8_in ms_X8_in ml_X8_69 rfl rfl rfl rfl (Nat.le_of_ble_eq_true rfl) (by decide) (by decide) (by decide) (fun r w1 hpost => ?_)
      obtain ⟨rfl, rfl⟩ := hpost
      refine mr_w (ws' := wM E a ((nI 0)) st la mn im ho fr wa ac tp td lt lg cu tk sr tl fa fp wh go se no al be gn gi gm ik ke tc tr) rfl ?_
      refine mr_ifne C 50 47 dX8_began_44 (by decide) rfl (fun c_44 => ?_) (fun c_44 => ?_)
      · rw [bI_ne] at c_44
        have hp7 := powRK hR hK
        obtain ⟨n, hn, rfl⟩ := tI_of (x := n0) (n := 10) (by omega) (by omega)
        have en : (nI n).toInt = (n : Int) := tI_n (by omega)
        have in_ : iN (nI n) = n := iN_n (by omega)
        refine mr_iconst C (nI 1) 51 dX8_began_50 rfl rfl ?_
        refine mr_istore_n C 52 dX8_began_51 rfl rfl (by decide) ?_
        refine mr_iconst C (nI 0) 53 dX8_began_52 rfl rfl ?_
        refine mr_istore C 55 dX8_began_53 rfl (by decide) ?_
        have LB : ∀ i, i ≤ R ^ K → ∀ (w1 w2 w3 w4 w5 w6 : FN) (g1 g2 g3 : Int32), ∀ f : Int32, ((f = -1000000 ∧ ∀ j, j < i → ¬ begP R K n sn0 so0 he0 (lN_ lo0) j) ∨ ∃ j, j < i ∧ f = nI j ∧ begP R K n sn0 so0 he0 (lN_ lo0) j ∧ ∀ k, k < j → ¬ begP R K n sn0 so0 he0 (lN_ lo0) k) → V E mX8_began (6, 0, 0) Z 0 0 (wM E a ((nI 0)) st la mn im ho fr wa ac tp td lt lg cu tk sr tl fa fp w1 w2 w3 w4 w5 w6 g1 g2 g3 ik ke tc tr) [(0, .ref (a 0)), (1, .int c0), (2, .int (nI n)), (3, .int (nI (R ^ K))), (4, .int (nI (cntP (begP R K n sn0 so0 he0 (lN_ lo0)) (i)))), (5, .int f), (6, .int (nI i))] [] 91 := by
          refine lp_up (R ^ K) ?_
          intro i hi ih w1 w2 w3 w4 w5 w6 g1 g2 g3 f hf
          refine mr_iload C 93 dX8_began_91 rfl rfl ?_
          refine mr_iload_n C 94 dX8_began_93 rfl rfl ?_
          refine mr_icmpge C 202 97 dX8_began_94 (by decide) rfl (fun c_94 => ?_) (fun c_94 => ?_)
          · rw [nI_leI (by omega) (by omega)] at c_94
            refine mr_iload_n C 203 dX8_began_202 rfl rfl ?_
            refine mr_iflt C 213 206 dX8_began_203 (by decide) rfl (fun c_203 => ?_) (fun c_203 => ?_)
            · rw [tI_lt0] at c_203
              refine mr_iload_n C 214 dX8_began_213 rfl rfl ?_
              refine mr_ifge C 222 217 dX8_began_214 (by decide) rfl (fun c_214 => ?_) (fun c_214 => ?_)
              · rw [tI_ge0] at c_214
                refine mr_ldc C 224 dX8_began_222 rfl kc_X8_95 ?_
                refine mr_iret C dX8_began_224 rfl rfl (by decide) (by decide) hlen ?_
                rw [hO]
                exfalso
                omega
              · rw [tI_ge0] at c_214
                refine mr_iload C 219 dX8_began_217 rfl rfl ?_
                refine mr_goto C 224 dX8_began_219 (by decide) ?_
                refine mr_iret C dX8_began_224 rfl rfl (by decide) (by decide) hlen ?_
                rw [hO]
                have hi9 : i = R ^ K := by omega
                have e9 : cntP (begP R K n sn0 so0 he0 (lN_ lo0)) (i) = cntP (begP R K n sn0 so0 he0 (lN_ lo0)) (R ^ K) := by rw [hi9]
                rw [e9]
                exact ⟨_, _, _, _, _, _, _, _, _, congrArg (fun z => some (Value.int z)) (((ifP_f (by omega)).trans ((ifP_t (by omega)).trans ((ifP_t (by omega)).trans (by rw [in_])))).symm), rfl⟩
            · rw [tI_lt0] at c_203
              refine mr_iload C 208 dX8_began_206 rfl rfl ?_
              refine mr_ldc C 210 dX8_began_208 rfl kc_X8_95 ?_
              refine mr_icmpne C 225 213 dX8_began_210 (by decide) rfl (fun c_210 => ?_) (fun c_210 => ?_)
              · have hi9 : i = R ^ K := by omega
                rw [hi9] at hf
                obtain ⟨j, hj1, rfl, hj3, hj4⟩ := hf.resolve_left (fun h => c_210 h.1)
                obtain ⟨c, hc, rfl⟩ := tI_of (x := c0) (n := K) (by omega) (by omega)
                have ec : (nI c).toInt = (c : Int) := tI_n (by omega)
                have ic_ : iN (nI c) = c := iN_n (by omega)
                refine mr_aload_n C 226 dX8_began_225 rfl rfl ?_
                refine mr_iload C 228 dX8_began_226 rfl rfl ?_
                refine mr_callV C (c_layBegan E a ((nI 0)) st ac td lt lg cu tk sr tl fa fp g1 g2 g3 tr la mn im ho fr wa tp w1 w2 w3 w4 w5 w6 ik ke tc R K G se0 sn0 be0 so0 lo0 he0 hR hK hG hl hso hrh j (by omega) (by omega)) [0, 1, 2, 3, 4, 5, 6, 7, 8, 9, 10, 11, 12, 13, 14, 15, 16] 0 8 231 dX8_began_228 rfl mk_X8_layBegan mi_X8_layBegan ml_X8_279 rfl rfl rfl rfl rfl (Nat.le_of_ble_eq_true rfl) (by decide) (by decide) (by decide) rfl rfl (fun r w1 hpost => ?_)
                obtain ⟨p1, p2, p3, rfl, rfl, hH⟩ := hpost
                refine mr_w (wput_all _ _ 17 rfl rfl) ?_
                refine mr_aload_n C 232 dX8_began_231 rfl rfl ?_
                refine mr_get C 0 235 dX8_began_232 rfl fl_X8_31 rfl rfl ?_
                refine mr_iload_n C 236 dX8_began_235 rfl rfl ?_
                refine mr_iald C 8 c 237 dX8_began_236 rfl rfl rfl (by omega) (by decide) ?_
                refine mr_iret C dX8_began_237 rfl rfl (by decide) (by decide) hlen ?_
                rw [hO]
                have e8 : fstN (begP R K n sn0 so0 he0 (lN_ lo0)) (R ^ K) 0 = j := fstN_hit (R ^ K) 0 j (by omega) (by omega) (fun k _ h => hj4 k h) hj3
                have e7 : ¬ cntP (begP R K n sn0 so0 he0 (lN_ lo0)) (R ^ K) = 0 := fun h => cntP_0 (R ^ K) h j hj1 hj3
                exact ⟨_, _, _, _, _, _, _, _, _, congrArg (fun z => some (Value.int z)) (((hH.2.2 c hc).2.2.1.trans ((ifP_f (by omega)).trans ((ifP_t (by omega)).trans ((ifP_f (by omega)).trans (by rw [in_, ic_]; exact (ifP_f e7).trans (by rw [e8]))))).symm)), rfl⟩
              · refine mr_iload_n C 214 dX8_began_213 rfl rfl ?_
                refine mr_ifge C 222 217 dX8_began_214 (by decide) rfl (fun c_214 => ?_) (fun c_214 => ?_)
                · rw [tI_ge0] at c_214
                  refine mr_ldc C 224 dX8_began_222 rfl kc_X8_95 ?_
                  refine mr_iret C dX8_began_224 rfl rfl (by decide) (by decide) hlen ?_
                  rw [hO]
                  have hi9 : i = R ^ K := by omega
                  rw [hi9] at hf
                  have e8 : cntP (begP R K n sn0 so0 he0 (lN_ lo0)) (R ^ K) = 0 := cnt0 (hf.elim (fun h => h.2) (fun h => by obtain ⟨j, h1, h2, h3, h4⟩ := h; exact absurd (h2.symm.trans c_210) (nd36 (by omega))))
                  exact ⟨_, _, _, _, _, _, _, _, _, congrArg (fun z => some (Value.int z)) (((ifP_f (by omega)).trans ((ifP_t (by omega)).trans ((ifP_f (by omega)).trans (by rw [in_]; exact ifP_t e8)))).symm), rfl⟩
                · rw [tI_ge0] at c_214
                  refine mr_iload C 219 dX8_began_217 rfl rfl ?_
                  refine mr_goto C 224 dX8_began_219 (by decide) ?_
                  refine mr_iret C dX8_began_224 rfl rfl (by decide) (by decide) hlen ?_
                  rw [hO]
                  have hi9 : i = R ^ K := by omega
                  have e9 : cntP (begP R K n sn0 so0 he0 (lN_ lo0)) (i) = cntP (begP R K n sn0 so0 he0 (lN_ lo0)) (R ^ K) := by rw [hi9]
                  rw [e9]
                  exact ⟨_, _, _, _, _, _, _, _, _, congrArg (fun z => some (Value.int z)) (((ifP_f (by omega)).trans ((ifP_t (by omega)).trans ((ifP_t (by omega)).trans (by rw [in_])))).symm), rfl⟩
          · rw [nI_leI (by omega) (by omega)] at c_94
            refine mr_aload_n C 98 dX8_began_97 rfl rfl ?_
            refine mr_iload C 100 dX8_began_98 rfl rfl ?_
            refine mr_callV C (c_layBegan E a ((nI 0)) st ac td lt lg cu tk sr tl fa fp g1 g2 g3 tr la mn im ho fr wa tp w1 w2 w3 w4 w5 w6 ik ke tc R K G se0 sn0 be0 so0 lo0 he0 hR hK hG hl hso hrh i (by omega) (by omega)) [0, 1, 2, 3, 4, 5, 6, 7, 8, 9, 10, 11, 12, 13, 14, 15, 16] 0 8 103 dX8_began_100 rfl mk_X8_layBegan mi_X8_layBegan ml_X8_279 rfl rfl rfl rfl rfl (Nat.le_of_ble_eq_true rfl) (by decide) (by decide) (by decide) rfl rfl (fun r w1 hpost => ?_)
            obtain ⟨f1, f2, f3_, rfl, rfl, hH⟩ := hpost
            refine mr_w (wput_all _ _ 17 rfl rfl) ?_
            refine mr_aload_n C 104 dX8_began_103 rfl rfl ?_
            refine mr_iload_n C 105 dX8_began_104 rfl rfl ?_
            refine mr_callV C (c_goBells E a ((nI 0)) st ac td lt lg cu tk sr tl fa fp (nI 0) tr la mn im ho fr wa tp f3_ w2 f1 w4 w5 f2 ik ke tc R K 0 hR hK (by decide) h0 h2 hk sn0 so0 he0 (0, fun _ => nI 0, decS R K i) n (by omega) (by show 0 < 2 ^ 29; decide) hH) [0, 1, 2, 3, 4, 5, 6, 7, 8, 9, 10, 11, 12, 13, 14, 15, 16] 0 8 108 dX8_began_105 rfl mk_X8_goBells mi_X8_goBells ml_X8_249 rfl rfl rfl rfl rfl (Nat.le_of_ble_eq_true rfl) (by decide) (by decide) (by decide) rfl rfl (fun r w1 hpost => ?_)
            obtain ⟨wh1, be1, q1, q2, q3, rfl, rfl, hH1⟩ := hpost
            refine mr_w (wput_all _ _ 17 rfl rfl) ?_
            refine mr_iconst C (nI 1) 109 dX8_began_108 rfl rfl ?_
            refine mr_istore C 111 dX8_began_109 rfl (by decide) ?_
            refine mr_iconst C (nI 0) 112 dX8_began_111 rfl rfl ?_
            refine mr_istore C 114 dX8_began_112 rfl (by decide) ?_
            have bh_ : V E mX8_began (6, 0, 0) Z 0 0 (wM E a ((nI 0)) st la mn im ho fr wa ac tp td lt lg cu tk sr tl fa fp wh1 q3 f1 q1 q2 be1 ((nI (rgN (nI 0) 0 R K sn0 so0 he0 (0, fun _ => nI 0, decS R K i) n).1)) ((nI 0)) ((nI 0)) ik ke tc tr) [(0, .ref (a 0)), (1, .int c0), (2, .int (nI n)), (3, .int (nI (R ^ K))), (4, .int (nI (cntP (begP R K n sn0 so0 he0 (lN_ lo0)) (i)))), (5, .int f), (6, .int (nI i)), (7, .int (bP (∀ j, j < K → (rgN (nI 0) 0 R K sn0 so0 he0 (0, fun _ => nI 0, decS R K i) n).2.2 j = lN_ lo0 j)))] [] 160 := by
              refine mr_iload C 162 dX8_began_160 rfl rfl ?_
              refine mr_iload C 164 dX8_began_162 rfl rfl ?_
              refine mr_ifeq C 171 167 dX8_began_164 (by decide) rfl (fun c_164 => ?_) (fun c_164 => ?_)
              · rw [bP_eq] at c_164
                refine mr_iconst C (nI 0) 172 dX8_began_171 rfl rfl ?_
                refine mr_iadd C (nI ((cntP (begP R K n sn0 so0 he0 (lN_ lo0)) (i)) + 0)) 173 dX8_began_172 rfl (nI_add _ _) ?_
                refine mr_istore C 175 dX8_began_173 rfl (by decide) ?_
                refine mr_iload C 177 dX8_began_175 rfl rfl ?_
                refine mr_ifeq C 192 180 dX8_began_177 (by decide) rfl (fun c_177 => ?_) (fun c_177 => ?_)
                · rw [bP_eq] at c_177
                  refine mr_iload C 194 dX8_began_192 rfl rfl ?_
                  refine mr_istore C 196 dX8_began_194 rfl (by decide) ?_
                  refine mr_iinc C (nI (i + 1)) 199 dX8_began_196 rfl rfl (by decide) (nI_add i 1) ?_
                  refine mr_goto C 91 dX8_began_199 (by decide) ?_
                  have hb : ¬ begP R K n sn0 so0 he0 (lN_ lo0) i := c_164
                  have e5 : cntP (begP R K n sn0 so0 he0 (lN_ lo0)) (i + 1) = cntP (begP R K n sn0 so0 he0 (lN_ lo0)) (i) := cntP_f hb
                  have ih2 := ih (by omega)
                  rw [e5] at ih2
                  refine mr_at (ih2 _ _ _ _ _ _ _ _ _ f ?_) rfl rfl rfl
                  rcases hf with ⟨h1, h2⟩ | ⟨j, h1, h2, h3, h4⟩
                  · refine Or.inl ⟨h1, fun j hj => ?_⟩
                    by_cases e : j = i
                    · rw [e]; exact hb
                    · exact h2 j (by omega)
                  · exact Or.inr ⟨j, by omega, h2, h3, h4⟩
                · rw [← Ne, bP_ne] at c_177
                  refine mr_iload C 182 dX8_began_180 rfl rfl ?_
                  refine mr_ldc C 184 dX8_began_182 rfl kc_X8_95 ?_
                  refine mr_icmpne C 192 187 dX8_began_184 (by decide) rfl (fun c_184 => ?_) (fun c_184 => ?_)
                  · refine mr_iload C 194 dX8_began_192 rfl rfl ?_
                    refine mr_istore C 196 dX8_began_194 rfl (by decide) ?_
                    refine mr_iinc C (nI (i + 1)) 199 dX8_began_196 rfl rfl (by decide) (nI_add i 1) ?_
                    refine mr_goto C 91 dX8_began_199 (by decide) ?_
                    first
                      | exact absurd c_164 c_177
                      | exact absurd c_177 c_164
                  · refine mr_iload C 189 dX8_began_187 rfl rfl ?_
                    refine mr_goto C 194 dX8_began_189 (by decide) ?_
                    refine mr_istore C 196 dX8_began_194 rfl (by decide) ?_
                    refine mr_iinc C (nI (i + 1)) 199 dX8_began_196 rfl rfl (by decide) (nI_add i 1) ?_
                    refine mr_goto C 91 dX8_began_199 (by decide) ?_
                    first
                      | exact absurd c_164 c_177
                      | exact absurd c_177 c_164
              · rw [← Ne, bP_ne] at c_164
                refine mr_iconst C (nI 1) 168 dX8_began_167 rfl rfl ?_
                refine mr_goto C 172 dX8_began_168 (by decide) ?_
                refine mr_iadd C (nI ((cntP (begP R K n sn0 so0 he0 (lN_ lo0)) (i)) + 1)) 173 dX8_began_172 rfl (nI_add _ _) ?_
                refine mr_istore C 175 dX8_began_173 rfl (by decide) ?_
                refine mr_iload C 177 dX8_began_175 rfl rfl ?_
                refine mr_ifeq C 192 180 dX8_began_177 (by decide) rfl (fun c_177 => ?_) (fun c_177 => ?_)
                · rw [bP_eq] at c_177
                  refine mr_iload C 194 dX8_began_192 rfl rfl ?_
                  refine mr_istore C 196 dX8_began_194 rfl (by decide) ?_
                  refine mr_iinc C (nI (i + 1)) 199 dX8_began_196 rfl rfl (by decide) (nI_add i 1) ?_
                  refine mr_goto C 91 dX8_began_199 (by decide) ?_
                  first
                    | exact absurd c_164 c_177
                    | exact absurd c_177 c_164
                · rw [← Ne, bP_ne] at c_177
                  refine mr_iload C 182 dX8_began_180 rfl rfl ?_
                  refine mr_ldc C 184 dX8_began_182 rfl kc_X8_95 ?_
                  refine mr_icmpne C 192 187 dX8_began_184 (by decide) rfl (fun c_184 => ?_) (fun c_184 => ?_)
                  · refine mr_iload C 194 dX8_began_192 rfl rfl ?_
                    refine mr_istore C 196 dX8_began_194 rfl (by decide) ?_
                    refine mr_iinc C (nI (i + 1)) 199 dX8_began_196 rfl rfl (by decide) (nI_add i 1) ?_
                    refine mr_goto C 91 dX8_began_199 (by decide) ?_
                    have hb : begP R K n sn0 so0 he0 (lN_ lo0) i := c_164
                    have e5 : cntP (begP R K n sn0 so0 he0 (lN_ lo0)) (i + 1) = cntP (begP R K n sn0 so0 he0 (lN_ lo0)) (i) + 1 := cntP_t hb
                    have ih2 := ih (by omega)
                    rw [e5] at ih2
                    refine mr_at (ih2 _ _ _ _ _ _ _ _ _ f ?_) rfl rfl rfl
                    rcases hf with ⟨h1, _⟩ | ⟨j, h1, h2, h3, h4⟩
                    · exact absurd h1 c_184
                    · exact Or.inr ⟨j, by omega, h2, h3, h4⟩
                  · refine mr_iload C 189 dX8_began_187 rfl rfl ?_
                    refine mr_goto C 194 dX8_began_189 (by decide) ?_
                    refine mr_istore C 196 dX8_began_194 rfl (by decide) ?_
                    refine mr_iinc C (nI (i + 1)) 199 dX8_began_196 rfl rfl (by decide) (nI_add i 1) ?_
                    refine mr_goto C 91 dX8_began_199 (by decide) ?_
                    have hb : begP R K n sn0 so0 he0 (lN_ lo0) i := c_164
                    have e5 : cntP (begP R K n sn0 so0 he0 (lN_ lo0)) (i + 1) = cntP (begP R K n sn0 so0 he0 (lN_ lo0)) (i) + 1 := cntP_t hb
                    have ih2 := ih (by omega)
                    rw [e5] at ih2
                    refine mr_at (ih2 _ _ _ _ _ _ _ _ _ (nI i) ?_) rfl rfl rfl
                    rcases hf with ⟨_, h2⟩ | ⟨j, h1, h2, h3, h4⟩
                    · exact Or.inr ⟨i, by omega, rfl, hb, h2⟩
                    · exact absurd (h2.symm.trans c_184) (nd36 (by omega))
            have IN : ∀ k, k ≤ K → V E mX8_began (6, 0, 0) Z 0 0 (wM E a ((nI 0)) st la mn im ho fr wa ac tp td lt lg cu tk sr tl fa fp wh1 q3 f1 q1 q2 be1 ((nI (rgN (nI 0) 0 R K sn0 so0 he0 (0, fun _ => nI 0, decS R K i) n).1)) ((nI 0)) ((nI 0)) ik ke tc tr) [(0, .ref (a 0)), (1, .int c0), (2, .int (nI n)), (3, .int (nI (R ^ K))), (4, .int (nI (cntP (begP R K n sn0 so0 he0 (lN_ lo0)) (i)))), (5, .int f), (6, .int (nI i)), (7, .int (bP (∀ j, j < k → (rgN (nI 0) 0 R K sn0 so0 he0 (0, fun _ => nI 0, decS R K i) n).2.2 j = lN_ lo0 j))), (8, .int (nI k))] [] 114 := by
              refine lp_up K ?_
              intro k hk9 ihk
              refine mr_iload C 116 dX8_began_114 rfl rfl ?_
              refine mr_aload_n C 117 dX8_began_116 rfl rfl ?_
              refine mr_get C 0 120 dX8_began_117 rfl fl_X8_19 rfl rfl ?_
              refine mr_iconst C (nI 2) 121 dX8_began_120 rfl rfl ?_
              refine mr_iale C 4 2 (nI K) 122 dX8_began_121 rfl rfl rfl (by omega) (by decide) h2 ?_
              refine mr_icmpge C 160 125 dX8_began_122 (by decide) rfl (fun c_122 => ?_) (fun c_122 => ?_)
              · rw [nI_leI (by omega) (by omega)] at c_122
                obtain rfl : k = K := by omega
                exact mr_at bh_ rfl rfl rfl
              · rw [nI_leI (by omega) (by omega)] at c_122
                refine mr_iload C 127 dX8_began_125 rfl rfl ?_
                refine mr_ifeq C 151 130 dX8_began_127 (by decide) rfl (fun c_127 => ?_) (fun c_127 => ?_)
                · rw [bP_eq] at c_127
                  refine mr_iconst C (nI 0) 152 dX8_began_151 rfl rfl ?_
                  refine mr_istore C 154 dX8_began_152 rfl (by decide) ?_
                  refine mr_iinc C (nI (k + 1)) 157 dX8_began_154 rfl rfl (by decide) (nI_add k 1) ?_
                  refine mr_goto C 114 dX8_began_157 (by decide) ?_
                  have e : nI 0 = bP (∀ j, j < (k + 1) → (rgN (nI 0) 0 R K sn0 so0 he0 (0, fun _ => nI 0, decS R K i) n).2.2 j = lN_ lo0 j) := bP_f (fun h => c_127 (fun j hj => h j (by omega)))
                  have ih2 := ihk (by omega)
                  rw [← e] at ih2
                  exact mr_at ih2 rfl rfl rfl
                · rw [← Ne, bP_ne] at c_127
                  refine mr_aload_n C 131 dX8_began_130 rfl rfl ?_
                  refine mr_get C 0 134 dX8_began_131 rfl fl_X8_31 rfl rfl ?_
                  refine mr_iload C 136 dX8_began_134 rfl rfl ?_
                  refine mr_iald C 8 k 137 dX8_began_136 rfl rfl rfl (by omega) (by decide) ?_
                  refine mr_aload_n C 138 dX8_began_137 rfl rfl ?_
                  refine mr_iload C 140 dX8_began_138 rfl rfl ?_
                  refine mr_iconst C (nI 1) 141 dX8_began_140 rfl rfl ?_
                  refine mr_callV C (c_of E a ((nI 0)) st ac td lt lg cu tk sr tl fa fp ((nI (rgN (nI 0) 0 R K sn0 so0 he0 (0, fun _ => nI 0, decS R K i) n).1)) (nI 0) (nI 0) tr la mn im ho fr wa tp wh1 q3 f1 q1 q2 be1 ik ke tc k 1 (by omega) (by decide) (lo0 k) (hrh.2.2.2.2.2 k (by omega)).2.1) [0, 1, 2, 3, 4, 5, 6, 7, 8, 9, 10, 11, 12, 13, 14, 15, 16] 0 8 144 dX8_began_141 rfl mk_X8_of mi_X8_of ml_X8_201 rfl rfl rfl rfl rfl (Nat.le_of_ble_eq_true rfl) (by decide) (by decide) (by decide) rfl rfl (fun r w1 hpost => ?_)
                  obtain ⟨rfl, rfl⟩ := hpost
                  refine mr_w (wput_all _ _ 17 rfl rfl) ?_
                  refine mr_icmpne C 151 147 dX8_began_144 (by decide) rfl (fun c_144 => ?_) (fun c_144 => ?_)
                  · rw [Ne, (hH1.2.2 k (by omega)).2.2.1, (hl k (by omega)).1, nI_eq (by have := (hH1.2.2 k (by omega)).2.2.2; omega) (by have := (hl k (by omega)).2; omega)] at c_144
                    refine mr_iconst C (nI 0) 152 dX8_began_151 rfl rfl ?_
                    refine mr_istore C 154 dX8_began_152 rfl (by decide) ?_
                    refine mr_iinc C (nI (k + 1)) 157 dX8_began_154 rfl rfl (by decide) (nI_add k 1) ?_
                    refine mr_goto C 114 dX8_began_157 (by decide) ?_
                    have e : nI 0 = bP (∀ j, j < (k + 1) → (rgN (nI 0) 0 R K sn0 so0 he0 (0, fun _ => nI 0, decS R K i) n).2.2 j = lN_ lo0 j) := bP_f (fun h => c_144 (h k (by omega)))
                    have ih2 := ihk (by omega)
                    rw [← e] at ih2
                    exact mr_at ih2 rfl rfl rfl
                  · rw [(hH1.2.2 k (by omega)).2.2.1, (hl k (by omega)).1, nI_eq (by have := (hH1.2.2 k (by omega)).2.2.2; omega) (by have := (hl k (by omega)).2; omega)] at c_144
                    refine mr_iconst C (nI 1) 148 dX8_began_147 rfl rfl ?_
                    refine mr_goto C 152 dX8_began_148 (by decide) ?_
                    refine mr_istore C 154 dX8_began_152 rfl (by decide) ?_
                    refine mr_iinc C (nI (k + 1)) 157 dX8_began_154 rfl rfl (by decide) (nI_add k 1) ?_
                    refine mr_goto C 114 dX8_began_157 (by decide) ?_
                    have e : nI 1 = bP (∀ j, j < (k + 1) → (rgN (nI 0) 0 R K sn0 so0 he0 (0, fun _ => nI 0, decS R K i) n).2.2 j = lN_ lo0 j) := bP_t (fun j hj => by by_cases e : j = k; exact e ▸ c_144; exact c_127 j (by omega))
                    have ih2 := ihk (by omega)
                    rw [← e] at ih2
                    exact mr_at ih2 rfl rfl rfl
            have i0 := IN 0 (Nat.zero_le _)
            rw [← bP_t (p := ∀ j, j < 0 → (rgN (nI 0) 0 R K sn0 so0 he0 (0, fun _ => nI 0, decS R K i) n).2.2 j = lN_ lo0 j) (fun j h => absurd h (Nat.not_lt_zero j))] at i0
            exact mr_at i0 rfl rfl rfl
        have LP : ∀ i, i ≤ K → V E mX8_began (6, 0, 0) Z 0 0 (wM E a ((nI 0)) st la mn im ho fr wa ac tp td lt lg cu tk sr tl fa fp wh go se no al be gn gi gm ik ke tc tr) [(0, .ref (a 0)), (1, .int c0), (2, .int (nI n)), (3, .int (nI (R ^ i))), (4, .int (nI i))] [] 55 := by
          refine lp_up K ?_
          intro i hi ih
          refine mr_iload C 57 dX8_began_55 rfl rfl ?_
          refine mr_aload_n C 58 dX8_began_57 rfl rfl ?_
          refine mr_get C 0 61 dX8_began_58 rfl fl_X8_19 rfl rfl ?_
          refine mr_iconst C (nI 2) 62 dX8_began_61 rfl rfl ?_
          refine mr_iale C 4 2 (nI K) 63 dX8_began_62 rfl rfl rfl (by omega) (by decide) h2 ?_
          refine mr_icmpge C 81 66 dX8_began_63 (by decide) rfl (fun c_63 => ?_) (fun c_63 => ?_)
          · rw [nI_leI (by omega) (by omega)] at c_63
            refine mr_iconst C (nI 0) 82 dX8_began_81 rfl rfl ?_
            refine mr_istore C 84 dX8_began_82 rfl (by decide) ?_
            refine mr_ldc C 86 dX8_began_84 rfl kc_X8_95 ?_
            refine mr_istore C 88 dX8_began_86 rfl (by decide) ?_
            refine mr_iconst C (nI 0) 89 dX8_began_88 rfl rfl ?_
            refine mr_istore C 91 dX8_began_89 rfl (by decide) ?_
            obtain rfl : i = K := by omega
            exact mr_at (LB 0 (Nat.zero_le _) _ _ _ _ _ _ _ _ _ (-1000000) (Or.inl ⟨rfl, fun j h => absurd h (Nat.not_lt_zero j)⟩)) rfl rfl rfl
          · rw [nI_leI (by omega) (by omega)] at c_63
            refine mr_iload_n C 67 dX8_began_66 rfl rfl ?_
            refine mr_aload_n C 68 dX8_began_67 rfl rfl ?_
            refine mr_get C 0 71 dX8_began_68 rfl fl_X8_19 rfl rfl ?_
            refine mr_iconst C (nI 0) 72 dX8_began_71 rfl rfl ?_
            refine mr_iale C 4 0 (nI R) 73 dX8_began_72 rfl rfl rfl (by omega) (by decide) h0 ?_
            refine mr_imul C (nI (R ^ (i + 1))) 74 dX8_began_73 rfl (by rw [pk_mul, Nat.pow_succ]) ?_
            refine mr_istore_n C 75 dX8_began_74 rfl rfl (by decide) ?_
            refine mr_iinc C (nI (i + 1)) 78 dX8_began_75 rfl rfl (by decide) (nI_add i 1) ?_
            refine mr_goto C 55 dX8_began_78 (by decide) ?_
            exact mr_at (ih (by omega)) rfl rfl rfl
        exact mr_at (LP 0 (Nat.zero_le _)) rfl rfl rfl
      · rw [bI_eq] at c_44
        refine mr_ldc C 49 dX8_began_47 rfl kc_X8_79 ?_
        refine mr_iret C dX8_began_49 rfl rfl (by decide) (by decide) hlen ?_
        rw [hO]
        exact ⟨_, _, _, _, _, _, _, _, _, congrArg (fun z => some (Value.int z)) (((ifP_f (by omega)).trans (ifP_f (by omega))).symm), rfl⟩
  · rw [bI_eq] at c_9
    refine mr_ldc C 14 dX8_began_12 rfl kc_X8_226 ?_
    refine mr_iret C dX8_began_14 rfl rfl (by decide) (by decide) hlen ?_
    rw [hO]
    exact ⟨_, _, _, _, _, _, _, _, _, congrArg (fun z => some (Value.int z)) ((ifP_t (by omega)).symm), rfl⟩

