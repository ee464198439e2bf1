/-! Future: from where a crowd can come -/
def sfS (sn : FN) (x : Int32) : Nat → Int32
  | 0 => nI 0
  | r + 1 => if (x >>> (nI r &&& 31)) &&& nI 1 = nI 1 then sfS sn x r ||| sn r else sfS sn x r
theorem sfS_bt {sn : FN} {x : Int32} {j : Nat} (hj : j < 32) : ∀ n, n ≤ 6 → (bt (sfS sn x n) j = true ↔ ∃ r, r < n ∧ bt x r = true ∧ bt (sn r) j = true)
  | 0, _ => by
    constructor
    · intro h; unfold sfS at h; rw [bt_0 j hj] at h; cases h
    · rintro ⟨r, h, _⟩; omega
  | n + 1, hn => by
    have ih := sfS_bt (sn := sn) (x := x) hj n (by omega)
    unfold sfS
    have hb := bt_is (m := x) (j := n) (by omega)
    by_cases e : bt x n = true
    · rw [if_pos (hb.mpr e), b_or, Bool.or_eq_true, ih]
      constructor
      · rintro (⟨r, h1, h2⟩ | h)
        · exact ⟨r, by omega, h2⟩
        · exact ⟨n, by omega, e, h⟩
      · rintro ⟨r, h1, h2, h3⟩
        by_cases k : r = n
        · subst k; exact Or.inr h3
        · exact Or.inl ⟨r, by omega, h2, h3⟩
    · rw [if_neg (fun h => e (hb.mp h)), ih]
      constructor
      · rintro ⟨r, h1, h2⟩; exact ⟨r, by omega, h2⟩
      · rintro ⟨r, h1, h2, h3⟩
        by_cases k : r = n
        · subst k; exact absurd h2 e
        · exact ⟨r, by omega, h2, h3⟩
def srS (sn : FN) (R : Nat) (so : FN) (l : Nat → Nat) (c : Nat) : Nat → Int32
  | 0 => nI 1 <<< (nI (l c) &&& 31)
  | k + 1 => if so c = nI 4 then srS sn R so l c k else srS sn R so l c k ||| sfS sn (srS sn R so l c k) R
theorem srS_stay {sn : FN} {R : Nat} {so : FN} {l : Nat → Nat} {c : Nat} (h : so c = nI 4) : ∀ k, srS sn R so l c k = srS sn R so l c 0
  | 0 => rfl
  | k + 1 => by
    rw [← srS_stay h k]
    exact if_pos h
theorem bestS_see {d : FN} {m : Int32} {own : Nat} : ∀ r, r ≤ 6 → bestS d m own r = own ∨ (bestS d m own r < r ∧ bt m (bestS d m own r) = true)
  | 0, _ => Or.inl rfl
  | r + 1, hr => by
    have ih := bestS_see (d := d) (m := m) (own := own) r (by omega)
    unfold bestS
    split
    · rename_i h
      exact Or.inr ⟨by omega, (bt_is (by omega)).mp h.1⟩
    · rcases ih with h | h
      · exact Or.inl h
      · exact Or.inr ⟨by omega, h.2⟩
theorem goS_see {gu : Int32} {g R K G : Nat} {sn be so he : FN} {l : Nat → Nat} {c : Nat} (hR : R ≤ 6) : goS gu g R K G sn be so l he c = l c ∨ (so c ≠ nI 4 ∧ bt (sn (l c)) (goS gu g R K G sn be so l he c) = true) := by
  unfold goS goalS
  split
  · exact Or.inl rfl
  · rename_i h
    rcases bestS_see (d := drawS (cntS (gst gu g) l he K) (cntS (fun _ => nI 0) l (hLike so he) K) be G (so c)) (m := sn (l c)) (own := l c) R hR with k | k
    · exact Or.inl k
    · exact Or.inr ⟨h, k.2⟩
/-- a crowd that is at l c behind n bells was in one of its sources -/
theorem src_in {R K : Nat} {sn so he : FN} {l : Nat → Nat} {x : RST} {gu : Int32} {g n c : Nat} (hR : R ≤ 6) (hsy : SY R sn) (hlt : ∀ k, (rgN gu g R K sn so he x k).2.2 c < R) (hl : (rgN gu g R K sn so he x n).2.2 c = l c) :
    ∀ k, k ≤ n → bt (srS sn R so l c k) ((rgN gu g R K sn so he x (n - k)).2.2 c) = true
  | 0, _ => by
    have := hlt n
    unfold srS
    rw [Nat.sub_zero, hl, bt_one (by omega) (by omega)]
    simp
  | k + 1, hk => by
    have ih := src_in hR hsy hlt hl k (by omega)
    have h1 := hlt (n - (k + 1))
    have h2 := hlt (n - k)
    have e : (rgN gu g R K sn so he x (n - k)).2.2 c = goS gu g R K (rgN gu g R K sn so he x (n - (k + 1))).1 sn (rgN gu g R K sn so he x (n - (k + 1))).2.1 so (rgN gu g R K sn so he x (n - (k + 1))).2.2 he c := by
      rw [show n - k = (n - (k + 1)) + 1 by omega]; rfl
    rcases goS_see (gu := gu) (g := g) (R := R) (K := K) (G := (rgN gu g R K sn so he x (n - (k + 1))).1) (sn := sn) (be := (rgN gu g R K sn so he x (n - (k + 1))).2.1) (so := so) (he := he) (l := (rgN gu g R K sn so he x (n - (k + 1))).2.2) (c := c) hR with h | ⟨h, h'⟩
    · rw [← e] at h
      unfold srS
      rw [← h]
      split
      · exact ih
      · rw [b_or, ih, Bool.true_or]
    · rw [← e] at h'
      unfold srS
      rw [if_neg h, b_or, Bool.or_eq_true]
      refine Or.inr ((sfS_bt (by omega) R hR).mpr ⟨_, h2, ih, ?_⟩)
      rw [(hsy _ _ (by omega) (by omega)).1]
      exact h'
theorem rgN_lt {gu : Int32} {g R K : Nat} {sn so he : FN} {x : RST} {c : Nat} (h : x.2.2 c < R) : ∀ k, (rgN gu g R K sn so he x k).2.2 c < R
  | 0 => h
  | k + 1 => goS_ltR (rgN_lt h k)
set_option maxRecDepth 20000 in
set_option maxHeartbeats 4000000 in
theorem c_seenFrom (E : EG) (a : Nat → Nat) (b b2 b3 b4 : Nat) (hh hr wy : Int32) (se sn be so lo he inn al go : FN) (gu gr : Int32) (R K G : Nat) (hR : R ≤ 6) (x : Int32) : Ctr E mX2_seenFrom (1, 0, 0) [.ref (a b), .int x] (wF E a b b2 b3 b4 hh hr wy ++ wH E a b2 se sn be so lo he inn al go (nI R) (nI K) (nI G) gu gr) (fun v w => v = some (.int (sfS sn x R)) ∧ w = wF E a b b2 b3 b4 hh hr wy ++ wH E a b2 se sn be so lo he inn al go (nI R) (nI K) (nI G) gu gr) := by
  refine Ctr.of (by decide) (Nat.le_of_ble_eq_true rfl) ?_
  intro Z hO hn C
  have hlen : zn Z ≤ 11 := by rw [hn]; exact Nat.le_of_ble_eq_true rfl
  have L : ∀ i, i ≤ R → V E mX2_seenFrom (1, 0, 0) Z 0 0 (wF E a b b2 b3 b4 hh hr wy ++ wH E a b2 se sn be so lo he inn al go (nI R) (nI K) (nI G) gu gr) [(0, .ref (a b)), (1, .int x), (2, .int (sfS sn x i)), (3, .int (nI i))] [] 4 := by
    refine lp_up R ?_
    intro i hi ih
    refine mr_iload_n C 5 dX2_seenFrom_4 rfl rfl ?_
    refine mr_aload_n C 6 dX2_seenFrom_5 rfl rfl ?_
    refine mr_get C 0 9 dX2_seenFrom_6 rfl fl_X2_25 rfl rfl ?_
    refine mr_get C 1 12 dX2_seenFrom_9 rfl fl_X2_61 rfl rfl ?_
    refine mr_icmpge C 42 15 dX2_seenFrom_12 (by decide) rfl (fun c_12 => ?_) (fun c_12 => ?_)
    · rw [nI_leI (by omega) (by omega)] at c_12
      refine mr_iload_n C 43 dX2_seenFrom_42 rfl rfl ?_
      refine mr_iret C dX2_seenFrom_43 rfl rfl (by decide) (by decide) hlen ?_
      rw [hO]
      obtain rfl : i = R := by omega
      exact ⟨rfl, rfl⟩
    · rw [nI_leI (by omega) (by omega)] at c_12
      refine mr_iload_n C 16 dX2_seenFrom_15 rfl rfl ?_
      refine mr_iload_n C 17 dX2_seenFrom_16 rfl rfl ?_
      refine mr_ishr C _ 18 dX2_seenFrom_17 rfl rfl ?_
      refine mr_iconst C (nI 1) 19 dX2_seenFrom_18 rfl rfl ?_
      refine mr_iand C _ 20 dX2_seenFrom_19 rfl rfl ?_
      refine mr_iconst C (nI 1) 21 dX2_seenFrom_20 rfl rfl ?_
      refine mr_icmpne C 36 24 dX2_seenFrom_21 (by decide) rfl (fun c_21 => ?_) (fun c_21 => ?_)
      · refine mr_iinc C (nI (i + 1)) 39 dX2_seenFrom_36 rfl rfl (by decide) (nI_add i 1) ?_
        refine mr_goto C 4 dX2_seenFrom_39 (by decide) ?_
        have ih2 := ih (by omega)
        rw [show sfS sn x (i + 1) = sfS sn x i from if_neg c_21] at ih2
        exact mr_at ih2 rfl rfl rfl
      · refine mr_iload_n C 25 dX2_seenFrom_24 rfl rfl ?_
        refine mr_aload_n C 26 dX2_seenFrom_25 rfl rfl ?_
        refine mr_get C 0 29 dX2_seenFrom_26 rfl fl_X2_25 rfl rfl ?_
        refine mr_get C 1 32 dX2_seenFrom_29 rfl fl_X2_119 rfl rfl ?_
        refine mr_iload_n C 33 dX2_seenFrom_32 rfl rfl ?_
        refine mr_iald C 3 i 34 dX2_seenFrom_33 rfl rfl rfl (by omega) (by decide) ?_
        refine mr_ior C _ 35 dX2_seenFrom_34 rfl rfl ?_
        refine mr_istore_n C 36 dX2_seenFrom_35 rfl rfl (by decide) ?_
        refine mr_iinc C (nI (i + 1)) 39 dX2_seenFrom_36 rfl rfl (by decide) (nI_add i 1) ?_
        refine mr_goto C 4 dX2_seenFrom_39 (by decide) ?_
        have ih2 := ih (by omega)
        rw [show sfS sn x (i + 1) = sfS sn x i ||| sn i from if_pos c_21] at ih2
        exact mr_at ih2 rfl rfl rfl
  refine mr_iconst C (nI 0) 1 dX2_seenFrom_0 rfl rfl ?_
  refine mr_istore_n C 2 dX2_seenFrom_1 rfl rfl (by decide) ?_
  refine mr_iconst C (nI 0) 3 dX2_seenFrom_2 rfl rfl ?_
  refine mr_istore_n C 4 dX2_seenFrom_3 rfl rfl (by decide) ?_
  exact mr_at (L 0 (Nat.zero_le _)) rfl rfl rfl

set_option maxRecDepth 20000 in
set_option maxHeartbeats 4000000 in
theorem c_findSources (E : EG) (a : Nat → Nat) (b b2 b3 b4 : Nat) (hh hr wy : Int32) (se sn be so lo he inn al go : FN) (gu gr : Int32) (R K G : Nat) (hR : R ≤ 6) (fi f : FN) (l : Nat → Nat) (hK : K ≤ 5) (hl : ∀ c, c < K → lo c = nI (l c) ∧ l c < R) (m : Nat) (hm : m ≤ 60) : Ctr E mX2_findSources (2, 0, 0) [.ref (a b), .int (nI m)] (wF E a b b2 b3 b4 hh hr wy ++ (wH E a b2 se sn be so lo he inn al go (nI R) (nI K) (nI G) gu gr ++ [(a b4, iA E 5 fi), (a (b4 + 1), iA E 5 f)])) (fun v w => ∃ f1 : FN, v = none ∧ w = wF E a b b2 b3 b4 hh hr wy ++ (wH E a b2 se sn be so lo he inn al go (nI R) (nI K) (nI G) gu gr ++ [(a b4, iA E 5 fi), (a (b4 + 1), iA E 5 f1)]) ∧ ∀ c, c < K → f1 c = srS sn R so l c m) := by
  refine Ctr.of (by decide) (Nat.le_of_ble_eq_true rfl) ?_
  intro Z hO hn C
  have hlen : zn Z ≤ 13 := by rw [hn]; exact Nat.le_of_ble_eq_true rfl
  have L : ∀ i, i ≤ K → ∀ f : FN, (∀ j, j < i → f j = srS sn R so l j m) → V E mX2_findSources (2, 0, 0) Z 0 0 (wF E a b b2 b3 b4 hh hr wy ++ (wH E a b2 se sn be so lo he inn al go (nI R) (nI K) (nI G) gu gr ++ [(a b4, iA E 5 fi), (a (b4 + 1), iA E 5 f)])) [(0, .ref (a b)), (1, .int (nI m)), (2, .int (nI i))] [] 2 := by
    refine lp_up K ?_
    intro i hi ih f hf
    refine mr_iload_n C 3 dX2_findSources_2 rfl rfl ?_
    refine mr_aload_n C 4 dX2_findSources_3 rfl rfl ?_
    refine mr_get C 0 7 dX2_findSources_4 rfl fl_X2_25 rfl rfl ?_
    refine mr_get C 1 10 dX2_findSources_7 rfl fl_X2_92 rfl rfl ?_
    refine mr_icmpge C 74 13 dX2_findSources_10 (by decide) rfl (fun c_10 => ?_) (fun c_10 => ?_)
    · rw [nI_leI (by omega) (by omega)] at c_10
      refine mr_vret C dX2_findSources_74 rfl (by decide) (by decide) hlen ?_
      rw [hO]
      obtain rfl : i = K := by omega
      exact ⟨_, rfl, rfl, hf⟩
    · rw [nI_leI (by omega) (by omega)] at c_10
      refine mr_iconst C (nI 1) 14 dX2_findSources_13 rfl rfl ?_
      refine mr_aload_n C 15 dX2_findSources_14 rfl rfl ?_
      refine mr_get C 0 18 dX2_findSources_15 rfl fl_X2_25 rfl rfl ?_
      refine mr_get C 1 21 dX2_findSources_18 rfl fl_X2_36 rfl rfl ?_
      refine mr_iload_n C 22 dX2_findSources_21 rfl rfl ?_
      refine mr_iald C 6 i 23 dX2_findSources_22 rfl rfl rfl (by omega) (by decide) ?_
      refine mr_ishl C _ 24 dX2_findSources_23 rfl rfl ?_
      refine mr_istore_n C 25 dX2_findSources_24 rfl rfl (by decide) ?_
      refine mr_iconst C (nI 0) 26 dX2_findSources_25 rfl rfl ?_
      refine mr_istore C 28 dX2_findSources_26 rfl (by decide) ?_
      have IN : V E mX2_findSources (2, 0, 0) Z 0 0 (wF E a b b2 b3 b4 hh hr wy ++ (wH E a b2 se sn be so lo he inn al go (nI R) (nI K) (nI G) gu gr ++ [(a b4, iA E 5 fi), (a (b4 + 1), iA E 5 f)])) [(0, .ref (a b)), (1, .int (nI m)), (2, .int (nI i)), (3, .int (srS sn R so l i m))] [] 61 → ∀ k, k ≤ m → V E mX2_findSources (2, 0, 0) Z 0 0 (wF E a b b2 b3 b4 hh hr wy ++ (wH E a b2 se sn be so lo he inn al go (nI R) (nI K) (nI G) gu gr ++ [(a b4, iA E 5 fi), (a (b4 + 1), iA E 5 f)])) [(0, .ref (a b)), (1, .int (nI m)), (2, .int (nI i)), (3, .int (srS sn R so l i k)), (4, .int (nI k))] [] 28 := by
        intro behind
        refine lp_up m ?_
        intro k hk ihk
        refine mr_iload C 30 dX2_findSources_28 rfl rfl ?_
        refine mr_iload_n C 31 dX2_findSources_30 rfl rfl ?_
        refine mr_icmpge C 61 34 dX2_findSources_31 (by decide) rfl (fun c_31 => ?_) (fun c_31 => ?_)
        · rw [nI_leI (by omega) (by omega)] at c_31
          obtain rfl : k = m := by omega
          exact mr_at behind rfl rfl rfl
        · rw [nI_leI (by omega) (by omega)] at c_31
          refine mr_aload_n C 35 dX2_findSources_34 rfl rfl ?_
          refine mr_get C 0 38 dX2_findSources_35 rfl fl_X2_25 rfl rfl ?_
          refine mr_get C 1 41 dX2_findSources_38 rfl fl_X2_109 rfl rfl ?_
          refine mr_iload_n C 42 dX2_findSources_41 rfl rfl ?_
          refine mr_iald C 5 i 43 dX2_findSources_42 rfl rfl rfl (by omega) (by decide) ?_
          refine mr_iconst C (nI 4) 44 dX2_findSources_43 rfl rfl ?_
          refine mr_icmpeq C 61 47 dX2_findSources_44 (by decide) rfl (fun c_44 => ?_) (fun c_44 => ?_)
          · have b2_ := behind
            rw [srS_stay c_44 m, ← srS_stay (R := R) (l := l) c_44 k] at b2_
            exact mr_at b2_ rfl rfl rfl
          · refine mr_iload_n C 48 dX2_findSources_47 rfl rfl ?_
            refine mr_aload_n C 49 dX2_findSources_48 rfl rfl ?_
            refine mr_iload_n C 50 dX2_findSources_49 rfl rfl ?_
            refine mr_callV C (c_seenFrom E a b b2 b3 b4 hh hr wy se sn be so lo he inn al go gu gr R K G hR (srS sn R so l i k)) [0, 1, 2, 3, 4, 5, 6, 7, 8, 9, 10] 0 2 53 dX2_findSources_50 rfl mk_X2_seenFrom mi_X2_seenFrom ml_X2_116 rfl rfl rfl rfl rfl (Nat.le_of_ble_eq_true rfl) (by decide) (by decide) (by decide) rfl rfl (fun r w1 hpost => ?_)
            obtain ⟨rfl, rfl⟩ := hpost
            refine mr_w (wput_mid (wF E a b b2 b3 b4 hh hr wy ++ wH E a b2 se sn be so lo he inn al go (nI R) (nI K) (nI G) gu gr) [] ([(a b4, iA E 5 fi), (a (b4 + 1), iA E 5 f)]) (wF E a b b2 b3 b4 hh hr wy ++ wH E a b2 se sn be so lo he inn al go (nI R) (nI K) (nI G) gu gr) rfl) ?_
            refine mr_ior C _ 54 dX2_findSources_53 rfl rfl ?_
            refine mr_istore_n C 55 dX2_findSources_54 rfl rfl (by decide) ?_
            refine mr_iinc C (nI (k + 1)) 58 dX2_findSources_55 rfl rfl (by decide) (nI_add k 1) ?_
            refine mr_goto C 28 dX2_findSources_58 (by decide) ?_
            have ih2 := ihk (by omega)
            rw [show srS sn R so l i (k + 1) = srS sn R so l i k ||| sfS sn (srS sn R so l i k) R from if_neg c_44] at ih2
            exact mr_at ih2 rfl rfl rfl
      have hs : srS sn R so l i 0 = nI 1 <<< (lo i &&& 31) := by rw [(hl i (by omega)).1]; rfl
      have BH : V E mX2_findSources (2, 0, 0) Z 0 0 (wF E a b b2 b3 b4 hh hr wy ++ (wH E a b2 se sn be so lo he inn al go (nI R) (nI K) (nI G) gu gr ++ [(a b4, iA E 5 fi), (a (b4 + 1), iA E 5 f)])) [(0, .ref (a b)), (1, .int (nI m)), (2, .int (nI i)), (3, .int (srS sn R so l i m))] [] 61 := by
        refine mr_aload_n C 62 dX2_findSources_61 rfl rfl ?_
        refine mr_get C 0 65 dX2_findSources_62 rfl fl_X2_22 rfl rfl ?_
        refine mr_iload_n C 66 dX2_findSources_65 rfl rfl ?_
        refine mr_iload_n C 67 dX2_findSources_66 rfl rfl ?_
        refine mr_iast C 12 i 68 dX2_findSources_67 rfl rfl rfl (by omega) (by decide) ?_
        refine mr_iinc C (nI (i + 1)) 71 dX2_findSources_68 rfl rfl (by decide) (nI_add i 1) ?_
        refine mr_goto C 2 dX2_findSources_71 (by decide) ?_
        refine mr_at (ih (by omega) _ ?_) rfl rfl rfl
        intro j hj
        by_cases e : j = i
        · rw [e]; exact up_s
        · rw [up_n e]; exact hf j (by omega)
      have i0 := IN BH 0 (Nat.zero_le _)
      rw [hs] at i0
      exact mr_at i0 rfl rfl rfl
  refine mr_iconst C (nI 0) 1 dX2_findSources_0 rfl rfl ?_
  refine mr_istore_n C 2 dX2_findSources_1 rfl rfl (by decide) ?_
  exact mr_at (L 0 (Nat.zero_le _) f (fun j h => absurd h (Nat.not_lt_zero j))) rfl rfl rfl

