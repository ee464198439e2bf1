/-! Future: the beginnings -/
def decS (R K code c : Nat) : Nat := code / R ^ (K - 1 - c) % R
theorem decS_at {R K code t : Nat} (h : t < K) : decS R K code (K - 1 - t) = code / R ^ t % R := by
  unfold decS; rw [show K - 1 - (K - 1 - t) = t by omega]
theorem decS_lt {R K code c : Nat} (h : 0 < R) : decS R K code c < R := Nat.mod_lt _ h
/-- a way by which all are where they are now -/
def begP (R K n : Nat) (sn so he : FN) (l : Nat → Nat) (code : Nat) : Prop := ∀ c, c < K → (rgN (nI 0) 0 R K sn so he (0, fun _ => nI 0, decS R K code) n).2.2 c = l c
theorem beg_src {R K n : Nat} {sn so he : FN} {l : Nat → Nat} {code : Nat} (hR : R ≤ 6) (hR0 : 0 < R) (hsy : SY R sn) (h : begP R K n sn so he l code) : ∀ c, c < K → bt (srS sn R so l c n) (decS R K code c) = true := by
  intro c hc
  have e := src_in (so := so) (he := he) (K := K) (gu := nI 0) (g := 0) (x := (0, fun _ => nI 0, decS R K code)) (n := n) (c := c) hR hsy (rgN_lt (decS_lt hR0)) (h c hc) n (Nat.le_refl n)
  rw [Nat.sub_self] at e
  exact e
theorem cntP_0 {P : Nat → Prop} : ∀ n, cntP P n = 0 → ∀ j, j < n → ¬ P j
  | 0, _, j, hj => by omega
  | n + 1, h, j, hj => by
    unfold cntP at h
    by_cases e : P n
    · rw [ifP_t e] at h; omega
    · rw [ifP_f e] at h
      by_cases k : j = n
      · rw [k]; exact e
      · exact cntP_0 n h j (by omega)
theorem cntP_t {P : Nat → Prop} {n : Nat} (h : P n) : cntP P (n + 1) = cntP P n + 1 := ifP_t h
theorem cntP_f {P : Nat → Prop} {n : Nat} (h : ¬ P n) : cntP P (n + 1) = cntP P n := ifP_f h
theorem powRK {R K : Nat} (hR : R ≤ 6) (hK : K ≤ 5) : R ^ K ≤ 7776 := Nat.le_trans (Nat.pow_le_pow_left hR K) (Nat.pow_le_pow_right (by omega) hK)
/-- what first tells -/
def fiP (R K n : Nat) (sn so he : FN) (l : Nat → Nat) (fi : FN) (i : Nat) : Prop := 0 < cntP (begP R K n sn so he l) i → ∃ j, j < i ∧ begP R K n sn so he l j ∧ (∀ k, k < j → ¬ begP R K n sn so he l k) ∧ ∀ c, c < K → fi c = nI (decS R K j c)
set_option maxRecDepth 20000 in
set_option maxHeartbeats 4000000 in
theorem c_canBegin (E : EG) (a : Nat → Nat) (b b2 b3 b4 : Nat) (hh hr wy : Int32) (se sn be so lo he inn al go se0 sn0 be0 so0 lo0 he0 inn0 al0 go0 fi sr : FN) (gu gr ro0 cr0 gn0 gu0 gr0 : Int32) (R K G : Nat) (hR : R ≤ 6) (hR0 : 0 < R) (hK : K ≤ 5) (code : Nat) (hcode : code < 2 ^ 30) : Ctr E mX2_canBegin (1, 0, 0) [.ref (a b), .int (nI code)] (wF E a b b2 b3 b4 hh hr wy ++ (wH E a b2 se sn be so lo he inn al go (nI R) (nI K) (nI G) gu gr ++ (wH E a b3 se0 sn0 be0 so0 lo0 he0 inn0 al0 go0 ro0 cr0 gn0 gu0 gr0 ++ [(a b4, iA E 5 fi), (a (b4 + 1), iA E 5 sr)]))) (fun v w => ∃ f : FN, v = some (.int (bP (∀ c, c < K → bt (sr c) (decS R K code c) = true))) ∧ w = wF E a b b2 b3 b4 hh hr wy ++ (wH E a b2 se sn be so lo he inn al go (nI R) (nI K) (nI G) gu gr ++ (wH E a b3 se0 sn0 be0 so0 f he0 inn0 al0 go0 ro0 cr0 gn0 gu0 gr0 ++ [(a b4, iA E 5 fi), (a (b4 + 1), iA E 5 sr)])) ∧ ((∀ c, c < K → bt (sr c) (decS R K code c) = true) → ∀ c, c < K → f c = nI (decS R K code c))) := by
  refine Ctr.of (by decide) (Nat.le_of_ble_eq_true rfl) ?_
  intro Z hO hn C
  have hlen : zn Z ≤ 23 := by rw [hn]; exact Nat.le_of_ble_eq_true rfl
  have L : ∀ t, t ≤ K → ∀ f : FN, (∀ c, K - t ≤ c → c < K → bt (sr c) (decS R K code c) = true ∧ f c = nI (decS R K code c)) → V E mX2_canBegin (1, 0, 0) Z 0 0 (wF E a b b2 b3 b4 hh hr wy ++ (wH E a b2 se sn be so lo he inn al go (nI R) (nI K) (nI G) gu gr ++ (wH E a b3 se0 sn0 be0 so0 f he0 inn0 al0 go0 ro0 cr0 gn0 gu0 gr0 ++ [(a b4, iA E 5 fi), (a (b4 + 1), iA E 5 sr)]))) [(0, .ref (a b)), (1, .int (nI code)), (2, .int (nI (code / R ^ t))), (3, .int (nI (K - t) - nI 1))] [] 12 := by
    refine lp_up K ?_
    intro t ht ih f hf
    refine mr_iload_n C 13 dX2_canBegin_12 rfl rfl ?_
    refine mr_iflt C 80 16 dX2_canBegin_13 (by decide) rfl (fun c_13 => ?_) (fun c_13 => ?_)
    · have hKt : t = K := by
        by_cases h : t = K
        · exact h
        · rw [pk_sub (by omega)] at c_13; exact absurd c_13 (nI_pos (by omega))
      refine mr_iconst C (nI 1) 81 dX2_canBegin_80 rfl rfl ?_
      refine mr_iret C dX2_canBegin_81 rfl rfl (by decide) (by decide) hlen ?_
      rw [hO]
      refine ⟨_, congrArg (fun z => some (Value.int z)) (bP_t (fun c hc => (hf c (by omega) hc).1)), rfl, fun _ c hc => (hf c (by omega) hc).2⟩
    · have hKt : t < K := by
        by_cases h : t = K
        · subst h; rw [Nat.sub_self] at c_13; exact absurd (by decide) c_13
        · omega
      have e3 : nI (K - t) - nI 1 = nI (K - 1 - t) := by rw [pk_sub (by omega)]; congr 1; omega
      rw [e3]
      have hm : code / R ^ t % R < R := Nat.mod_lt _ hR0
      refine mr_aload_n C 17 dX2_canBegin_16 rfl rfl ?_
      refine mr_get C 0 20 dX2_canBegin_17 rfl fl_X2_25 rfl rfl ?_
      refine mr_get C 1 23 dX2_canBegin_20 rfl fl_X2_61 rfl rfl ?_
      refine mr_ifle C 80 26 dX2_canBegin_23 (by decide) rfl (fun c_23 => ?_) (fun c_23 => ?_)
      · exact absurd c_23 (nI_nle hR0 (by omega))
      · refine mr_iload_n C 27 dX2_canBegin_26 rfl rfl ?_
        refine mr_aload_n C 28 dX2_canBegin_27 rfl rfl ?_
        refine mr_get C 0 31 dX2_canBegin_28 rfl fl_X2_25 rfl rfl ?_
        refine mr_get C 1 34 dX2_canBegin_31 rfl fl_X2_61 rfl rfl ?_
        refine mr_irem C (nI (code / R ^ t % R)) 35 dX2_canBegin_34 rfl (nI_ne0 hR0 (by omega)) (pk_rem (Nat.lt_of_le_of_lt (Nat.div_le_self _ _) (by omega)) hR0 (by omega)) ?_
        refine mr_istore C 37 dX2_canBegin_35 rfl (by decide) ?_
        refine mr_aload_n C 38 dX2_canBegin_37 rfl rfl ?_
        refine mr_get C 0 41 dX2_canBegin_38 rfl fl_X2_22 rfl rfl ?_
        refine mr_iload_n C 42 dX2_canBegin_41 rfl rfl ?_
        refine mr_iald C 22 (K - 1 - t) 43 dX2_canBegin_42 rfl rfl rfl (by omega) (by decide) ?_
        refine mr_iload C 45 dX2_canBegin_43 rfl rfl ?_
        refine mr_ishr C _ 46 dX2_canBegin_45 rfl rfl ?_
        refine mr_iconst C (nI 1) 47 dX2_canBegin_46 rfl rfl ?_
        refine mr_iand C _ 48 dX2_canBegin_47 rfl rfl ?_
        refine mr_ifne C 53 51 dX2_canBegin_48 (by decide) rfl (fun c_48 => ?_) (fun c_48 => ?_)
        · refine mr_aload_n C 54 dX2_canBegin_53 rfl rfl ?_
          refine mr_get C 0 57 dX2_canBegin_54 rfl fl_X2_12 rfl rfl ?_
          refine mr_get C 11 60 dX2_canBegin_57 rfl fl_X2_36 rfl rfl ?_
          refine mr_iload_n C 61 dX2_canBegin_60 rfl rfl ?_
          refine mr_iload C 63 dX2_canBegin_61 rfl rfl ?_
          refine mr_iast C 16 (K - 1 - t) 64 dX2_canBegin_63 rfl rfl rfl (by omega) (by decide) ?_
          refine mr_iload_n C 65 dX2_canBegin_64 rfl rfl ?_
          refine mr_aload_n C 66 dX2_canBegin_65 rfl rfl ?_
          refine mr_get C 0 69 dX2_canBegin_66 rfl fl_X2_25 rfl rfl ?_
          refine mr_get C 1 72 dX2_canBegin_69 rfl fl_X2_61 rfl rfl ?_
          refine mr_idiv C (nI (code / R ^ (t + 1))) 73 dX2_canBegin_72 rfl (nI_ne0 hR0 (by omega)) ((pk_div (Nat.lt_of_le_of_lt (Nat.div_le_self _ _) (by omega)) hR0 (by omega)).trans (congrArg nI (by rw [Nat.div_div_eq_div_mul, Nat.pow_succ]))) ?_
          refine mr_istore_n C 74 dX2_canBegin_73 rfl rfl (by decide) ?_
          refine mr_iinc C (nI (K - (t + 1)) - nI 1) 77 dX2_canBegin_74 rfl rfl (by decide) ((sub1 _).trans (congrArg (fun z => nI z - nI 1) (by omega))) ?_
          refine mr_goto C 12 dX2_canBegin_77 (by decide) ?_
          refine mr_at (ih (by omega) _ ?_) rfl rfl rfl
          intro c h1 h2
          by_cases e : c = K - 1 - t
          · subst e
            rw [decS_at (by omega)]
            refine ⟨?_, up_s⟩
            cases hb : bt (sr (K - 1 - t)) (code / R ^ t % R)
            · exact absurd ((bt_no (by omega)).mpr hb) c_48
            · rfl
          · rw [up_n e]; exact hf c (by omega) h2
        · refine mr_iconst C (nI 0) 52 dX2_canBegin_51 rfl rfl ?_
          refine mr_iret C dX2_canBegin_52 rfl rfl (by decide) (by decide) hlen ?_
          rw [hO]
          have hn : ¬ (∀ c, c < K → bt (sr c) (decS R K code c) = true) := fun h => by
            have h2 := h (K - 1 - t) (by omega)
            rw [decS_at (by omega)] at h2
            have h3 := (bt_no (by omega)).mp c_48
            rw [h2] at h3; cases h3
          exact ⟨_, congrArg (fun z => some (Value.int z)) (bP_f hn), rfl, fun h => absurd h hn⟩
  refine mr_iload_n C 1 dX2_canBegin_0 rfl rfl ?_
  refine mr_istore_n C 2 dX2_canBegin_1 rfl rfl (by decide) ?_
  refine mr_aload_n C 3 dX2_canBegin_2 rfl rfl ?_
  refine mr_get C 0 6 dX2_canBegin_3 rfl fl_X2_25 rfl rfl ?_
  refine mr_get C 1 9 dX2_canBegin_6 rfl fl_X2_92 rfl rfl ?_
  refine mr_iconst C (nI 1) 10 dX2_canBegin_9 rfl rfl ?_
  refine mr_isub C (nI K - nI 1) 11 dX2_canBegin_10 rfl rfl ?_
  refine mr_istore_n C 12 dX2_canBegin_11 rfl rfl (by decide) ?_
  have L0 := L 0 (Nat.zero_le _) lo0 (fun c h1 h2 => absurd h1 (by omega))
  rw [Nat.pow_zero, Nat.div_one, Nat.sub_zero] at L0
  exact mr_at L0 rfl rfl rfl

set_option maxRecDepth 20000 in
set_option maxHeartbeats 4000000 in
theorem c_countWay (E : EG) (a : Nat → Nat) (b b2 b3 b4 : Nat) (hh hr : Int32) (y : Nat) (hy : y < 2 ^ 30) (se sn be so lo he inn al go se0 sn0 be0 so0 lo0 he0 inn0 al0 go0 fi sr : FN) (gu gr ro0 cr0 gn0 gu0 gr0 : Int32) (R K G : Nat) (hR : R ≤ 6) (hR0 : 0 < R) (hK : K ≤ 5) (code : Nat) (hcode : code < 2 ^ 30) (hcb : ∀ c, c < K → bt (sr c) (decS R K code c) = true) : Ctr E mX2_countWay (2, 0, 0) [.ref (a b), .int (nI code)] (wF E a b b2 b3 b4 hh hr (nI y) ++ (wH E a b2 se sn be so lo he inn al go (nI R) (nI K) (nI G) gu gr ++ (wH E a b3 se0 sn0 be0 so0 lo0 he0 inn0 al0 go0 ro0 cr0 gn0 gu0 gr0 ++ [(a b4, iA E 5 fi), (a (b4 + 1), iA E 5 sr)]))) (fun v w => ∃ f f1 : FN, v = none ∧ w = wF E a b b2 b3 b4 hh hr (nI (y + 1)) ++ (wH E a b2 se sn be so lo he inn al go (nI R) (nI K) (nI G) gu gr ++ (wH E a b3 se0 sn0 be0 so0 f he0 inn0 al0 go0 ro0 cr0 gn0 gu0 gr0 ++ [(a b4, iA E 5 f1), (a (b4 + 1), iA E 5 sr)])) ∧ (y = 0 → ∀ c, c < K → f1 c = nI (decS R K code c)) ∧ (y ≠ 0 → f1 = fi)) := by
  refine Ctr.of (by decide) (Nat.le_of_ble_eq_true rfl) ?_
  intro Z hO hn C
  have hlen : zn Z ≤ 23 := by rw [hn]; exact Nat.le_of_ble_eq_true rfl
  refine mr_aload_n C 1 dX2_countWay_0 rfl rfl ?_
  refine mr_get C 0 4 dX2_countWay_1 rfl fl_X2_86 rfl rfl ?_
  refine mr_ifne C 30 7 dX2_countWay_4 (by decide) rfl (fun c_4 => ?_) (fun c_4 => ?_)
  · have c_4 : ¬ y = 0 := fun h => c_4 (congrArg nI h)
    refine mr_aload_n C 31 dX2_countWay_30 rfl rfl ?_
    refine mr_dup C 32 dX2_countWay_31 rfl rfl ?_
    refine mr_get C 0 35 dX2_countWay_32 rfl fl_X2_86 rfl rfl ?_
    refine mr_iconst C (nI 1) 36 dX2_countWay_35 rfl rfl ?_
    refine mr_iadd C (nI (y + 1)) 37 dX2_countWay_36 rfl (nI_add _ _) ?_
    refine mr_put C 0 40 dX2_countWay_37 rfl fs_X2_86 rfl rfl rfl (Nat.le_of_ble_eq_true rfl) ?_
    refine mr_vret C dX2_countWay_40 rfl (by decide) (by decide) hlen ?_
    rw [hO]
    exact ⟨_, _, rfl, rfl, fun h => absurd h c_4, fun _ => rfl⟩
  · have c_4 : y = 0 := (nI_eq (b := 0) (by omega) (by omega)).mp c_4
    refine mr_aload_n C 8 dX2_countWay_7 rfl rfl ?_
    refine mr_iload_n C 9 dX2_countWay_8 rfl rfl ?_
    refine mr_callV C (c_canBegin E a b b2 b3 b4 hh hr (nI y) se sn be so lo he inn al go se0 sn0 be0 so0 lo0 he0 inn0 al0 go0 fi sr gu gr ro0 cr0 gn0 gu0 gr0 R K G hR hR0 hK code hcode) [0, 1, 2, 3, 4, 5, 6, 7, 8, 9, 10, 11, 12, 13, 14, 15, 16, 17, 18, 19, 20, 21, 22] 0 2 12 dX2_countWay_9 rfl mk_X2_canBegin mi_X2_canBegin ml_X2_95 rfl rfl rfl rfl rfl (Nat.le_of_ble_eq_true rfl) (by decide) (by decide) (by decide) rfl rfl (fun r w1 hpost => ?_)
    obtain ⟨f, rfl, rfl, hf⟩ := hpost
    refine mr_w (wput_all _ _ 23 rfl rfl) ?_
    have hf := hf hcb
    refine mr_pop C 13 dX2_countWay_12 rfl rfl ?_
    refine mr_aload_n C 14 dX2_countWay_13 rfl rfl ?_
    refine mr_get C 0 17 dX2_countWay_14 rfl fl_X2_12 rfl rfl ?_
    refine mr_get C 11 20 dX2_countWay_17 rfl fl_X2_36 rfl rfl ?_
    refine mr_iconst C (nI 0) 21 dX2_countWay_20 rfl rfl ?_
    refine mr_aload_n C 22 dX2_countWay_21 rfl rfl ?_
    refine mr_get C 0 25 dX2_countWay_22 rfl fl_X2_18 rfl rfl ?_
    refine mr_iconst C (nI 0) 26 dX2_countWay_25 rfl rfl ?_
    refine mr_iconst C (nI 5) 27 dX2_countWay_26 rfl rfl ?_
    refine mr_copy C 16 21 0 0 5 30 dX2_countWay_27 rfl ml_X2_122 rfl rfl rfl rfl rfl (by omega) (by omega) (by decide) (by decide) (Nat.le_of_ble_eq_true rfl) (by decide) ?_
    refine mr_aload_n C 31 dX2_countWay_30 rfl rfl ?_
    refine mr_dup C 32 dX2_countWay_31 rfl rfl ?_
    refine mr_get C 0 35 dX2_countWay_32 rfl fl_X2_86 rfl rfl ?_
    refine mr_iconst C (nI 1) 36 dX2_countWay_35 rfl rfl ?_
    refine mr_iadd C (nI (y + 1)) 37 dX2_countWay_36 rfl (nI_add _ _) ?_
    refine mr_put C 0 40 dX2_countWay_37 rfl fs_X2_86 rfl rfl rfl (Nat.le_of_ble_eq_true rfl) ?_
    refine mr_vret C dX2_countWay_40 rfl (by decide) (by decide) hlen ?_
    rw [hO]
    exact ⟨_, _, rfl, rfl, fun _ c hc => by rw [cpy_ag f fi 5 c (by omega)]; exact hf c hc, fun h => absurd c_4 h⟩

set_option maxRecDepth 20000 in
set_option maxHeartbeats 4000000 in
theorem c_findBeginnings (E : EG) (a : Nat → Nat) (b b2 b3 b4 : Nat) (hh hr wy : Int32) (se sn be so lo he inn al go se0 sn0 be0 so0 lo0 he0 inn0 al0 go0 fi sr : FN) (gu gr ro0 cr0 gn0 gu0 : Int32) (R K G : Nat) (hR : R ≤ 6) (hR0 : 0 < R) (hK : K ≤ 5) (g : Nat) (hg : g < 6) (l : Nat → Nat) (hl : ∀ c, c < K → lo c = nI (l c) ∧ l c < R) (hsy : SY R sn) (m : Nat) (hm : m ≤ 9) : Ctr E mX2_findBeginnings (4, 0, 0) [.ref (a b), .int (nI m)] (wF E a b b2 b3 b4 hh hr wy ++ (wH E a b2 se sn be so lo he inn al go (nI R) (nI K) (nI G) gu gr ++ (wH E a b3 se0 sn0 be0 so0 lo0 he0 inn0 al0 go0 ro0 cr0 gn0 gu0 (nI g) ++ [(a b4, iA E 5 fi), (a (b4 + 1), iA E 5 sr)]))) (fun v w => ∃ (wc : va_W) (fi1 sr1 : FN), v = none ∧ AnyH E a b3 wc ∧ w = wF E a b b2 b3 b4 hh hr (nI (cntP (begP R K m sn so he l) (R ^ K))) ++ (wH E a b2 se sn be so lo he inn al go (nI R) (nI K) (nI G) gu gr ++ (wc ++ [(a b4, iA E 5 fi1), (a (b4 + 1), iA E 5 sr1)])) ∧ fiP R K m sn so he l fi1 (R ^ K)) := by
  refine Ctr.of (by decide) (Nat.le_of_ble_eq_true rfl) ?_
  intro Z hO hn C
  have hlen : zn Z ≤ 23 := by rw [hn]; exact Nat.le_of_ble_eq_true rfl
  refine mr_aload_n C 1 dX2_findBeginnings_0 rfl rfl ?_
  refine mr_iconst C (nI 0) 2 dX2_findBeginnings_1 rfl rfl ?_
  refine mr_put C 0 5 dX2_findBeginnings_2 rfl fs_X2_86 rfl rfl rfl (Nat.le_of_ble_eq_true rfl) ?_
  refine mr_aload_n C 6 dX2_findBeginnings_5 rfl rfl ?_
  refine mr_iload_n C 7 dX2_findBeginnings_6 rfl rfl ?_
  refine mr_callV C (c_findSources E a b b2 b3 b4 hh hr (nI 0) se sn be so lo he inn al go gu gr R K G hR fi sr l hK hl m (by omega)) [0, 1, 2, 3, 4, 5, 6, 7, 8, 9, 10, 21, 22] 0 2 10 dX2_findBeginnings_7 rfl mk_X2_findSources mi_X2_findSources ml_X2_89 rfl rfl rfl rfl rfl (Nat.le_of_ble_eq_true rfl) (by decide) (by decide) (by decide) rfl rfl (fun r w1 hpost => ?_)
  obtain ⟨sr1, rfl, rfl, hsr⟩ := hpost
  refine mr_w (ws' := wF E a b b2 b3 b4 hh hr (nI 0) ++ (wH E a b2 se sn be so lo he inn al go (nI R) (nI K) (nI G) gu gr ++ (wH E a b3 se0 sn0 be0 so0 lo0 he0 inn0 al0 go0 ro0 cr0 gn0 gu0 (nI g) ++ [(a b4, iA E 5 fi), (a (b4 + 1), iA E 5 sr1)]))) (jn_put [1, 10, 10, 2] [0, 1, 3] [wF E a b b2 b3 b4 hh hr (nI 0), wH E a b2 se sn be so lo he inn al go (nI R) (nI K) (nI G) gu gr, wH E a b3 se0 sn0 be0 so0 lo0 he0 inn0 al0 go0 ro0 cr0 gn0 gu0 (nI g), [(a b4, iA E 5 fi), (a (b4 + 1), iA E 5 sr)]] [wF E a b b2 b3 b4 hh hr (nI 0), wH E a b2 se sn be so lo he inn al go (nI R) (nI K) (nI G) gu gr, [(a b4, iA E 5 fi), (a (b4 + 1), iA E 5 sr1)]] [wF E a b b2 b3 b4 hh hr (nI 0), wH E a b2 se sn be so lo he inn al go (nI R) (nI K) (nI G) gu gr, wH E a b3 se0 sn0 be0 so0 lo0 he0 inn0 al0 go0 ro0 cr0 gn0 gu0 (nI g), [(a b4, iA E 5 fi), (a (b4 + 1), iA E 5 sr1)]] rfl (by decide) rfl rfl rfl) ?_
  refine mr_aload_n C 11 dX2_findBeginnings_10 rfl rfl ?_
  refine mr_get C 0 14 dX2_findBeginnings_11 rfl fl_X2_12 rfl rfl ?_
  refine mr_aload_n C 15 dX2_findBeginnings_14 rfl rfl ?_
  refine mr_get C 0 18 dX2_findBeginnings_15 rfl fl_X2_25 rfl rfl ?_
  refine mr_callV C (c_take E a b3 b2 se0 sn0 be0 so0 lo0 he0 inn0 al0 go0 se sn be so lo he inn al go ro0 cr0 gn0 gu0 (nI g) (nI R) (nI K) (nI G) gu gr) [11, 12, 13, 14, 15, 16, 17, 18, 19, 20, 1, 2, 3, 4, 5, 6, 7, 8, 9, 10] 11 3 21 dX2_findBeginnings_18 rfl mk_X3_take mi_X3_take ml_X2_28 rfl rfl rfl rfl rfl (Nat.le_of_ble_eq_true rfl) (by decide) (by decide) (by decide) rfl rfl (fun r w1 hpost => ?_)
  obtain ⟨f1, f2, f3, f4, f5, f6, rfl, rfl, -, h2, h3, h4, h5, h6⟩ := hpost
  refine mr_w (ws' := wF E a b b2 b3 b4 hh hr (nI 0) ++ (wH E a b2 se sn be so lo he inn al go (nI R) (nI K) (nI G) gu gr ++ (wH E a b3 f1 f2 f3 f4 f5 f6 inn0 al0 go0 (nI R) (nI K) (nI G) (nI 0) (nI g) ++ [(a b4, iA E 5 fi), (a (b4 + 1), iA E 5 sr1)]))) (jn_put [1, 10, 10, 2] [2, 1] [wF E a b b2 b3 b4 hh hr (nI 0), wH E a b2 se sn be so lo he inn al go (nI R) (nI K) (nI G) gu gr, wH E a b3 se0 sn0 be0 so0 lo0 he0 inn0 al0 go0 ro0 cr0 gn0 gu0 (nI g), [(a b4, iA E 5 fi), (a (b4 + 1), iA E 5 sr1)]] [wH E a b3 f1 f2 f3 f4 f5 f6 inn0 al0 go0 (nI R) (nI K) (nI G) (nI 0) (nI g), wH E a b2 se sn be so lo he inn al go (nI R) (nI K) (nI G) gu gr] [wF E a b b2 b3 b4 hh hr (nI 0), wH E a b2 se sn be so lo he inn al go (nI R) (nI K) (nI G) gu gr, wH E a b3 f1 f2 f3 f4 f5 f6 inn0 al0 go0 (nI R) (nI K) (nI G) (nI 0) (nI g), [(a b4, iA E 5 fi), (a (b4 + 1), iA E 5 sr1)]] rfl (by decide) rfl rfl rfl) ?_
  refine mr_iconst C (nI 1) 22 dX2_findBeginnings_21 rfl rfl ?_
  refine mr_istore_n C 23 dX2_findBeginnings_22 rfl rfl (by decide) ?_
  refine mr_iconst C (nI 0) 24 dX2_findBeginnings_23 rfl rfl ?_
  refine mr_istore_n C 25 dX2_findBeginnings_24 rfl rfl (by decide) ?_
  have hp7 := powRK hR hK
  have LB : ∀ i, i ≤ R ^ K → ∀ (be1 lo1 k1 k2 k3 : FN) (gn1 : Int32) (fi1 : FN), fiP R K m sn so he l fi1 i → V E mX2_findBeginnings (4, 0, 0) Z 0 0 (wF E a b b2 b3 b4 hh hr (nI (cntP (begP R K m sn so he l) (i))) ++ (wH E a b2 se sn be so lo he inn al go (nI R) (nI K) (nI G) gu gr ++ (wH E a b3 f1 f2 be1 f4 lo1 f6 k1 k2 k3 (nI R) (nI K) gn1 (nI 0) (nI g) ++ [(a b4, iA E 5 fi1), (a (b4 + 1), iA E 5 sr1)]))) [(0, .ref (a b)), (1, .int (nI m)), (2, .int (nI (R ^ K))), (3, .int (nI i))] [] 54 := by
    refine lp_up (R ^ K) ?_
    intro i hi ih be1 lo1 k1 k2 k3 gn1 fi1 hfi
    refine mr_iload_n C 55 dX2_findBeginnings_54 rfl rfl ?_
    refine mr_iload_n C 56 dX2_findBeginnings_55 rfl rfl ?_
    refine mr_icmpge C 98 59 dX2_findBeginnings_56 (by decide) rfl (fun c_56 => ?_) (fun c_56 => ?_)
    · rw [nI_leI (by omega) (by omega)] at c_56
      refine mr_vret C dX2_findBeginnings_98 rfl (by decide) (by decide) hlen ?_
      rw [hO]
      obtain rfl : i = R ^ K := by omega
      exact ⟨_, _, _, rfl, ⟨_, _, _, _, _, _, _, _, _, _, _, _, _, _, hg, rfl⟩, rfl, hfi⟩
    · rw [nI_leI (by omega) (by omega)] at c_56
      refine mr_aload_n C 60 dX2_findBeginnings_59 rfl rfl ?_
      refine mr_iload_n C 61 dX2_findBeginnings_60 rfl rfl ?_
      refine mr_callV C (c_canBegin E a b b2 b3 b4 hh hr (nI (cntP (begP R K m sn so he l) (i))) se sn be so lo he inn al go f1 f2 be1 f4 lo1 f6 k1 k2 k3 fi1 sr1 gu gr (nI R) (nI K) gn1 (nI 0) (nI g) R K G hR hR0 hK i (by omega)) [0, 1, 2, 3, 4, 5, 6, 7, 8, 9, 10, 11, 12, 13, 14, 15, 16, 17, 18, 19, 20, 21, 22] 0 2 64 dX2_findBeginnings_61 rfl mk_X2_canBegin mi_X2_canBegin ml_X2_95 rfl rfl rfl rfl rfl (Nat.le_of_ble_eq_true rfl) (by decide) (by decide) (by decide) rfl rfl (fun r w1 hpost => ?_)
      obtain ⟨f, rfl, rfl, hf⟩ := hpost
      refine mr_w (wput_all _ _ 23 rfl rfl) ?_
      refine mr_ifeq C 92 67 dX2_findBeginnings_64 (by decide) rfl (fun c_64 => ?_) (fun c_64 => ?_)
      · rw [bP_eq] at c_64
        refine mr_iinc C (nI (i + 1)) 95 dX2_findBeginnings_92 rfl rfl (by decide) (nI_add i 1) ?_
        refine mr_goto C 54 dX2_findBeginnings_95 (by decide) ?_
        have hnb : ¬ begP R K m sn so he l i := fun h => c_64 (fun c hc => by rw [hsr c hc]; exact beg_src hR hR0 hsy h c hc)
        rw [← cntP_f hnb]
        refine mr_at (ih (by omega) _ _ _ _ _ _ fi1 ?_) rfl rfl rfl
        intro h
        rw [cntP_f hnb] at h
        obtain ⟨j, h1, h2, h3, h4⟩ := hfi h
        exact ⟨j, by omega, h2, h3, h4⟩
      · rw [← Ne, bP_ne] at c_64
        refine mr_aload_n C 68 dX2_findBeginnings_67 rfl rfl ?_
        refine mr_get C 0 71 dX2_findBeginnings_68 rfl fl_X2_12 rfl rfl ?_
        refine mr_iconst C (nI 0) 72 dX2_findBeginnings_71 rfl rfl ?_
        refine mr_put C 11 75 dX2_findBeginnings_72 rfl fs_X2_99 rfl rfl rfl (Nat.le_of_ble_eq_true rfl) ?_
        refine mr_aload_n C 76 dX2_findBeginnings_75 rfl rfl ?_
        refine mr_iload_n C 77 dX2_findBeginnings_76 rfl rfl ?_
        have hf := hf c_64
        have hH : HR R K sn so he (0, fun _ => nI 0, decS R K i) f2 be1 f4 f f6 := ⟨fun r hr => h2 r (by omega), fun h => absurd h (Nat.lt_irrefl 0), fun c hc => ⟨h4 c (by omega), h6 c (by omega), hf c hc, decS_lt hR0⟩⟩
        refine mr_callV C (c_ringTimes E a b b2 b3 b4 hh hr (nI (cntP (begP R K m sn so he l) (i))) f1 f2 be1 f4 f f6 k1 k2 k3 (nI 0) R K g sn so he (0, fun _ => nI 0, decS R K i) m (by omega) hR hK (show 0 < 2 ^ 29 by decide) hg hH) [0, 11, 12, 13, 14, 15, 16, 17, 18, 19, 20] 0 2 80 dX2_findBeginnings_77 rfl mk_X2_ringTimes mi_X2_ringTimes ml_X2_32 rfl rfl rfl rfl rfl (Nat.le_of_ble_eq_true rfl) (by decide) (by decide) (by decide) rfl rfl (fun r w1 hpost => ?_)
        obtain ⟨be2, lo2, j1, j2, j3, rfl, rfl, hH2⟩ := hpost
        refine mr_w (ws' := wF E a b b2 b3 b4 hh hr (nI (cntP (begP R K m sn so he l) (i))) ++ (wH E a b2 se sn be so lo he inn al go (nI R) (nI K) (nI G) gu gr ++ (wH E a b3 f1 f2 be2 f4 lo2 f6 j1 j2 j3 (nI R) (nI K) (nI (rgN (nI 0) g R K sn so he (0, fun _ => nI 0, decS R K i) m).1) (nI 0) (nI g) ++ [(a b4, iA E 5 fi1), (a (b4 + 1), iA E 5 sr1)]))) (jn_put [1, 10, 10, 2] [0, 2] [wF E a b b2 b3 b4 hh hr (nI (cntP (begP R K m sn so he l) (i))), wH E a b2 se sn be so lo he inn al go (nI R) (nI K) (nI G) gu gr, wH E a b3 f1 f2 be1 f4 f f6 k1 k2 k3 (nI R) (nI K) (nI 0) (nI 0) (nI g), [(a b4, iA E 5 fi1), (a (b4 + 1), iA E 5 sr1)]] [wF E a b b2 b3 b4 hh hr (nI (cntP (begP R K m sn so he l) (i))), wH E a b3 f1 f2 be2 f4 lo2 f6 j1 j2 j3 (nI R) (nI K) (nI (rgN (nI 0) g R K sn so he (0, fun _ => nI 0, decS R K i) m).1) (nI 0) (nI g)] [wF E a b b2 b3 b4 hh hr (nI (cntP (begP R K m sn so he l) (i))), wH E a b2 se sn be so lo he inn al go (nI R) (nI K) (nI G) gu gr, wH E a b3 f1 f2 be2 f4 lo2 f6 j1 j2 j3 (nI R) (nI K) (nI (rgN (nI 0) g R K sn so he (0, fun _ => nI 0, decS R K i) m).1) (nI 0) (nI g), [(a b4, iA E 5 fi1), (a (b4 + 1), iA E 5 sr1)]] rfl (by decide) rfl rfl rfl) ?_
        rw [rgN_g0] at hH2 ⊢
        refine mr_aload_n C 81 dX2_findBeginnings_80 rfl rfl ?_
        refine mr_callV C (c_allAsNow E a b b2 b3 b4 hh hr (nI (cntP (begP R K m sn so he l) (i))) se sn be so lo he inn al go f1 f2 be2 f4 lo2 f6 j1 j2 j3 (nI R) (nI G) gu gr (nI R) (nI K) (nI (rgN (nI 0) 0 R K sn so he (0, fun _ => nI 0, decS R K i) m).1) (nI 0) (nI g) K l (rgN (nI 0) 0 R K sn so he (0, fun _ => nI 0, decS R K i) m).2.2 hK (fun c hc => ⟨(hl c hc).1, by have := (hl c hc).2; omega⟩) (fun c hc => ⟨(hH2.2.2 c hc).2.2.1, by have := (hH2.2.2 c hc).2.2.2; omega⟩)) [0, 1, 2, 3, 4, 5, 6, 7, 8, 9, 10, 11, 12, 13, 14, 15, 16, 17, 18, 19, 20] 0 2 84 dX2_findBeginnings_81 rfl mk_X2_allAsNow mi_X2_allAsNow ml_X2_57 rfl rfl rfl rfl rfl (Nat.le_of_ble_eq_true rfl) (by decide) (by decide) (by decide) rfl rfl (fun r w1 hpost => ?_)
        obtain ⟨rfl, rfl⟩ := hpost
        refine mr_w (ws' := wF E a b b2 b3 b4 hh hr (nI (cntP (begP R K m sn so he l) (i))) ++ (wH E a b2 se sn be so lo he inn al go (nI R) (nI K) (nI G) gu gr ++ (wH E a b3 f1 f2 be2 f4 lo2 f6 j1 j2 j3 (nI R) (nI K) (nI (rgN (nI 0) 0 R K sn so he (0, fun _ => nI 0, decS R K i) m).1) (nI 0) (nI g) ++ [(a b4, iA E 5 fi1), (a (b4 + 1), iA E 5 sr1)]))) (jn_put [1, 10, 10, 2] [0, 1, 2] [wF E a b b2 b3 b4 hh hr (nI (cntP (begP R K m sn so he l) (i))), wH E a b2 se sn be so lo he inn al go (nI R) (nI K) (nI G) gu gr, wH E a b3 f1 f2 be2 f4 lo2 f6 j1 j2 j3 (nI R) (nI K) (nI (rgN (nI 0) 0 R K sn so he (0, fun _ => nI 0, decS R K i) m).1) (nI 0) (nI g), [(a b4, iA E 5 fi1), (a (b4 + 1), iA E 5 sr1)]] [wF E a b b2 b3 b4 hh hr (nI (cntP (begP R K m sn so he l) (i))), wH E a b2 se sn be so lo he inn al go (nI R) (nI K) (nI G) gu gr, wH E a b3 f1 f2 be2 f4 lo2 f6 j1 j2 j3 (nI R) (nI K) (nI (rgN (nI 0) 0 R K sn so he (0, fun _ => nI 0, decS R K i) m).1) (nI 0) (nI g)] [wF E a b b2 b3 b4 hh hr (nI (cntP (begP R K m sn so he l) (i))), wH E a b2 se sn be so lo he inn al go (nI R) (nI K) (nI G) gu gr, wH E a b3 f1 f2 be2 f4 lo2 f6 j1 j2 j3 (nI R) (nI K) (nI (rgN (nI 0) 0 R K sn so he (0, fun _ => nI 0, decS R K i) m).1) (nI 0) (nI g), [(a b4, iA E 5 fi1), (a (b4 + 1), iA E 5 sr1)]] rfl (by decide) rfl rfl rfl) ?_
        refine mr_ifeq C 92 87 dX2_findBeginnings_84 (by decide) rfl (fun c_84 => ?_) (fun c_84 => ?_)
        · rw [bI_eq] at c_84
          refine mr_iinc C (nI (i + 1)) 95 dX2_findBeginnings_92 rfl rfl (by decide) (nI_add i 1) ?_
          refine mr_goto C 54 dX2_findBeginnings_95 (by decide) ?_
          have hnb : ¬ begP R K m sn so he l i := fun h => c_84 h
          rw [← cntP_f hnb]
          refine mr_at (ih (by omega) _ _ _ _ _ _ fi1 ?_) rfl rfl rfl
          intro h
          rw [cntP_f hnb] at h
          obtain ⟨j, h1, h2, h3, h4⟩ := hfi h
          exact ⟨j, by omega, h2, h3, h4⟩
        · rw [← Ne, bI_ne] at c_84
          refine mr_aload_n C 88 dX2_findBeginnings_87 rfl rfl ?_
          refine mr_iload_n C 89 dX2_findBeginnings_88 rfl rfl ?_
          refine mr_callV C (c_countWay E a b b2 b3 b4 hh hr (cntP (begP R K m sn so he l) (i)) (by have := cntP_le (P := begP R K m sn so he l) i; omega) se sn be so lo he inn al go f1 f2 be2 f4 lo2 f6 j1 j2 j3 fi1 sr1 gu gr (nI R) (nI K) (nI (rgN (nI 0) 0 R K sn so he (0, fun _ => nI 0, decS R K i) m).1) (nI 0) (nI g) R K G hR hR0 hK i (by omega) c_64) [0, 1, 2, 3, 4, 5, 6, 7, 8, 9, 10, 11, 12, 13, 14, 15, 16, 17, 18, 19, 20, 21, 22] 0 2 92 dX2_findBeginnings_89 rfl mk_X2_countWay mi_X2_countWay ml_X2_102 rfl rfl rfl rfl rfl (Nat.le_of_ble_eq_true rfl) (by decide) (by decide) (by decide) rfl rfl (fun r w1 hpost => ?_)
          obtain ⟨lo3, fi2, rfl, rfl, hy0, hy1⟩ := hpost
          refine mr_w (wput_all _ _ 23 rfl rfl) ?_
          refine mr_iinc C (nI (i + 1)) 95 dX2_findBeginnings_92 rfl rfl (by decide) (nI_add i 1) ?_
          refine mr_goto C 54 dX2_findBeginnings_95 (by decide) ?_
          have hb : begP R K m sn so he l i := c_84
          rw [← cntP_t hb]
          refine mr_at (ih (by omega) _ _ _ _ _ _ fi2 ?_) rfl rfl rfl
          intro _
          by_cases e : cntP (begP R K m sn so he l) (i) = 0
          · exact ⟨i, by omega, hb, cntP_0 i e, hy0 e⟩
          · obtain ⟨j, h1, h2, h3, h4⟩ := hfi (by omega)
            exact ⟨j, by omega, h2, h3, by rw [hy1 e]; exact h4⟩
  have LC : ∀ i, i ≤ K → V E mX2_findBeginnings (4, 0, 0) Z 0 0 (wF E a b b2 b3 b4 hh hr (nI 0) ++ (wH E a b2 se sn be so lo he inn al go (nI R) (nI K) (nI G) gu gr ++ (wH E a b3 f1 f2 f3 f4 f5 f6 inn0 al0 go0 (nI R) (nI K) (nI G) (nI 0) (nI g) ++ [(a b4, iA E 5 fi), (a (b4 + 1), iA E 5 sr1)]))) [(0, .ref (a b)), (1, .int (nI m)), (2, .int (nI (R ^ i))), (3, .int (nI i))] [] 25 := by
    refine lp_up K ?_
    intro i hi ih
    refine mr_iload_n C 26 dX2_findBeginnings_25 rfl rfl ?_
    refine mr_aload_n C 27 dX2_findBeginnings_26 rfl rfl ?_
    refine mr_get C 0 30 dX2_findBeginnings_27 rfl fl_X2_25 rfl rfl ?_
    refine mr_get C 1 33 dX2_findBeginnings_30 rfl fl_X2_92 rfl rfl ?_
    refine mr_icmpge C 52 36 dX2_findBeginnings_33 (by decide) rfl (fun c_33 => ?_) (fun c_33 => ?_)
    · rw [nI_leI (by omega) (by omega)] at c_33
      refine mr_iconst C (nI 0) 53 dX2_findBeginnings_52 rfl rfl ?_
      refine mr_istore_n C 54 dX2_findBeginnings_53 rfl rfl (by decide) ?_
      obtain rfl : i = K := by omega
      exact mr_at (LB 0 (Nat.zero_le _) _ _ _ _ _ _ fi (fun h => absurd h (Nat.lt_irrefl 0))) rfl rfl rfl
    · rw [nI_leI (by omega) (by omega)] at c_33
      refine mr_iload_n C 37 dX2_findBeginnings_36 rfl rfl ?_
      refine mr_aload_n C 38 dX2_findBeginnings_37 rfl rfl ?_
      refine mr_get C 0 41 dX2_findBeginnings_38 rfl fl_X2_25 rfl rfl ?_
      refine mr_get C 1 44 dX2_findBeginnings_41 rfl fl_X2_61 rfl rfl ?_
      refine mr_imul C (nI (R ^ (i + 1))) 45 dX2_findBeginnings_44 rfl (by rw [pk_mul, Nat.pow_succ]) ?_
      refine mr_istore_n C 46 dX2_findBeginnings_45 rfl rfl (by decide) ?_
      refine mr_iinc C (nI (i + 1)) 49 dX2_findBeginnings_46 rfl rfl (by decide) (nI_add i 1) ?_
      refine mr_goto C 25 dX2_findBeginnings_49 (by decide) ?_
      exact mr_at (ih (by omega)) rfl rfl rfl
  exact mr_at (LC 0 (Nat.zero_le _)) rfl rfl rfl

