/-! Future: who is to be hired -/
/-- where all are behind n bells, with m hired heads in room g -/
def hlS (R K n : Nat) (sn so he : FN) (G : Nat) (be : FN) (l : Nat → Nat) (g m : Nat) : Nat → Nat := (rgN (nI m) g R K sn so he (G, upd be g (be g + nI m), l) n).2.2
def okS (R K n : Nat) (sn so he : FN) (G : Nat) (be : FN) (l : Nat → Nat) (room em g m : Nat) : Prop :=
  ∀ c, c < K → (em = 1 → hlS R K n sn so he G be l g m c ≠ room) ∧ (em = 0 → hlS R K n sn so he G be l g m c = room ∨ so c = nI 4)
/-- by number: six times the heads, and the room -/
def hirP (R K n : Nat) (sn so he : FN) (G : Nat) (be : FN) (l : Nat → Nat) (room em d : Nat) : Prop :=
  d % 6 < R ∧ (d / 6 = 0 → d % 6 = 0) ∧ ¬ (em = 1 ∧ 0 < d / 6 ∧ d % 6 = room) ∧ okS R K n sn so he G be l room em (d % 6) (d / 6)
theorem AgU {f h : FN} {n j : Nat} {x y : Int32} (hf : Ag n f h) (e : x = y) : Ag n (upd f j x) (upd h j y) := by
  subst e
  intro r hr
  rw [up_at, up_at, hf r hr]
set_option maxRecDepth 20000 in
set_option maxHeartbeats 4000000 in
theorem c_succeeds (E : EG) (a : Nat → Nat) (b b2 b3 b4 : Nat) (hh hr wy : Int32) (se sn be so lo he inn al go se0 sn0 be0 so0 lo0 he0 inn0 al0 go0 : FN) (gu gr ro0 cr0 gn0 gu0 : Int32) (R K G g : Nat) (l : Nat → Nat) (hR : R ≤ 6) (hK : K ≤ 5) (hG : G < 2 ^ 29) (hg : g < 6) (hl : ∀ c, c < K → lo c = nI (l c) ∧ l c < R) (r0 m em gm g1 : Nat) (hr0 : r0 < R) (hm : m ≤ 60) (hem : em ≤ 1) (hgm : gm ≤ 60) (hg1 : g1 < R) : Ctr E mX2_succeeds (4, 0, 0) [.ref (a b), .int (nI r0), .int (nI m), .int (nI em), .int (nI gm), .int (nI g1)] (wF E a b b2 b3 b4 hh hr wy ++ (wH E a b2 se sn be so lo he inn al go (nI R) (nI K) (nI G) gu gr ++ wH E a b3 se0 sn0 be0 so0 lo0 he0 inn0 al0 go0 ro0 cr0 gn0 gu0 (nI g))) (fun v w => ∃ wc, v = some (.int (bP (okS R K m sn so he G be l r0 em g1 gm))) ∧ AnyH E a b3 wc ∧ w = wF E a b b2 b3 b4 hh hr wy ++ (wH E a b2 se sn be so lo he inn al go (nI R) (nI K) (nI G) gu gr ++ wc)) := by
  refine Ctr.of (by decide) (Nat.le_of_ble_eq_true rfl) ?_
  intro Z hO hn C
  have hlen : zn Z ≤ 21 := by rw [hn]; exact Nat.le_of_ble_eq_true rfl
  refine mr_aload_n C 1 dX2_succeeds_0 rfl rfl ?_
  refine mr_get C 0 4 dX2_succeeds_1 rfl fl_X2_12 rfl rfl ?_
  refine mr_aload_n C 5 dX2_succeeds_4 rfl rfl ?_
  refine mr_get C 0 8 dX2_succeeds_5 rfl fl_X2_25 rfl rfl ?_
  refine mr_callV C (c_take E a b3 b2 se0 sn0 be0 so0 lo0 he0 inn0 al0 go0 se sn be so lo he inn al go ro0 cr0 gn0 gu0 (nI g) (nI R) (nI K) (nI G) gu gr) [11, 12, 13, 14, 15, 16, 17, 18, 19, 20, 1, 2, 3, 4, 5, 6, 7, 8, 9, 10] 11 3 11 dX2_succeeds_8 rfl mk_X3_take mi_X3_take ml_X2_28 rfl rfl rfl rfl rfl (Nat.le_of_ble_eq_true rfl) (by decide) (by decide) (by decide) rfl rfl (fun r w1 hpost => ?_)
  obtain ⟨f1, f2, f3, f4, f5, f6, rfl, rfl, -, h2, h3, h4, h5, h6⟩ := hpost
  refine mr_w (wput_swap (wF E a b b2 b3 b4 hh hr wy) (wH E a b2 se sn be so lo he inn al go (nI R) (nI K) (nI G) gu gr) _ (wH E a b3 f1 f2 f3 f4 f5 f6 inn0 al0 go0 (nI R) (nI K) (nI G) (nI 0) (nI g)) (wH E a b2 se sn be so lo he inn al go (nI R) (nI K) (nI G) gu gr) rfl rfl) ?_
  have hH : HR R K sn so he (G, be, l) f2 f3 f4 f5 f6 := HR.take hR hK hl h2 h3 h4 h5 h6
  refine mr_aload_n C 12 dX2_succeeds_11 rfl rfl ?_
  refine mr_get C 0 15 dX2_succeeds_12 rfl fl_X2_12 rfl rfl ?_
  refine mr_iload C 17 dX2_succeeds_15 rfl rfl ?_
  refine mr_iload C 19 dX2_succeeds_17 rfl rfl ?_
  refine mr_callV C (c_hire E a b3 f1 f2 f3 f4 f5 f6 inn0 al0 go0 (nI R) (nI K) (nI G) (nI 0) (nI g) (nI gm) g1 (by omega)) [11, 12, 13, 14, 15, 16, 17, 18, 19, 20] 11 3 22 dX2_succeeds_19 rfl mk_X3_hire mi_X3_hire ml_X2_105 rfl rfl rfl rfl rfl (Nat.le_of_ble_eq_true rfl) (by decide) (by decide) (by decide) rfl rfl (fun r w1 hpost => ?_)
  obtain ⟨rfl, rfl⟩ := hpost
  refine mr_w (wput_last (wF E a b b2 b3 b4 hh hr wy) (wH E a b2 se sn be so lo he inn al go (nI R) (nI K) (nI G) gu gr) _ (wH E a b3 f1 f2 (upd f3 g1 (f3 g1 + nI gm)) f4 f5 f6 inn0 al0 go0 (nI R) (nI K) (nI G) (nI gm) (nI g1)) rfl) ?_
  have hH : HR R K sn so he (G, upd be g1 (be g1 + nI gm), l) f2 (upd f3 g1 (f3 g1 + nI gm)) f4 f5 f6 := HR.take hR hK hl h2 (AgU h3 (by rw [h3 g1 (by omega)])) h4 h5 h6
  refine mr_aload_n C 23 dX2_succeeds_22 rfl rfl ?_
  refine mr_iload_n C 24 dX2_succeeds_23 rfl rfl ?_
  refine mr_callV C (c_ringTimes E a b b2 b3 b4 hh hr wy f1 f2 (upd f3 g1 (f3 g1 + nI gm)) f4 f5 f6 inn0 al0 go0 (nI gm) R K g1 sn so he (G, upd be g1 (be g1 + nI gm), l) m (by omega) hR hK hG (by omega) hH) [0, 11, 12, 13, 14, 15, 16, 17, 18, 19, 20] 0 2 27 dX2_succeeds_24 rfl mk_X2_ringTimes mi_X2_ringTimes ml_X2_32 rfl rfl rfl rfl rfl (Nat.le_of_ble_eq_true rfl) (by decide) (by decide) (by decide) rfl rfl (fun r w1 hpost => ?_)
  obtain ⟨be1, lo1, k1, k2, k3, rfl, rfl, hH1⟩ := hpost
  refine mr_w (wput_outer (wF E a b b2 b3 b4 hh hr wy) (wH E a b2 se sn be so lo he inn al go (nI R) (nI K) (nI G) gu gr) _ (wF E a b b2 b3 b4 hh hr wy) (wH E a b3 f1 f2 be1 f4 lo1 f6 k1 k2 k3 (nI R) (nI K) (nI (rgN (nI gm) g1 R K sn so he (G, upd be g1 (be g1 + nI gm), l) m).1) (nI gm) (nI g1)) rfl rfl) ?_
  have hlo : ∀ c, c < K → lo1 c = nI (hlS R K m sn so he G be l g1 gm c) ∧ hlS R K m sn so he G be l g1 gm c < R := fun c hc => (hH1.2.2 c hc).2.2
  refine mr_iconst C (nI 0) 28 dX2_succeeds_27 rfl rfl ?_
  refine mr_istore C 30 dX2_succeeds_28 rfl (by decide) ?_
  have L : ∀ i, i ≤ K → (∀ j, j < i → (em = 1 → hlS R K m sn so he G be l g1 gm j ≠ r0) ∧ (em = 0 → hlS R K m sn so he G be l g1 gm j = r0 ∨ so j = nI 4)) → V E mX2_succeeds (4, 0, 0) Z 0 0 (wF E a b b2 b3 b4 hh hr wy ++ (wH E a b2 se sn be so lo he inn al go (nI R) (nI K) (nI G) gu gr ++ wH E a b3 f1 f2 be1 f4 lo1 f6 k1 k2 k3 (nI R) (nI K) (nI (rgN (nI gm) g1 R K sn so he (G, upd be g1 (be g1 + nI gm), l) m).1) (nI gm) (nI g1))) [(0, .ref (a b)), (1, .int (nI r0)), (2, .int (nI m)), (3, .int (nI em)), (4, .int (nI gm)), (5, .int (nI g1)), (6, .int (nI i))] [] 30 := by
    refine lp_up K ?_
    intro i hi ih hf
    refine mr_iload C 32 dX2_succeeds_30 rfl rfl ?_
    refine mr_aload_n C 33 dX2_succeeds_32 rfl rfl ?_
    refine mr_get C 0 36 dX2_succeeds_33 rfl fl_X2_25 rfl rfl ?_
    refine mr_get C 1 39 dX2_succeeds_36 rfl fl_X2_92 rfl rfl ?_
    refine mr_icmpge C 102 42 dX2_succeeds_39 (by decide) rfl (fun c_39 => ?_) (fun c_39 => ?_)
    · rw [nI_leI (by omega) (by omega)] at c_39
      refine mr_iconst C (nI 1) 103 dX2_succeeds_102 rfl rfl ?_
      refine mr_iret C dX2_succeeds_103 rfl rfl (by decide) (by decide) hlen ?_
      rw [hO]
      obtain rfl : i = K := by omega
      exact ⟨_, congrArg (fun z => some (Value.int z)) (bP_t hf), ⟨_, _, _, _, _, _, _, _, _, _, _, _, _, _, (by omega), rfl⟩, rfl⟩
    · rw [nI_leI (by omega) (by omega)] at c_39
      refine mr_aload_n C 43 dX2_succeeds_42 rfl rfl ?_
      refine mr_get C 0 46 dX2_succeeds_43 rfl fl_X2_12 rfl rfl ?_
      refine mr_get C 11 49 dX2_succeeds_46 rfl fl_X2_36 rfl rfl ?_
      refine mr_iload C 51 dX2_succeeds_49 rfl rfl ?_
      refine mr_iald C 16 i 52 dX2_succeeds_51 rfl rfl rfl (by omega) (by decide) ?_
      refine mr_iload_n C 53 dX2_succeeds_52 rfl rfl ?_
      refine mr_icmpne C 60 56 dX2_succeeds_53 (by decide) rfl (fun c_53 => ?_) (fun c_53 => ?_)
      · rw [Ne, (hlo i (by omega)).1, nI_eq (by have := (hlo i (by omega)).2; omega) (by omega)] at c_53
        refine mr_iconst C (nI 0) 61 dX2_succeeds_60 rfl rfl ?_
        refine mr_istore C 63 dX2_succeeds_61 rfl (by decide) ?_
        refine mr_iload_n C 64 dX2_succeeds_63 rfl rfl ?_
        refine mr_ifeq C 75 67 dX2_succeeds_64 (by decide) rfl (fun c_64 => ?_) (fun c_64 => ?_)
        · have c_64 : em = 0 := (nI_eq (b := 0) (by omega) (by omega)).mp c_64
          refine mr_iload C 77 dX2_succeeds_75 rfl rfl ?_
          refine mr_ifne C 96 80 dX2_succeeds_77 (by decide) rfl (fun c_ => absurd (by decide) c_) (fun _ => ?_)
          refine mr_aload_n C 81 dX2_succeeds_80 rfl rfl ?_
          refine mr_get C 0 84 dX2_succeeds_81 rfl fl_X2_25 rfl rfl ?_
          refine mr_get C 1 87 dX2_succeeds_84 rfl fl_X2_109 rfl rfl ?_
          refine mr_iload C 89 dX2_succeeds_87 rfl rfl ?_
          refine mr_iald C 5 i 90 dX2_succeeds_89 rfl rfl rfl (by omega) (by decide) ?_
          refine mr_iconst C (nI 4) 91 dX2_succeeds_90 rfl rfl ?_
          refine mr_icmpeq C 96 94 dX2_succeeds_91 (by decide) rfl (fun c_91 => ?_) (fun c_91 => ?_)
          · refine mr_iinc C (nI (i + 1)) 99 dX2_succeeds_96 rfl rfl (by decide) (nI_add i 1) ?_
            refine mr_goto C 30 dX2_succeeds_99 (by decide) ?_
            refine mr_at (ih (by omega) ?_) rfl rfl rfl
            intro j hj
            by_cases e : j = i
            · rw [e]; exact ⟨fun h => absurd (c_64.symm.trans h) (by decide), fun _ => Or.inr c_91⟩
            · exact hf j (by omega)
          · refine mr_iconst C (nI 0) 95 dX2_succeeds_94 rfl rfl ?_
            refine mr_iret C dX2_succeeds_95 rfl rfl (by decide) (by decide) hlen ?_
            rw [hO]
            exact ⟨_, congrArg (fun z => some (Value.int z)) (bP_f (fun h => ((h i (by omega)).2 c_64).elim c_53 c_91)), ⟨_, _, _, _, _, _, _, _, _, _, _, _, _, _, (by omega), rfl⟩, rfl⟩
        · have c_64 : ¬ em = 0 := fun h => c_64 (congrArg nI h)
          refine mr_iload C 69 dX2_succeeds_67 rfl rfl ?_
          refine mr_ifeq C 96 72 dX2_succeeds_69 (by decide) rfl (fun _ => ?_) (fun c_ => absurd (by decide) c_)
          refine mr_iinc C (nI (i + 1)) 99 dX2_succeeds_96 rfl rfl (by decide) (nI_add i 1) ?_
          refine mr_goto C 30 dX2_succeeds_99 (by decide) ?_
          refine mr_at (ih (by omega) ?_) rfl rfl rfl
          intro j hj
          by_cases e : j = i
          · rw [e]; exact ⟨fun _ => c_53, fun h => absurd h c_64⟩
          · exact hf j (by omega)
      · rw [(hlo i (by omega)).1, nI_eq (by have := (hlo i (by omega)).2; omega) (by omega)] at c_53
        refine mr_iconst C (nI 1) 57 dX2_succeeds_56 rfl rfl ?_
        refine mr_goto C 61 dX2_succeeds_57 (by decide) ?_
        refine mr_istore C 63 dX2_succeeds_61 rfl (by decide) ?_
        refine mr_iload_n C 64 dX2_succeeds_63 rfl rfl ?_
        refine mr_ifeq C 75 67 dX2_succeeds_64 (by decide) rfl (fun c_64 => ?_) (fun c_64 => ?_)
        · have c_64 : em = 0 := (nI_eq (b := 0) (by omega) (by omega)).mp c_64
          refine mr_iload C 77 dX2_succeeds_75 rfl rfl ?_
          refine mr_ifne C 96 80 dX2_succeeds_77 (by decide) rfl (fun _ => ?_) (fun c_ => absurd c_ (by decide))
          refine mr_iinc C (nI (i + 1)) 99 dX2_succeeds_96 rfl rfl (by decide) (nI_add i 1) ?_
          refine mr_goto C 30 dX2_succeeds_99 (by decide) ?_
          refine mr_at (ih (by omega) ?_) rfl rfl rfl
          intro j hj
          by_cases e : j = i
          · rw [e]; exact ⟨fun h => absurd (c_64.symm.trans h) (by decide), fun _ => Or.inl c_53⟩
          · exact hf j (by omega)
        · have c_64 : ¬ em = 0 := fun h => c_64 (congrArg nI h)
          refine mr_iload C 69 dX2_succeeds_67 rfl rfl ?_
          refine mr_ifeq C 96 72 dX2_succeeds_69 (by decide) rfl (fun c_ => absurd c_ (by decide)) (fun _ => ?_)
          refine mr_goto C 94 dX2_succeeds_72 (by decide) ?_
          refine mr_iconst C (nI 0) 95 dX2_succeeds_94 rfl rfl ?_
          refine mr_iret C dX2_succeeds_95 rfl rfl (by decide) (by decide) hlen ?_
          rw [hO]
          exact ⟨_, congrArg (fun z => some (Value.int z)) (bP_f (fun h => (h i (by omega)).1 (by omega) c_53)), ⟨_, _, _, _, _, _, _, _, _, _, _, _, _, _, (by omega), rfl⟩, rfl⟩
  exact mr_at (L 0 (Nat.zero_le _) (fun j h => absurd h (Nat.not_lt_zero j))) rfl rfl rfl

def lmS (R i : Nat) : Nat := if i = 0 then 1 else R
set_option maxRecDepth 20000 in
set_option maxHeartbeats 4000000 in
theorem c_findHired (E : EG) (a : Nat → Nat) (b b2 b3 b4 : Nat) (hh hr wy : Int32) (se sn be so lo he inn al go se0 sn0 be0 so0 lo0 he0 inn0 al0 go0 : FN) (gu gr ro0 cr0 gn0 gu0 : Int32) (R K G g : Nat) (l : Nat → Nat) (hR : R ≤ 6) (hK : K ≤ 5) (hG : G < 2 ^ 29) (hg : g < 6) (hl : ∀ c, c < K → lo c = nI (l c) ∧ l c < R) (r0 m em : Nat) (hr0 : r0 < R) (hm : m ≤ 60) (hem : em ≤ 1) : Ctr E mX2_findHired (5, 0, 0) [.ref (a b), .int (nI r0), .int (nI m), .int (nI em)] (wF E a b b2 b3 b4 hh hr wy ++ (wH E a b2 se sn be so lo he inn al go (nI R) (nI K) (nI G) gu gr ++ wH E a b3 se0 sn0 be0 so0 lo0 he0 inn0 al0 go0 ro0 cr0 gn0 gu0 (nI g))) (fun v w => ∃ (wc : va_W) (hh1 hr1 : Int32), v = some (.int (bP (fstN (fun d => hirP R K m sn so he G be l r0 em (d)) 366 0 < 366))) ∧ AnyH E a b3 wc ∧ (∀ d, fstN (fun d => hirP R K m sn so he G be l r0 em (d)) 366 0 = d → d < 366 → hh1 = nI (d / 6) ∧ hr1 = nI (d % 6)) ∧ w = wF E a b b2 b3 b4 hh1 hr1 wy ++ (wH E a b2 se sn be so lo he inn al go (nI R) (nI K) (nI G) gu gr ++ wc)) := by
  refine Ctr.of (by decide) (Nat.le_of_ble_eq_true rfl) ?_
  intro Z hO hn C
  have hlen : zn Z ≤ 21 := by rw [hn]; exact Nat.le_of_ble_eq_true rfl
  have IN : ∀ lim i : Nat, i ≤ 60 → lim = lmS R i → ∀ wc0 : va_W, (∀ wc : va_W, AnyH E a b3 wc → (∀ d, d < 6 * (i + 1) → ¬ hirP R K m sn so he G be l r0 em (d)) → V E mX2_findHired (5, 0, 0) Z 0 0 (wF E a b b2 b3 b4 hh hr wy ++ (wH E a b2 se sn be so lo he inn al go (nI R) (nI K) (nI G) gu gr ++ wc)) [(0, .ref (a b)), (1, .int (nI r0)), (2, .int (nI m)), (3, .int (nI em)), (4, .int (nI i))] [] 99) → ∀ k, k ≤ lim → ∀ wc : va_W, AnyH E a b3 wc → (∀ d, d < 6 * i + k → ¬ hirP R K m sn so he G be l r0 em (d)) → V E mX2_findHired (5, 0, 0) Z 0 0 (wF E a b b2 b3 b4 hh hr wy ++ (wH E a b2 se sn be so lo he inn al go (nI R) (nI K) (nI G) gu gr ++ wc)) [(0, .ref (a b)), (1, .int (nI r0)), (2, .int (nI m)), (3, .int (nI em)), (4, .int (nI i)), (5, .int (nI lim)), (6, .int (nI k))] [] 31 := by
    intro lim i hi6 hlim wc0 behind
    have hlimR : lim ≤ R := by unfold lmS at hlim; split at hlim <;> omega
    refine lp_up lim ?_
    intro k hk ihk wc hwc hfk
    have hk0 : k < lim → i = 0 → k = 0 := by
      intro h1 h2
      unfold lmS at hlim; rw [if_pos h2] at hlim; omega
    refine mr_iload C 33 dX2_findHired_31 rfl rfl ?_
    refine mr_iload C 35 dX2_findHired_33 rfl rfl ?_
    refine mr_icmpge C 99 38 dX2_findHired_35 (by decide) rfl (fun c_35 => ?_) (fun c_35 => ?_)
    · rw [nI_leI (by omega) (by omega)] at c_35
      exact mr_at (behind wc hwc (by
        intro d hd h
        by_cases e : d < 6 * i + k
        · exact hfk d e h
        · have h1 := h.1; have h2 := h.2.1
          unfold lmS at hlim; split at hlim <;> omega)) rfl rfl rfl
    · rw [nI_leI (by omega) (by omega)] at c_35
      refine mr_iload_n C 39 dX2_findHired_38 rfl rfl ?_
      refine mr_ifeq C 57 42 dX2_findHired_39 (by decide) rfl (fun c_39 => ?_) (fun c_39 => ?_)
      · have c_39 : ¬ em = 1 := fun h => by rw [h] at c_39; exact absurd c_39 (by decide)
        refine mr_iconst C (nI 0) 58 dX2_findHired_57 rfl rfl ?_
        refine mr_istore C 60 dX2_findHired_58 rfl (by decide) ?_
        refine mr_iload C 62 dX2_findHired_60 rfl rfl ?_
        refine mr_ifne C 93 65 dX2_findHired_62 (by decide) rfl (fun c_ => absurd (by decide) c_) (fun _ => ?_)
        refine mr_aload_n C 66 dX2_findHired_65 rfl rfl ?_
        refine mr_iload_n C 67 dX2_findHired_66 rfl rfl ?_
        refine mr_iload_n C 68 dX2_findHired_67 rfl rfl ?_
        refine mr_iload_n C 69 dX2_findHired_68 rfl rfl ?_
        refine mr_iload C 71 dX2_findHired_69 rfl rfl ?_
        refine mr_iload C 73 dX2_findHired_71 rfl rfl ?_
        have NB : ¬ (em = 1 ∧ 0 < i ∧ k = r0) := fun h => c_39 h.1
        obtain ⟨se9, sn9, be9, so9, lo9, he9, inn9, al9, go9, ro9, cr9, gn9, gu9, g9, hg9, rfl⟩ := hwc
        refine mr_callV C (c_succeeds E a b b2 b3 b4 hh hr wy se sn be so lo he inn al go se9 sn9 be9 so9 lo9 he9 inn9 al9 go9 gu gr ro9 cr9 gn9 gu9 R K G g9 l hR hK hG hg9 hl r0 m em i k hr0 hm hem (by omega) (by omega)) [0, 1, 2, 3, 4, 5, 6, 7, 8, 9, 10, 11, 12, 13, 14, 15, 16, 17, 18, 19, 20] 0 2 76 dX2_findHired_73 rfl mk_X2_succeeds mi_X2_succeeds ml_X2_65 rfl rfl rfl rfl rfl (Nat.le_of_ble_eq_true rfl) (by decide) (by decide) (by decide) rfl rfl (fun r w1 hpost => ?_)
        obtain ⟨wc2, rfl, hwc2, rfl⟩ := hpost
        obtain ⟨se8, sn8, be8, so8, lo8, he8, inn8, al8, go8, ro8, cr8, gn8, gu8, g8, hg8, rfl⟩ := hwc2
        have hwc2 : AnyH E a b3 (wH E a b3 se8 sn8 be8 so8 lo8 he8 inn8 al8 go8 ro8 cr8 gn8 gu8 (nI g8)) := ⟨_, _, _, _, _, _, _, _, _, _, _, _, _, _, hg8, rfl⟩
        refine mr_w (wput_all _ _ 21 rfl rfl) ?_
        refine mr_ifeq C 93 79 dX2_findHired_76 (by decide) rfl (fun c_76 => ?_) (fun c_76 => ?_)
        · rw [bP_eq] at c_76
          refine mr_iinc C (nI (k + 1)) 96 dX2_findHired_93 rfl rfl (by decide) (nI_add k 1) ?_
          refine mr_goto C 31 dX2_findHired_96 (by decide) ?_
          refine mr_at (ihk (by omega) _ hwc2 ?_) rfl rfl rfl
          intro d hd h
          by_cases e : d = 6 * i + k
          · rw [e] at h
            unfold hirP at h; rw [show (6 * i + k) % 6 = k by omega, show (6 * i + k) / 6 = i by omega] at h
            exact c_76 h.2.2.2
          · exact hfk d (by omega) h
        · rw [← Ne, bP_ne] at c_76
          refine mr_aload_n C 80 dX2_findHired_79 rfl rfl ?_
          refine mr_iload C 82 dX2_findHired_80 rfl rfl ?_
          refine mr_put C 0 85 dX2_findHired_82 rfl fs_X2_69 rfl rfl rfl (Nat.le_of_ble_eq_true rfl) ?_
          refine mr_aload_n C 86 dX2_findHired_85 rfl rfl ?_
          refine mr_iload C 88 dX2_findHired_86 rfl rfl ?_
          refine mr_put C 0 91 dX2_findHired_88 rfl fs_X2_72 rfl rfl rfl (Nat.le_of_ble_eq_true rfl) ?_
          refine mr_iconst C (nI 1) 92 dX2_findHired_91 rfl rfl ?_
          refine mr_iret C dX2_findHired_92 rfl rfl (by decide) (by decide) hlen ?_
          rw [hO]
          have e9 : fstN (fun d => hirP R K m sn so he G be l r0 em (d)) 366 0 = 6 * i + k := fstN_hit 366 0 (6 * i + k) (by omega) (by omega) (fun j _ h => hfk j h) (by
            show hirP R K m sn so he G be l r0 em (6 * i + k)
            unfold hirP; rw [show (6 * i + k) % 6 = k by omega, show (6 * i + k) / 6 = i by omega]; exact ⟨by omega, hk0 (by omega), NB, c_76⟩)
          exact ⟨_, _, _, congrArg (fun z => some (Value.int z)) (bP_t (by rw [e9]; omega)), hwc2, fun d hd _ => by rw [e9] at hd; subst hd; rw [show (6 * i + k) % 6 = k by omega, show (6 * i + k) / 6 = i by omega]; exact ⟨rfl, rfl⟩, rfl⟩
      · have c_39 : em = 1 := by
          have h0 : ¬ em = 0 := fun h => c_39 (congrArg nI h)
          omega
        refine mr_iload C 44 dX2_findHired_42 rfl rfl ?_
        refine mr_ifle C 57 47 dX2_findHired_44 (by decide) rfl (fun c_44 => ?_) (fun c_44 => ?_)
        · have c_44 : ¬ 0 < i := fun h => nI_nle h (by omega) c_44
          refine mr_iconst C (nI 0) 58 dX2_findHired_57 rfl rfl ?_
          refine mr_istore C 60 dX2_findHired_58 rfl (by decide) ?_
          refine mr_iload C 62 dX2_findHired_60 rfl rfl ?_
          refine mr_ifne C 93 65 dX2_findHired_62 (by decide) rfl (fun c_ => absurd (by decide) c_) (fun _ => ?_)
          refine mr_aload_n C 66 dX2_findHired_65 rfl rfl ?_
          refine mr_iload_n C 67 dX2_findHired_66 rfl rfl ?_
          refine mr_iload_n C 68 dX2_findHired_67 rfl rfl ?_
          refine mr_iload_n C 69 dX2_findHired_68 rfl rfl ?_
          refine mr_iload C 71 dX2_findHired_69 rfl rfl ?_
          refine mr_iload C 73 dX2_findHired_71 rfl rfl ?_
          have NB : ¬ (em = 1 ∧ 0 < i ∧ k = r0) := fun h => c_44 h.2.1
          obtain ⟨se9, sn9, be9, so9, lo9, he9, inn9, al9, go9, ro9, cr9, gn9, gu9, g9, hg9, rfl⟩ := hwc
          refine mr_callV C (c_succeeds E a b b2 b3 b4 hh hr wy se sn be so lo he inn al go se9 sn9 be9 so9 lo9 he9 inn9 al9 go9 gu gr ro9 cr9 gn9 gu9 R K G g9 l hR hK hG hg9 hl r0 m em i k hr0 hm hem (by omega) (by omega)) [0, 1, 2, 3, 4, 5, 6, 7, 8, 9, 10, 11, 12, 13, 14, 15, 16, 17, 18, 19, 20] 0 2 76 dX2_findHired_73 rfl mk_X2_succeeds mi_X2_succeeds ml_X2_65 rfl rfl rfl rfl rfl (Nat.le_of_ble_eq_true rfl) (by decide) (by decide) (by decide) rfl rfl (fun r w1 hpost => ?_)
          obtain ⟨wc2, rfl, hwc2, rfl⟩ := hpost
          obtain ⟨se8, sn8, be8, so8, lo8, he8, inn8, al8, go8, ro8, cr8, gn8, gu8, g8, hg8, rfl⟩ := hwc2
          have hwc2 : AnyH E a b3 (wH E a b3 se8 sn8 be8 so8 lo8 he8 inn8 al8 go8 ro8 cr8 gn8 gu8 (nI g8)) := ⟨_, _, _, _, _, _, _, _, _, _, _, _, _, _, hg8, rfl⟩
          refine mr_w (wput_all _ _ 21 rfl rfl) ?_
          refine mr_ifeq C 93 79 dX2_findHired_76 (by decide) rfl (fun c_76 => ?_) (fun c_76 => ?_)
          · rw [bP_eq] at c_76
            refine mr_iinc C (nI (k + 1)) 96 dX2_findHired_93 rfl rfl (by decide) (nI_add k 1) ?_
            refine mr_goto C 31 dX2_findHired_96 (by decide) ?_
            refine mr_at (ihk (by omega) _ hwc2 ?_) rfl rfl rfl
            intro d hd h
            by_cases e : d = 6 * i + k
            · rw [e] at h
              unfold hirP at h; rw [show (6 * i + k) % 6 = k by omega, show (6 * i + k) / 6 = i by omega] at h
              exact c_76 h.2.2.2
            · exact hfk d (by omega) h
          · rw [← Ne, bP_ne] at c_76
            refine mr_aload_n C 80 dX2_findHired_79 rfl rfl ?_
            refine mr_iload C 82 dX2_findHired_80 rfl rfl ?_
            refine mr_put C 0 85 dX2_findHired_82 rfl fs_X2_69 rfl rfl rfl (Nat.le_of_ble_eq_true rfl) ?_
            refine mr_aload_n C 86 dX2_findHired_85 rfl rfl ?_
            refine mr_iload C 88 dX2_findHired_86 rfl rfl ?_
            refine mr_put C 0 91 dX2_findHired_88 rfl fs_X2_72 rfl rfl rfl (Nat.le_of_ble_eq_true rfl) ?_
            refine mr_iconst C (nI 1) 92 dX2_findHired_91 rfl rfl ?_
            refine mr_iret C dX2_findHired_92 rfl rfl (by decide) (by decide) hlen ?_
            rw [hO]
            have e9 : fstN (fun d => hirP R K m sn so he G be l r0 em (d)) 366 0 = 6 * i + k := fstN_hit 366 0 (6 * i + k) (by omega) (by omega) (fun j _ h => hfk j h) (by
              show hirP R K m sn so he G be l r0 em (6 * i + k)
              unfold hirP; rw [show (6 * i + k) % 6 = k by omega, show (6 * i + k) / 6 = i by omega]; exact ⟨by omega, hk0 (by omega), NB, c_76⟩)
            exact ⟨_, _, _, congrArg (fun z => some (Value.int z)) (bP_t (by rw [e9]; omega)), hwc2, fun d hd _ => by rw [e9] at hd; subst hd; rw [show (6 * i + k) % 6 = k by omega, show (6 * i + k) / 6 = i by omega]; exact ⟨rfl, rfl⟩, rfl⟩
        · have c_44 : 0 < i := by
            have h0 : ¬ i = 0 := fun h => c_44 (by rw [h]; decide)
            omega
          refine mr_iload C 49 dX2_findHired_47 rfl rfl ?_
          refine mr_iload_n C 50 dX2_findHired_49 rfl rfl ?_
          refine mr_icmpne C 57 53 dX2_findHired_50 (by decide) rfl (fun c_50 => ?_) (fun c_50 => ?_)
          · rw [Ne, nI_eq (by omega) (by omega)] at c_50
            refine mr_iconst C (nI 0) 58 dX2_findHired_57 rfl rfl ?_
            refine mr_istore C 60 dX2_findHired_58 rfl (by decide) ?_
            refine mr_iload C 62 dX2_findHired_60 rfl rfl ?_
            refine mr_ifne C 93 65 dX2_findHired_62 (by decide) rfl (fun c_ => absurd (by decide) c_) (fun _ => ?_)
            refine mr_aload_n C 66 dX2_findHired_65 rfl rfl ?_
            refine mr_iload_n C 67 dX2_findHired_66 rfl rfl ?_
            refine mr_iload_n C 68 dX2_findHired_67 rfl rfl ?_
            refine mr_iload_n C 69 dX2_findHired_68 rfl rfl ?_
            refine mr_iload C 71 dX2_findHired_69 rfl rfl ?_
            refine mr_iload C 73 dX2_findHired_71 rfl rfl ?_
            have NB : ¬ (em = 1 ∧ 0 < i ∧ k = r0) := fun h => c_50 h.2.2
            obtain ⟨se9, sn9, be9, so9, lo9, he9, inn9, al9, go9, ro9, cr9, gn9, gu9, g9, hg9, rfl⟩ := hwc
            refine mr_callV C (c_succeeds E a b b2 b3 b4 hh hr wy se sn be so lo he inn al go se9 sn9 be9 so9 lo9 he9 inn9 al9 go9 gu gr ro9 cr9 gn9 gu9 R K G g9 l hR hK hG hg9 hl r0 m em i k hr0 hm hem (by omega) (by omega)) [0, 1, 2, 3, 4, 5, 6, 7, 8, 9, 10, 11, 12, 13, 14, 15, 16, 17, 18, 19, 20] 0 2 76 dX2_findHired_73 rfl mk_X2_succeeds mi_X2_succeeds ml_X2_65 rfl rfl rfl rfl rfl (Nat.le_of_ble_eq_true rfl) (by decide) (by decide) (by decide) rfl rfl (fun r w1 hpost => ?_)
            obtain ⟨wc2, rfl, hwc2, rfl⟩ := hpost
            obtain ⟨se8, sn8, be8, so8, lo8, he8, inn8, al8, go8, ro8, cr8, gn8, gu8, g8, hg8, rfl⟩ := hwc2
            have hwc2 : AnyH E a b3 (wH E a b3 se8 sn8 be8 so8 lo8 he8 inn8 al8 go8 ro8 cr8 gn8 gu8 (nI g8)) := ⟨_, _, _, _, _, _, _, _, _, _, _, _, _, _, hg8, rfl⟩
            refine mr_w (wput_all _ _ 21 rfl rfl) ?_
            refine mr_ifeq C 93 79 dX2_findHired_76 (by decide) rfl (fun c_76 => ?_) (fun c_76 => ?_)
            · rw [bP_eq] at c_76
              refine mr_iinc C (nI (k + 1)) 96 dX2_findHired_93 rfl rfl (by decide) (nI_add k 1) ?_
              refine mr_goto C 31 dX2_findHired_96 (by decide) ?_
              refine mr_at (ihk (by omega) _ hwc2 ?_) rfl rfl rfl
              intro d hd h
              by_cases e : d = 6 * i + k
              · rw [e] at h
                unfold hirP at h; rw [show (6 * i + k) % 6 = k by omega, show (6 * i + k) / 6 = i by omega] at h
                exact c_76 h.2.2.2
              · exact hfk d (by omega) h
            · rw [← Ne, bP_ne] at c_76
              refine mr_aload_n C 80 dX2_findHired_79 rfl rfl ?_
              refine mr_iload C 82 dX2_findHired_80 rfl rfl ?_
              refine mr_put C 0 85 dX2_findHired_82 rfl fs_X2_69 rfl rfl rfl (Nat.le_of_ble_eq_true rfl) ?_
              refine mr_aload_n C 86 dX2_findHired_85 rfl rfl ?_
              refine mr_iload C 88 dX2_findHired_86 rfl rfl ?_
              refine mr_put C 0 91 dX2_findHired_88 rfl fs_X2_72 rfl rfl rfl (Nat.le_of_ble_eq_true rfl) ?_
              refine mr_iconst C (nI 1) 92 dX2_findHired_91 rfl rfl ?_
              refine mr_iret C dX2_findHired_92 rfl rfl (by decide) (by decide) hlen ?_
              rw [hO]
              have e9 : fstN (fun d => hirP R K m sn so he G be l r0 em (d)) 366 0 = 6 * i + k := fstN_hit 366 0 (6 * i + k) (by omega) (by omega) (fun j _ h => hfk j h) (by
                show hirP R K m sn so he G be l r0 em (6 * i + k)
                unfold hirP; rw [show (6 * i + k) % 6 = k by omega, show (6 * i + k) / 6 = i by omega]; exact ⟨by omega, hk0 (by omega), NB, c_76⟩)
              exact ⟨_, _, _, congrArg (fun z => some (Value.int z)) (bP_t (by rw [e9]; omega)), hwc2, fun d hd _ => by rw [e9] at hd; subst hd; rw [show (6 * i + k) % 6 = k by omega, show (6 * i + k) / 6 = i by omega]; exact ⟨rfl, rfl⟩, rfl⟩
          · rw [nI_eq (by omega) (by omega)] at c_50
            refine mr_iconst C (nI 1) 54 dX2_findHired_53 rfl rfl ?_
            refine mr_goto C 58 dX2_findHired_54 (by decide) ?_
            refine mr_istore C 60 dX2_findHired_58 rfl (by decide) ?_
            refine mr_iload C 62 dX2_findHired_60 rfl rfl ?_
            refine mr_ifne C 93 65 dX2_findHired_62 (by decide) rfl (fun _ => ?_) (fun c_ => absurd c_ (by decide))
            refine mr_iinc C (nI (k + 1)) 96 dX2_findHired_93 rfl rfl (by decide) (nI_add k 1) ?_
            refine mr_goto C 31 dX2_findHired_96 (by decide) ?_
            refine mr_at (ihk (by omega) _ hwc ?_) rfl rfl rfl
            intro d hd h
            by_cases e : d = 6 * i + k
            · rw [e] at h
              unfold hirP at h; rw [show (6 * i + k) % 6 = k by omega, show (6 * i + k) / 6 = i by omega] at h
              exact h.2.2.1 ⟨c_39, c_44, c_50⟩
            · exact hfk d (by omega) h
  have L : ∀ i, i ≤ 61 → ∀ wc : va_W, AnyH E a b3 wc → (∀ d, d < 6 * i → ¬ hirP R K m sn so he G be l r0 em (d)) → V E mX2_findHired (5, 0, 0) Z 0 0 (wF E a b b2 b3 b4 hh hr wy ++ (wH E a b2 se sn be so lo he inn al go (nI R) (nI K) (nI G) gu gr ++ wc)) [(0, .ref (a b)), (1, .int (nI r0)), (2, .int (nI m)), (3, .int (nI em)), (4, .int (nI i))] [] 3 := by
    refine lp_up 61 ?_
    intro i hi ih wc hwc hf
    refine mr_iload C 5 dX2_findHired_3 rfl rfl ?_
    refine mr_bipush C (nI 60) 7 dX2_findHired_5 rfl rfl ?_
    refine mr_icmpgt C 105 10 dX2_findHired_7 (by decide) rfl (fun c_7 => ?_) (fun c_7 => ?_)
    · rw [nI_ltI (by omega) (by omega)] at c_7
      obtain ⟨se9, sn9, be9, so9, lo9, he9, inn9, al9, go9, ro9, cr9, gn9, gu9, g9, hg9, rfl⟩ := hwc
      have hwc : AnyH E a b3 (wH E a b3 se9 sn9 be9 so9 lo9 he9 inn9 al9 go9 ro9 cr9 gn9 gu9 (nI g9)) := ⟨_, _, _, _, _, _, _, _, _, _, _, _, _, _, hg9, rfl⟩
      refine mr_iconst C (nI 0) 106 dX2_findHired_105 rfl rfl ?_
      refine mr_iret C dX2_findHired_106 rfl rfl (by decide) (by decide) hlen ?_
      rw [hO]
      obtain rfl : i = 61 := by omega
      have e9 : fstN (fun d => hirP R K m sn so he G be l r0 em (d)) 366 0 = 366 := fstN_miss 366 0 (fun j _ h => hf j (by omega))
      exact ⟨_, _, _, congrArg (fun z => some (Value.int z)) (bP_f (by rw [e9]; omega)), hwc, fun d hd h => absurd (hd.symm.trans e9) (by omega), rfl⟩
    · rw [nI_ltI (by omega) (by omega)] at c_7
      refine mr_iload C 12 dX2_findHired_10 rfl rfl ?_
      refine mr_ifne C 19 15 dX2_findHired_12 (by decide) rfl (fun c_12 => ?_) (fun c_12 => ?_)
      · have c_12 : ¬ i = 0 := fun h => c_12 (congrArg nI h)
        refine mr_aload_n C 20 dX2_findHired_19 rfl rfl ?_
        refine mr_get C 0 23 dX2_findHired_20 rfl fl_X2_25 rfl rfl ?_
        refine mr_get C 1 26 dX2_findHired_23 rfl fl_X2_61 rfl rfl ?_
        refine mr_istore C 28 dX2_findHired_26 rfl (by decide) ?_
        refine mr_iconst C (nI 0) 29 dX2_findHired_28 rfl rfl ?_
        refine mr_istore C 31 dX2_findHired_29 rfl (by decide) ?_
        refine mr_at (IN R i (by omega) (by unfold lmS; rw [if_neg c_12]) wc (fun wc hwc hf2 => ?_) 0 (Nat.zero_le _) wc hwc (fun d hd => hf d (by omega))) rfl rfl rfl
        refine mr_iinc C (nI (i + 1)) 102 dX2_findHired_99 rfl rfl (by decide) (nI_add i 1) ?_
        refine mr_goto C 3 dX2_findHired_102 (by decide) ?_
        exact mr_at (ih (by omega) wc hwc hf2) rfl rfl rfl
      · have c_12 : i = 0 := (nI_eq (b := 0) (by omega) (by omega)).mp c_12
        refine mr_iconst C (nI 1) 16 dX2_findHired_15 rfl rfl ?_
        refine mr_goto C 26 dX2_findHired_16 (by decide) ?_
        refine mr_istore C 28 dX2_findHired_26 rfl (by decide) ?_
        refine mr_iconst C (nI 0) 29 dX2_findHired_28 rfl rfl ?_
        refine mr_istore C 31 dX2_findHired_29 rfl (by decide) ?_
        refine mr_at (IN 1 i (by omega) (by unfold lmS; rw [if_pos c_12]) wc (fun wc hwc hf2 => ?_) 0 (Nat.zero_le _) wc hwc (fun d hd => hf d (by omega))) rfl rfl rfl
        refine mr_iinc C (nI (i + 1)) 102 dX2_findHired_99 rfl rfl (by decide) (nI_add i 1) ?_
        refine mr_goto C 3 dX2_findHired_102 (by decide) ?_
        exact mr_at (ih (by omega) wc hwc hf2) rfl rfl rfl
  refine mr_iconst C (nI 0) 1 dX2_findHired_0 rfl rfl ?_
  refine mr_istore C 3 dX2_findHired_1 rfl (by decide) ?_
  exact mr_at (L 0 (Nat.zero_le _) _ ⟨_, _, _, _, _, _, _, _, _, _, _, _, _, _, hg, rfl⟩ (fun d h => absurd h (by omega))) rfl rfl rfl

