/-! House: a bell, a copy -/
theorem mr_w {E : EG} {M : MD} {q : RQ} {Z : ZX} {k n pc : Nat} {ws ws' : va_W} {ls : List (Nat × Value)} {st : List Value} (h : ws = ws') (kk : V E M q Z k n ws' ls st pc) : V E M q Z k n ws ls st pc := h ▸ kk
set_option maxRecDepth 20000 in
set_option maxHeartbeats 4000000 in
theorem c_ring (E : EG) (a : Nat → Nat) (b : Nat) (se sn be so lo he inn al go : FN) (gu : Int32) (R K G g : Nat) (l : Nat → Nat) (hR : R ≤ 6) (hK : K ≤ 5) (hG : G < 2 ^ 30) (hg : g < 6) (hlo : ∀ c, c < K → lo c = nI (l c) ∧ l c < 6) : Ctr E mX3_ring (2, 0, 0) [.ref (a b)] (wH E a b se sn be so lo he inn al go (nI R) (nI K) (nI G) gu (nI g)) (fun v w => ∃ be1 lo1 f1 f2 h : FN, v = some (.int (wentS l (goS gu g R K G sn be so l he) K)) ∧ w = wH E a b se sn be1 so lo1 he f1 f2 h (nI R) (nI K) (nI (G + 1)) gu (nI g) ∧ Ag 6 be1 (cntS (gst gu g) l he K) ∧ ∀ c, c < K → lo1 c = nI (goS gu g R K G sn be so l he c)) := by
  refine Ctr.of (by decide) (Nat.le_of_ble_eq_true rfl) ?_
  intro Z hO hn C
  have hlen : zn Z ≤ 10 := by rw [hn]; exact Nat.le_of_ble_eq_true rfl
  have L2 : ∀ f1 f2 h : FN, Ag 6 f1 (cntS (gst gu g) l he K) → (∀ c, c < K → h c = nI (goS gu g R K G sn be so l he c)) → ∀ i, i ≤ K → ∀ f : FN, (∀ j, j < K → f j = if j < i then nI (goS gu g R K G sn be so l he j) else nI (l j)) → V E mX3_ring (2, 0, 0) Z 0 0 (wH E a b se sn (va_cpy f1 be 0 0 6) so f he f1 f2 h (nI R) (nI K) (nI (G + 1)) gu (nI g)) [(0, .ref (a b)), (1, .int (wentS l (goS gu g R K G sn be so l he) i)), (2, .int (nI i))] [] 60 := by
    intro f1 f2 h hf1 hh
    refine lp_up K ?_
    intro i hi ih f hf
    refine mr_iload_n C 61 dX3_ring_60 rfl rfl ?_
    refine mr_aload_n C 62 dX3_ring_61 rfl rfl ?_
    refine mr_get C 0 65 dX3_ring_62 rfl fl_X3_43 rfl rfl ?_
    refine mr_icmpge C 107 68 dX3_ring_65 (by decide) rfl (fun c_65 => ?_) (fun c_65 => ?_)
    · rw [nI_leI (by omega) (by omega)] at c_65
      refine mr_iload_n C 108 dX3_ring_107 rfl rfl ?_
      refine mr_iret C dX3_ring_108 rfl rfl (by decide) (by decide) hlen ?_
      rw [hO]
      obtain rfl : i = K := by omega
      exact ⟨_, f, f1, f2, h, rfl, rfl, fun r hr => (cpy_ag f1 be 6 r hr).trans (hf1 r hr), fun c hc => by rw [hf c hc, if_pos hc]⟩
    · rw [nI_leI (by omega) (by omega)] at c_65
      refine mr_aload_n C 69 dX3_ring_68 rfl rfl ?_
      refine mr_get C 0 72 dX3_ring_69 rfl fl_X3_36 rfl rfl ?_
      refine mr_iload_n C 73 dX3_ring_72 rfl rfl ?_
      refine mr_iald C 9 i 74 dX3_ring_73 rfl rfl rfl (by omega) (by decide) ?_
      refine mr_aload_n C 75 dX3_ring_74 rfl rfl ?_
      refine mr_get C 0 78 dX3_ring_75 rfl fl_X3_24 rfl rfl ?_
      refine mr_iload_n C 79 dX3_ring_78 rfl rfl ?_
      refine mr_iald C 5 i 80 dX3_ring_79 rfl rfl rfl (by omega) (by decide) ?_
      refine mr_icmpeq C 101 83 dX3_ring_80 (by decide) rfl (fun c_80 => ?_) (fun c_80 => ?_)
      · rw [hh i (by omega), hf i (by omega), if_neg (Nat.lt_irrefl i), nI_eq (Nat.lt_trans (goS_lt (hlo i (by omega)).2 hR) (by decide)) (Nat.lt_trans (hlo i (by omega)).2 (by decide))] at c_80
        have e : wentS l (goS gu g R K G sn be so l he) (i + 1) = wentS l (goS gu g R K G sn be so l he) i := if_pos c_80
        rw [e] at ih
        refine mr_iinc C (nI (i + 1)) 104 dX3_ring_101 rfl rfl (by decide) (nI_add i 1) ?_
        refine mr_goto C 60 dX3_ring_104 (by decide) ?_
        refine mr_at (ih (by omega) _ ?_) rfl rfl rfl
        intro j hj
        rw [hf j hj]
        by_cases e : j = i
        · subst e; rw [if_neg (by omega), if_pos (by omega), c_80]
        · by_cases e2 : j < i
          · rw [if_pos e2, if_pos (by omega)]
          · rw [if_neg e2, if_neg (by omega)]
      · rw [hh i (by omega), hf i (by omega), if_neg (Nat.lt_irrefl i), nI_eq (Nat.lt_trans (goS_lt (hlo i (by omega)).2 hR) (by decide)) (Nat.lt_trans (hlo i (by omega)).2 (by decide))] at c_80
        have e : wentS l (goS gu g R K G sn be so l he) (i + 1) = wentS l (goS gu g R K G sn be so l he) i ||| (nI 1 <<< (nI i &&& 31)) := if_neg c_80
        rw [e] at ih
        refine mr_iload_n C 84 dX3_ring_83 rfl rfl ?_
        refine mr_iconst C (nI 1) 85 dX3_ring_84 rfl rfl ?_
        refine mr_iload_n C 86 dX3_ring_85 rfl rfl ?_
        refine mr_ishl C _ 87 dX3_ring_86 rfl rfl ?_
        refine mr_ior C _ 88 dX3_ring_87 rfl rfl ?_
        refine mr_istore_n C 89 dX3_ring_88 rfl rfl (by decide) ?_
        refine mr_aload_n C 90 dX3_ring_89 rfl rfl ?_
        refine mr_get C 0 93 dX3_ring_90 rfl fl_X3_24 rfl rfl ?_
        refine mr_iload_n C 94 dX3_ring_93 rfl rfl ?_
        refine mr_aload_n C 95 dX3_ring_94 rfl rfl ?_
        refine mr_get C 0 98 dX3_ring_95 rfl fl_X3_36 rfl rfl ?_
        refine mr_iload_n C 99 dX3_ring_98 rfl rfl ?_
        refine mr_iald C 9 i 100 dX3_ring_99 rfl rfl rfl (by omega) (by decide) ?_
        refine mr_iast C 5 i 101 dX3_ring_100 rfl rfl rfl (by omega) (by decide) ?_
        refine mr_iinc C (nI (i + 1)) 104 dX3_ring_101 rfl rfl (by decide) (nI_add i 1) ?_
        refine mr_goto C 60 dX3_ring_104 (by decide) ?_
        refine mr_at (ih (by omega) _ ?_) rfl rfl rfl
        intro j hj
        rw [up_at]
        by_cases e : j = i
        · rw [if_pos e, if_pos (by omega), hh i (by omega), e]
        · rw [if_neg e, hf j hj]
          by_cases e2 : j < i
          · rw [if_pos e2, if_pos (by omega)]
          · rw [if_neg e2, if_neg (by omega)]
  have L1 : ∀ f1 f2 : FN, Ag 6 f1 (cntS (gst gu g) l he K) → Ag 6 f2 (cntS (fun _ => nI 0) l (hLike so he) K) → ∀ i, i ≤ K → ∀ h : FN, (∀ j, j < i → h j = nI (goS gu g R K G sn be so l he j)) → V E mX3_ring (2, 0, 0) Z 0 0 (wH E a b se sn be so lo he f1 f2 h (nI R) (nI K) (nI G) gu (nI g)) [(0, .ref (a b)), (1, .int (nI i))] [] 6 := by
    intro f1 f2 hf1 hf2
    refine lp_up K ?_
    intro i hi ih h hh
    refine mr_iload_n C 7 dX3_ring_6 rfl rfl ?_
    refine mr_aload_n C 8 dX3_ring_7 rfl rfl ?_
    refine mr_get C 0 11 dX3_ring_8 rfl fl_X3_43 rfl rfl ?_
    refine mr_icmpge C 31 14 dX3_ring_11 (by decide) rfl (fun c_11 => ?_) (fun c_11 => ?_)
    · rw [nI_leI (by omega) (by omega)] at c_11
      refine mr_aload_n C 32 dX3_ring_31 rfl rfl ?_
      refine mr_get C 0 35 dX3_ring_32 rfl fl_X3_30 rfl rfl ?_
      refine mr_iconst C (nI 0) 36 dX3_ring_35 rfl rfl ?_
      refine mr_aload_n C 37 dX3_ring_36 rfl rfl ?_
      refine mr_get C 0 40 dX3_ring_37 rfl fl_X3_18 rfl rfl ?_
      refine mr_iconst C (nI 0) 41 dX3_ring_40 rfl rfl ?_
      refine mr_bipush C (nI 6) 43 dX3_ring_41 rfl rfl ?_
      refine mr_copy C 7 3 0 0 6 46 dX3_ring_43 rfl ml_X3_52 rfl rfl rfl rfl rfl (by omega) (by omega) (by decide) (by decide) (Nat.le_of_ble_eq_true rfl) (by decide) ?_
      refine mr_aload_n C 47 dX3_ring_46 rfl rfl ?_
      refine mr_dup C 48 dX3_ring_47 rfl rfl ?_
      refine mr_get C 0 51 dX3_ring_48 rfl fl_X3_46 rfl rfl ?_
      refine mr_iconst C (nI 1) 52 dX3_ring_51 rfl rfl ?_
      refine mr_iadd C (nI (G + 1)) 53 dX3_ring_52 rfl (nI_add _ _) ?_
      refine mr_put C 0 56 dX3_ring_53 rfl fs_X3_46 rfl rfl rfl (Nat.le_of_ble_eq_true rfl) ?_
      refine mr_iconst C (nI 0) 57 dX3_ring_56 rfl rfl ?_
      refine mr_istore_n C 58 dX3_ring_57 rfl rfl (by decide) ?_
      refine mr_iconst C (nI 0) 59 dX3_ring_58 rfl rfl ?_
      refine mr_istore_n C 60 dX3_ring_59 rfl rfl (by decide) ?_
      obtain rfl : i = K := by omega
      refine mr_at (L2 f1 f2 h hf1 hh 0 (Nat.zero_le _) lo ?_) rfl rfl rfl
      intro j hj
      rw [if_neg (Nat.not_lt_zero j)]; exact (hlo j hj).1
    · rw [nI_leI (by omega) (by omega)] at c_11
      refine mr_aload_n C 15 dX3_ring_14 rfl rfl ?_
      refine mr_get C 0 18 dX3_ring_15 rfl fl_X3_36 rfl rfl ?_
      refine mr_iload_n C 19 dX3_ring_18 rfl rfl ?_
      refine mr_aload_n C 20 dX3_ring_19 rfl rfl ?_
      refine mr_iload_n C 21 dX3_ring_20 rfl rfl ?_
      refine mr_callV C (c_goalOf E a b se sn be so lo he f1 f2 h (nI K) gu (nI g) R G i (l i) hR hG (by omega) (hlo i (by omega)).2 (hlo i (by omega)).1) [0, 1, 2, 3, 4, 5, 6, 7, 8, 9] 0 3 24 dX3_ring_21 rfl mk_X3_goalOf mi_X3_goalOf ml_X3_64 rfl rfl rfl rfl rfl (Nat.le_of_ble_eq_true rfl) (by decide) (by decide) (by decide) rfl rfl (fun r w1 hpost => ?_)
      obtain ⟨rfl, rfl⟩ := hpost
      refine mr_w (ws' := wH E a b se sn be so lo he f1 f2 h (nI R) (nI K) (nI G) gu (nI g)) rfl ?_
      rw [goS_of hf1 hf2 (hlo i (by omega)).2 hR]
      refine mr_iast C 9 i 25 dX3_ring_24 rfl rfl rfl (by omega) (by decide) ?_
      refine mr_iinc C (nI (i + 1)) 28 dX3_ring_25 rfl rfl (by decide) (nI_add i 1) ?_
      refine mr_goto C 6 dX3_ring_28 (by decide) ?_
      refine mr_at (ih (by omega) _ ?_) rfl rfl rfl
      intro j hj
      rw [up_at]
      by_cases e : j = i
      · rw [if_pos e, e]
      · rw [if_neg e]; exact hh j (by omega)
  refine mr_aload_n C 1 dX3_ring_0 rfl rfl ?_
  refine mr_callV C (c_countHeads E a b se sn be so lo he inn al go (nI R) (nI G) gu K g l hK hg hlo) [0, 1, 2, 3, 4, 5, 6, 7, 8, 9] 0 3 4 dX3_ring_1 rfl mk_X3_countHeads mi_X3_countHeads ml_X3_61 rfl rfl rfl rfl rfl (Nat.le_of_ble_eq_true rfl) (by decide) (by decide) (by decide) rfl rfl (fun r w1 hpost => ?_)
  obtain ⟨f1, f2, rfl, rfl, hf1, hf2⟩ := hpost
  refine mr_w (ws' := wH E a b se sn be so lo he f1 f2 go (nI R) (nI K) (nI G) gu (nI g)) rfl ?_
  refine mr_iconst C (nI 0) 5 dX3_ring_4 rfl rfl ?_
  refine mr_istore_n C 6 dX3_ring_5 rfl rfl (by decide) ?_
  exact mr_at (L1 f1 f2 hf1 hf2 0 (Nat.zero_le _) go (fun j h => absurd h (Nat.not_lt_zero j))) rfl rfl rfl

set_option maxRecDepth 20000 in
set_option maxHeartbeats 4000000 in
theorem c_take (E : EG) (a : Nat → Nat) (b b2 : Nat) (se sn be so lo he inn al go se2 sn2 be2 so2 lo2 he2 inn2 al2 go2 : FN) (ro cr gn gu gr ro2 cr2 gn2 gu2 gr2 : Int32) : Ctr E mX3_take (2, 0, 0) [.ref (a b), .ref (a b2)] (wH E a b se sn be so lo he inn al go ro cr gn gu gr ++ wH E a b2 se2 sn2 be2 so2 lo2 he2 inn2 al2 go2 ro2 cr2 gn2 gu2 gr2) (fun v w => ∃ f1 f2 f3 f4 f5 f6 : FN, v = none ∧ w = wH E a b f1 f2 f3 f4 f5 f6 inn al go ro2 cr2 gn2 (nI 0) gr ++ wH E a b2 se2 sn2 be2 so2 lo2 he2 inn2 al2 go2 ro2 cr2 gn2 gu2 gr2 ∧ Ag 6 f1 se2 ∧ Ag 6 f2 sn2 ∧ Ag 6 f3 be2 ∧ Ag 5 f4 so2 ∧ Ag 5 f5 lo2 ∧ Ag 5 f6 he2) := by
  refine Ctr.of (by decide) (Nat.le_of_ble_eq_true rfl) ?_
  intro Z hO hn C
  have hlen : zn Z ≤ 20 := by rw [hn]; exact Nat.le_of_ble_eq_true rfl
  refine mr_aload_n C 1 dX3_take_0 rfl rfl ?_
  refine mr_aload_n C 2 dX3_take_1 rfl rfl ?_
  refine mr_get C 10 5 dX3_take_2 rfl fl_X3_39 rfl rfl ?_
  refine mr_put C 0 8 dX3_take_5 rfl fs_X3_39 rfl rfl rfl (Nat.le_of_ble_eq_true rfl) ?_
  refine mr_aload_n C 9 dX3_take_8 rfl rfl ?_
  refine mr_aload_n C 10 dX3_take_9 rfl rfl ?_
  refine mr_get C 10 13 dX3_take_10 rfl fl_X3_43 rfl rfl ?_
  refine mr_put C 0 16 dX3_take_13 rfl fs_X3_43 rfl rfl rfl (Nat.le_of_ble_eq_true rfl) ?_
  refine mr_aload_n C 17 dX3_take_16 rfl rfl ?_
  refine mr_aload_n C 18 dX3_take_17 rfl rfl ?_
  refine mr_get C 10 21 dX3_take_18 rfl fl_X3_46 rfl rfl ?_
  refine mr_put C 0 24 dX3_take_21 rfl fs_X3_46 rfl rfl rfl (Nat.le_of_ble_eq_true rfl) ?_
  refine mr_aload_n C 25 dX3_take_24 rfl rfl ?_
  refine mr_iconst C (nI 0) 26 dX3_take_25 rfl rfl ?_
  refine mr_put C 0 29 dX3_take_26 rfl fs_X3_49 rfl rfl rfl (Nat.le_of_ble_eq_true rfl) ?_
  refine mr_aload_n C 30 dX3_take_29 rfl rfl ?_
  refine mr_get C 10 33 dX3_take_30 rfl fl_X3_9 rfl rfl ?_
  refine mr_iconst C (nI 0) 34 dX3_take_33 rfl rfl ?_
  refine mr_aload_n C 35 dX3_take_34 rfl rfl ?_
  refine mr_get C 0 38 dX3_take_35 rfl fl_X3_9 rfl rfl ?_
  refine mr_iconst C (nI 0) 39 dX3_take_38 rfl rfl ?_
  refine mr_bipush C (nI 6) 41 dX3_take_39 rfl rfl ?_
  refine mr_copy C 11 1 0 0 6 44 dX3_take_41 rfl ml_X3_52 rfl rfl rfl rfl rfl (by omega) (by omega) (by decide) (by decide) (Nat.le_of_ble_eq_true rfl) (by decide) ?_
  refine mr_aload_n C 45 dX3_take_44 rfl rfl ?_
  refine mr_get C 10 48 dX3_take_45 rfl fl_X3_15 rfl rfl ?_
  refine mr_iconst C (nI 0) 49 dX3_take_48 rfl rfl ?_
  refine mr_aload_n C 50 dX3_take_49 rfl rfl ?_
  refine mr_get C 0 53 dX3_take_50 rfl fl_X3_15 rfl rfl ?_
  refine mr_iconst C (nI 0) 54 dX3_take_53 rfl rfl ?_
  refine mr_bipush C (nI 6) 56 dX3_take_54 rfl rfl ?_
  refine mr_copy C 12 2 0 0 6 59 dX3_take_56 rfl ml_X3_52 rfl rfl rfl rfl rfl (by omega) (by omega) (by decide) (by decide) (Nat.le_of_ble_eq_true rfl) (by decide) ?_
  refine mr_aload_n C 60 dX3_take_59 rfl rfl ?_
  refine mr_get C 10 63 dX3_take_60 rfl fl_X3_18 rfl rfl ?_
  refine mr_iconst C (nI 0) 64 dX3_take_63 rfl rfl ?_
  refine mr_aload_n C 65 dX3_take_64 rfl rfl ?_
  refine mr_get C 0 68 dX3_take_65 rfl fl_X3_18 rfl rfl ?_
  refine mr_iconst C (nI 0) 69 dX3_take_68 rfl rfl ?_
  refine mr_bipush C (nI 6) 71 dX3_take_69 rfl rfl ?_
  refine mr_copy C 13 3 0 0 6 74 dX3_take_71 rfl ml_X3_52 rfl rfl rfl rfl rfl (by omega) (by omega) (by decide) (by decide) (Nat.le_of_ble_eq_true rfl) (by decide) ?_
  refine mr_aload_n C 75 dX3_take_74 rfl rfl ?_
  refine mr_get C 10 78 dX3_take_75 rfl fl_X3_21 rfl rfl ?_
  refine mr_iconst C (nI 0) 79 dX3_take_78 rfl rfl ?_
  refine mr_aload_n C 80 dX3_take_79 rfl rfl ?_
  refine mr_get C 0 83 dX3_take_80 rfl fl_X3_21 rfl rfl ?_
  refine mr_iconst C (nI 0) 84 dX3_take_83 rfl rfl ?_
  refine mr_iconst C (nI 5) 85 dX3_take_84 rfl rfl ?_
  refine mr_copy C 14 4 0 0 5 88 dX3_take_85 rfl ml_X3_52 rfl rfl rfl rfl rfl (by omega) (by omega) (by decide) (by decide) (Nat.le_of_ble_eq_true rfl) (by decide) ?_
  refine mr_aload_n C 89 dX3_take_88 rfl rfl ?_
  refine mr_get C 10 92 dX3_take_89 rfl fl_X3_24 rfl rfl ?_
  refine mr_iconst C (nI 0) 93 dX3_take_92 rfl rfl ?_
  refine mr_aload_n C 94 dX3_take_93 rfl rfl ?_
  refine mr_get C 0 97 dX3_take_94 rfl fl_X3_24 rfl rfl ?_
  refine mr_iconst C (nI 0) 98 dX3_take_97 rfl rfl ?_
  refine mr_iconst C (nI 5) 99 dX3_take_98 rfl rfl ?_
  refine mr_copy C 15 5 0 0 5 102 dX3_take_99 rfl ml_X3_52 rfl rfl rfl rfl rfl (by omega) (by omega) (by decide) (by decide) (Nat.le_of_ble_eq_true rfl) (by decide) ?_
  refine mr_aload_n C 103 dX3_take_102 rfl rfl ?_
  refine mr_get C 10 106 dX3_take_103 rfl fl_X3_27 rfl rfl ?_
  refine mr_iconst C (nI 0) 107 dX3_take_106 rfl rfl ?_
  refine mr_aload_n C 108 dX3_take_107 rfl rfl ?_
  refine mr_get C 0 111 dX3_take_108 rfl fl_X3_27 rfl rfl ?_
  refine mr_iconst C (nI 0) 112 dX3_take_111 rfl rfl ?_
  refine mr_iconst C (nI 5) 113 dX3_take_112 rfl rfl ?_
  refine mr_copy C 16 6 0 0 5 116 dX3_take_113 rfl ml_X3_52 rfl rfl rfl rfl rfl (by omega) (by omega) (by decide) (by decide) (Nat.le_of_ble_eq_true rfl) (by decide) ?_
  refine mr_vret C dX3_take_116 rfl (by decide) (by decide) hlen ?_
  rw [hO]
  exact ⟨_, _, _, _, _, _, rfl, rfl, cpy_ag _ _ 6, cpy_ag _ _ 6, cpy_ag _ _ 6, cpy_ag _ _ 5, cpy_ag _ _ 5, cpy_ag _ _ 5⟩

