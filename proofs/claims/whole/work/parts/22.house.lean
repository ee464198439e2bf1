/-! House: more methods -/
def adH (he : FN) (x : Int32) : FN := fun c => he c + ((x >>> (nI c &&& 31)) &&& nI 1)
set_option maxRecDepth 20000 in
set_option maxHeartbeats 4000000 in
theorem c_addHeads (E : EG) (a : Nat → Nat) (b : Nat) (se sn be so lo he inn al go : FN) (ro gn gu gr : Int32) (K : Nat) (hK : K ≤ 5) (x : Int32) : Ctr E mX3_addHeads (1, 0, 0) [.ref (a b), .int x] (wH E a b se sn be so lo he inn al go ro (nI K) gn gu gr) (fun v w => ∃ f : FN, v = none ∧ w = wH E a b se sn be so lo f inn al go ro (nI K) gn gu gr ∧ ∀ j, j < K → f j = adH he x j) := by
  refine Ctr.of (by decide) (Nat.le_of_ble_eq_true rfl) ?_
  intro Z hO hn C
  have hlen : zn Z ≤ 10 := by rw [hn]; exact Nat.le_of_ble_eq_true rfl
  have L : ∀ i, i ≤ K → ∀ f : FN, (∀ j, j < 5 → f j = if j < i then adH he x j else he j) → V E mX3_addHeads (1, 0, 0) Z 0 0 (wH E a b se sn be so lo f inn al go ro (nI K) gn gu gr) [(0, .ref (a b)), (1, .int x), (2, .int (nI i))] [] 2 := by
    refine lp_up K ?_
    intro i hi ih f hf
    refine mr_iload_n C 3 dX3_addHeads_2 rfl rfl ?_
    refine mr_aload_n C 4 dX3_addHeads_3 rfl rfl ?_
    refine mr_get C 0 7 dX3_addHeads_4 rfl fl_X3_43 rfl rfl ?_
    refine mr_icmpge C 30 10 dX3_addHeads_7 (by decide) rfl (fun c_7 => ?_) (fun c_7 => ?_)
    · rw [nI_leI (by omega) (by omega)] at c_7
      refine mr_vret C dX3_addHeads_30 rfl (by decide) (by decide) hlen ?_
      rw [hO]
      obtain rfl : i = K := by omega
      exact ⟨f, rfl, rfl, fun j hj => by rw [hf j (by omega), if_pos hj]⟩
    · rw [nI_leI (by omega) (by omega)] at c_7
      refine mr_aload_n C 11 dX3_addHeads_10 rfl rfl ?_
      refine mr_get C 0 14 dX3_addHeads_11 rfl fl_X3_27 rfl rfl ?_
      refine mr_iload_n C 15 dX3_addHeads_14 rfl rfl ?_
      refine mr_dup2 C 16 dX3_addHeads_15 rfl rfl rfl ?_
      refine mr_iald C 6 i 17 dX3_addHeads_16 rfl rfl rfl (by omega) (by decide) ?_
      refine mr_iload_n C 18 dX3_addHeads_17 rfl rfl ?_
      refine mr_iload_n C 19 dX3_addHeads_18 rfl rfl ?_
      refine mr_ishr C _ 20 dX3_addHeads_19 rfl rfl ?_
      refine mr_iconst C (nI 1) 21 dX3_addHeads_20 rfl rfl ?_
      refine mr_iand C _ 22 dX3_addHeads_21 rfl rfl ?_
      refine mr_iadd C _ 23 dX3_addHeads_22 rfl rfl ?_
      refine mr_iast C 6 i 24 dX3_addHeads_23 rfl rfl rfl (by omega) (by decide) ?_
      refine mr_iinc C (nI (i + 1)) 27 dX3_addHeads_24 rfl rfl (by decide) (nI_add i 1) ?_
      refine mr_goto C 2 dX3_addHeads_27 (by decide) ?_
      refine mr_at (ih (by omega) _ ?_) rfl rfl rfl
      intro j hj
      rw [up_at, hf i (by omega), if_neg (by omega : ¬ i < i)]
      by_cases e : j = i
      · subst e
        rw [if_pos rfl, if_pos (by omega)]
        rfl
      · rw [if_neg e, hf j hj]
        by_cases e2 : j < i
        · rw [if_pos e2, if_pos (by omega)]
        · rw [if_neg e2, if_neg (by omega)]
  refine mr_iconst C (nI 0) 1 dX3_addHeads_0 rfl rfl ?_
  refine mr_istore_n C 2 dX3_addHeads_1 rfl rfl (by decide) ?_
  exact mr_at (L 0 (Nat.zero_le _) he (fun j _ => rfl)) rfl rfl rfl

set_option maxRecDepth 20000 in
set_option maxHeartbeats 4000000 in
theorem c_hire (E : EG) (a : Nat → Nat) (b : Nat) (se sn be so lo he inn al go : FN) (ro cr gn gu gr : Int32) (x : Int32) (g : Nat) (hg : g < 6) : Ctr E mX3_hire (1, 0, 0) [.ref (a b), .int x, .int (nI g)] (wH E a b se sn be so lo he inn al go ro cr gn gu gr) (fun v w => v = none ∧ w = wH E a b se sn (upd be g (be g + x)) so lo he inn al go ro cr gn x (nI g)) := by
  refine Ctr.of (by decide) (Nat.le_of_ble_eq_true rfl) ?_
  intro Z hO hn C
  have hlen : zn Z ≤ 10 := by rw [hn]; exact Nat.le_of_ble_eq_true rfl
  refine mr_aload_n C 1 dX3_hire_0 rfl rfl ?_
  refine mr_iload_n C 2 dX3_hire_1 rfl rfl ?_
  refine mr_put C 0 5 dX3_hire_2 rfl fs_X3_49 rfl rfl rfl (Nat.le_of_ble_eq_true rfl) ?_
  refine mr_aload_n C 6 dX3_hire_5 rfl rfl ?_
  refine mr_iload_n C 7 dX3_hire_6 rfl rfl ?_
  refine mr_put C 0 10 dX3_hire_7 rfl fs_X3_58 rfl rfl rfl (Nat.le_of_ble_eq_true rfl) ?_
  refine mr_aload_n C 11 dX3_hire_10 rfl rfl ?_
  refine mr_get C 0 14 dX3_hire_11 rfl fl_X3_18 rfl rfl ?_
  refine mr_iload_n C 15 dX3_hire_14 rfl rfl ?_
  refine mr_dup2 C 16 dX3_hire_15 rfl rfl rfl ?_
  refine mr_iald C 3 g 17 dX3_hire_16 rfl rfl rfl (by omega) (by decide) ?_
  refine mr_iload_n C 18 dX3_hire_17 rfl rfl ?_
  refine mr_iadd C _ 19 dX3_hire_18 rfl rfl ?_
  refine mr_iast C 3 g 20 dX3_hire_19 rfl rfl rfl (by omega) (by decide) ?_
  refine mr_vret C dX3_hire_20 rfl (by decide) (by decide) hlen ?_
  rw [hO]
  exact ⟨rfl, rfl⟩

set_option maxRecDepth 20000 in
set_option maxHeartbeats 4000000 in
theorem c_clear (E : EG) (a : Nat → Nat) (b : Nat) (se sn be so lo he inn al go : FN) (ro cr gn gu gr : Int32) : Ctr E mX3_clear (1, 0, 0) [.ref (a b)] (wH E a b se sn be so lo he inn al go ro cr gn gu gr) (fun v w => ∃ f : FN, v = none ∧ w = wH E a b se f be so lo he inn al go (nI 0) (nI 0) gn gu gr ∧ ∀ j, j < 6 → f j = nI 0) := by
  refine Ctr.of (by decide) (Nat.le_of_ble_eq_true rfl) ?_
  intro Z hO hn C
  have hlen : zn Z ≤ 10 := by rw [hn]; exact Nat.le_of_ble_eq_true rfl
  have L : ∀ i, i ≤ 6 → ∀ f : FN, (∀ j, j < i → f j = nI 0) → V E mX3_clear (1, 0, 0) Z 0 0 (wH E a b se f be so lo he inn al go (nI 0) (nI 0) gn gu gr) [(0, .ref (a b)), (1, .int (nI i))] [] 12 := by
    refine lp_up 6 ?_
    intro i hi ih f hf
    refine mr_iload_n C 13 dX3_clear_12 rfl rfl ?_
    refine mr_bipush C (nI 6) 15 dX3_clear_13 rfl rfl ?_
    refine mr_icmpge C 31 18 dX3_clear_15 (by decide) rfl (fun c_15 => ?_) (fun c_15 => ?_)
    · rw [nI_leI (by omega) (by omega)] at c_15
      refine mr_vret C dX3_clear_31 rfl (by decide) (by decide) hlen ?_
      rw [hO]
      exact ⟨f, rfl, rfl, fun j hj => hf j (by omega)⟩
    · rw [nI_leI (by omega) (by omega)] at c_15
      refine mr_aload_n C 19 dX3_clear_18 rfl rfl ?_
      refine mr_get C 0 22 dX3_clear_19 rfl fl_X3_15 rfl rfl ?_
      refine mr_iload_n C 23 dX3_clear_22 rfl rfl ?_
      refine mr_iconst C (nI 0) 24 dX3_clear_23 rfl rfl ?_
      refine mr_iast C 2 i 25 dX3_clear_24 rfl rfl rfl (by omega) (by decide) ?_
      refine mr_iinc C (nI (i + 1)) 28 dX3_clear_25 rfl rfl (by decide) (nI_add i 1) ?_
      refine mr_goto C 12 dX3_clear_28 (by decide) ?_
      refine mr_at (ih (by omega) _ ?_) rfl rfl rfl
      intro j hj
      rw [up_at]
      by_cases e : j = i
      · rw [if_pos e]
      · rw [if_neg e]; exact hf j (by omega)
  refine mr_aload_n C 1 dX3_clear_0 rfl rfl ?_
  refine mr_iconst C (nI 0) 2 dX3_clear_1 rfl rfl ?_
  refine mr_put C 0 5 dX3_clear_2 rfl fs_X3_39 rfl rfl rfl (Nat.le_of_ble_eq_true rfl) ?_
  refine mr_aload_n C 6 dX3_clear_5 rfl rfl ?_
  refine mr_iconst C (nI 0) 7 dX3_clear_6 rfl rfl ?_
  refine mr_put C 0 10 dX3_clear_7 rfl fs_X3_43 rfl rfl rfl (Nat.le_of_ble_eq_true rfl) ?_
  refine mr_iconst C (nI 0) 11 dX3_clear_10 rfl rfl ?_
  refine mr_istore_n C 12 dX3_clear_11 rfl rfl (by decide) ?_
  exact mr_at (L 0 (Nat.zero_le _) sn (fun j h => absurd h (Nat.not_lt_zero j))) rfl rfl rfl

set_option maxRecDepth 20000 in
set_option maxHeartbeats 4000000 in
theorem c_countHeads (E : EG) (a : Nat → Nat) (b : Nat) (se sn be so lo he inn al go : FN) (ro gn gu : Int32) (K g : Nat) (l : Nat → Nat) (hK : K ≤ 5) (hg : g < 6) (hlo : ∀ c, c < K → lo c = nI (l c) ∧ l c < 6) : Ctr E mX3_countHeads (1, 0, 0) [.ref (a b)] (wH E a b se sn be so lo he inn al go ro (nI K) gn gu (nI g)) (fun v w => ∃ f1 f2 : FN, v = none ∧ w = wH E a b se sn be so lo he f1 f2 go ro (nI K) gn gu (nI g) ∧ Ag 6 f1 (cntS (gst gu g) l he K) ∧ Ag 6 f2 (cntS (fun _ => nI 0) l (hLike so he) K)) := by
  refine Ctr.of (by decide) (Nat.le_of_ble_eq_true rfl) ?_
  intro Z hO hn C
  have hlen : zn Z ≤ 10 := by rw [hn]; exact Nat.le_of_ble_eq_true rfl
  have L2 : ∀ i, i ≤ K → ∀ f1 f2 : FN, Ag 6 f1 (cntS (gst gu g) l he i) → Ag 6 f2 (cntS (fun _ => nI 0) l (hLike so he) i) → V E mX3_countHeads (1, 0, 0) Z 0 0 (wH E a b se sn be so lo he f1 f2 go ro (nI K) gn gu (nI g)) [(0, .ref (a b)), (1, .int (nI i))] [] 46 := by
    refine lp_up K ?_
    intro i hi ih f1 f2 hf1 hf2
    refine mr_iload_n C 47 dX3_countHeads_46 rfl rfl ?_
    refine mr_aload_n C 48 dX3_countHeads_47 rfl rfl ?_
    refine mr_get C 0 51 dX3_countHeads_48 rfl fl_X3_43 rfl rfl ?_
    refine mr_icmpge C 110 54 dX3_countHeads_51 (by decide) rfl (fun c_51 => ?_) (fun c_51 => ?_)
    · rw [nI_leI (by omega) (by omega)] at c_51
      refine mr_vret C dX3_countHeads_110 rfl (by decide) (by decide) hlen ?_
      rw [hO]
      obtain rfl : i = K := by omega
      exact ⟨f1, f2, rfl, rfl, hf1, hf2⟩
    · rw [nI_leI (by omega) (by omega)] at c_51
      refine mr_aload_n C 55 dX3_countHeads_54 rfl rfl ?_
      refine mr_get C 0 58 dX3_countHeads_55 rfl fl_X3_30 rfl rfl ?_
      refine mr_aload_n C 59 dX3_countHeads_58 rfl rfl ?_
      refine mr_get C 0 62 dX3_countHeads_59 rfl fl_X3_24 rfl rfl ?_
      refine mr_iload_n C 63 dX3_countHeads_62 rfl rfl ?_
      refine mr_iald C 5 i 64 dX3_countHeads_63 rfl rfl rfl (by omega) (by decide) ?_
      refine mr_dup2 C 65 dX3_countHeads_64 rfl rfl rfl ?_
      refine mr_iald C 7 (l i) 66 dX3_countHeads_65 rfl rfl (hlo i (by omega)).1 (hlo i (by omega)).2 (by decide) ?_
      refine mr_aload_n C 67 dX3_countHeads_66 rfl rfl ?_
      refine mr_get C 0 70 dX3_countHeads_67 rfl fl_X3_27 rfl rfl ?_
      refine mr_iload_n C 71 dX3_countHeads_70 rfl rfl ?_
      refine mr_iald C 6 i 72 dX3_countHeads_71 rfl rfl rfl (by omega) (by decide) ?_
      refine mr_iadd C _ 73 dX3_countHeads_72 rfl rfl ?_
      refine mr_iast C 7 (l i) 74 dX3_countHeads_73 rfl rfl (hlo i (by omega)).1 (hlo i (by omega)).2 (by decide) ?_
      refine mr_aload_n C 75 dX3_countHeads_74 rfl rfl ?_
      refine mr_get C 0 78 dX3_countHeads_75 rfl fl_X3_21 rfl rfl ?_
      refine mr_iload_n C 79 dX3_countHeads_78 rfl rfl ?_
      refine mr_iald C 4 i 80 dX3_countHeads_79 rfl rfl rfl (by omega) (by decide) ?_
      refine mr_iconst C (nI 2) 81 dX3_countHeads_80 rfl rfl ?_
      refine mr_icmpne C 104 84 dX3_countHeads_81 (by decide) rfl (fun c_81 => ?_) (fun c_81 => ?_)
      · have hL : hLike so he i = 0 := if_neg c_81
        refine mr_iinc C (nI (i + 1)) 107 dX3_countHeads_104 rfl rfl (by decide) (nI_add i 1) ?_
        refine mr_goto C 46 dX3_countHeads_107 (by decide) ?_
        refine mr_at (ih (by omega) _ _ ?_ ?_) rfl rfl rfl
        · exact cntS_up hf1 rfl (hlo i (by omega)).2
        · exact cntS_0 hf2 hL
      · have hL : hLike so he i = he i := if_pos c_81
        refine mr_aload_n C 85 dX3_countHeads_84 rfl rfl ?_
        refine mr_get C 0 88 dX3_countHeads_85 rfl fl_X3_33 rfl rfl ?_
        refine mr_aload_n C 89 dX3_countHeads_88 rfl rfl ?_
        refine mr_get C 0 92 dX3_countHeads_89 rfl fl_X3_24 rfl rfl ?_
        refine mr_iload_n C 93 dX3_countHeads_92 rfl rfl ?_
        refine mr_iald C 5 i 94 dX3_countHeads_93 rfl rfl rfl (by omega) (by decide) ?_
        refine mr_dup2 C 95 dX3_countHeads_94 rfl rfl rfl ?_
        refine mr_iald C 8 (l i) 96 dX3_countHeads_95 rfl rfl (hlo i (by omega)).1 (hlo i (by omega)).2 (by decide) ?_
        refine mr_aload_n C 97 dX3_countHeads_96 rfl rfl ?_
        refine mr_get C 0 100 dX3_countHeads_97 rfl fl_X3_27 rfl rfl ?_
        refine mr_iload_n C 101 dX3_countHeads_100 rfl rfl ?_
        refine mr_iald C 6 i 102 dX3_countHeads_101 rfl rfl rfl (by omega) (by decide) ?_
        refine mr_iadd C _ 103 dX3_countHeads_102 rfl rfl ?_
        refine mr_iast C 8 (l i) 104 dX3_countHeads_103 rfl rfl (hlo i (by omega)).1 (hlo i (by omega)).2 (by decide) ?_
        refine mr_iinc C (nI (i + 1)) 107 dX3_countHeads_104 rfl rfl (by decide) (nI_add i 1) ?_
        refine mr_goto C 46 dX3_countHeads_107 (by decide) ?_
        refine mr_at (ih (by omega) _ _ ?_ ?_) rfl rfl rfl
        · exact cntS_up hf1 rfl (hlo i (by omega)).2
        · exact cntS_up hf2 (by rw [hL]) (hlo i (by omega)).2
  have L1 : ∀ i, i ≤ 6 → ∀ f1 f2 : FN, (∀ j, j < i → f1 j = nI 0 ∧ f2 j = nI 0) → V E mX3_countHeads (1, 0, 0) Z 0 0 (wH E a b se sn be so lo he f1 f2 go ro (nI K) gn gu (nI g)) [(0, .ref (a b)), (1, .int (nI i))] [] 2 := by
    refine lp_up 6 ?_
    intro i hi ih f1 f2 hf
    refine mr_iload_n C 3 dX3_countHeads_2 rfl rfl ?_
    refine mr_bipush C (nI 6) 5 dX3_countHeads_3 rfl rfl ?_
    refine mr_icmpge C 28 8 dX3_countHeads_5 (by decide) rfl (fun c_5 => ?_) (fun c_5 => ?_)
    · rw [nI_leI (by omega) (by omega)] at c_5
      refine mr_aload_n C 29 dX3_countHeads_28 rfl rfl ?_
      refine mr_get C 0 32 dX3_countHeads_29 rfl fl_X3_30 rfl rfl ?_
      refine mr_aload_n C 33 dX3_countHeads_32 rfl rfl ?_
      refine mr_get C 0 36 dX3_countHeads_33 rfl fl_X3_58 rfl rfl ?_
      refine mr_dup2 C 37 dX3_countHeads_36 rfl rfl rfl ?_
      refine mr_iald C 7 g 38 dX3_countHeads_37 rfl rfl rfl (by omega) (by decide) ?_
      refine mr_aload_n C 39 dX3_countHeads_38 rfl rfl ?_
      refine mr_get C 0 42 dX3_countHeads_39 rfl fl_X3_49 rfl rfl ?_
      refine mr_iadd C _ 43 dX3_countHeads_42 rfl rfl ?_
      refine mr_iast C 7 g 44 dX3_countHeads_43 rfl rfl rfl (by omega) (by decide) ?_
      refine mr_iconst C (nI 0) 45 dX3_countHeads_44 rfl rfl ?_
      refine mr_istore_n C 46 dX3_countHeads_45 rfl rfl (by decide) ?_
      obtain rfl : i = 6 := by omega
      refine mr_at (L2 0 (Nat.zero_le _) _ f2 ?_ (fun j hj => (hf j hj).2)) rfl rfl rfl
      intro j hj
      rw [up_at]
      show _ = gst gu g j
      unfold gst
      by_cases e : j = g
      · rw [if_pos e, if_pos e, (hf g hg).1]
        exact Int32.zero_add _
      · rw [if_neg e, if_neg e]; exact (hf j hj).1
    · rw [nI_leI (by omega) (by omega)] at c_5
      refine mr_aload_n C 9 dX3_countHeads_8 rfl rfl ?_
      refine mr_get C 0 12 dX3_countHeads_9 rfl fl_X3_30 rfl rfl ?_
      refine mr_iload_n C 13 dX3_countHeads_12 rfl rfl ?_
      refine mr_iconst C (nI 0) 14 dX3_countHeads_13 rfl rfl ?_
      refine mr_iast C 7 i 15 dX3_countHeads_14 rfl rfl rfl (by omega) (by decide) ?_
      refine mr_aload_n C 16 dX3_countHeads_15 rfl rfl ?_
      refine mr_get C 0 19 dX3_countHeads_16 rfl fl_X3_33 rfl rfl ?_
      refine mr_iload_n C 20 dX3_countHeads_19 rfl rfl ?_
      refine mr_iconst C (nI 0) 21 dX3_countHeads_20 rfl rfl ?_
      refine mr_iast C 8 i 22 dX3_countHeads_21 rfl rfl rfl (by omega) (by decide) ?_
      refine mr_iinc C (nI (i + 1)) 25 dX3_countHeads_22 rfl rfl (by decide) (nI_add i 1) ?_
      refine mr_goto C 2 dX3_countHeads_25 (by decide) ?_
      refine mr_at (ih (by omega) _ _ ?_) rfl rfl rfl
      intro j hj
      rw [up_at, up_at]
      by_cases e : j = i
      · rw [if_pos e, if_pos e]; exact ⟨rfl, rfl⟩
      · rw [if_neg e, if_neg e]; exact hf j (by omega)
  refine mr_iconst C (nI 0) 1 dX3_countHeads_0 rfl rfl ?_
  refine mr_istore_n C 2 dX3_countHeads_1 rfl rfl (by decide) ?_
  exact mr_at (L1 0 (Nat.zero_le _) inn al (fun j h => absurd h (Nat.not_lt_zero j))) rfl rfl rfl

set_option maxRecDepth 20000 in
set_option maxHeartbeats 4000000 in
theorem c_goalOf (E : EG) (a : Nat → Nat) (b : Nat) (se sn be so lo he inn al go : FN) (cr gu gr : Int32) (R G c own : Nat) (hR : R ≤ 6) (hG : G < 2 ^ 30) (hc : c < 5) (ho : own < 6) (ho2 : lo c = nI own) : Ctr E mX3_goalOf (1, 0, 0) [.ref (a b), .int (nI c)] (wH E a b se sn be so lo he inn al go (nI R) cr (nI G) gu gr) (fun v w => v = some (.int (nI (goalS (drawS inn al be G (so c)) (sn own) (so c) own R))) ∧ w = wH E a b se sn be so lo he inn al go (nI R) cr (nI G) gu gr) := by
  refine Ctr.of (by decide) (Nat.le_of_ble_eq_true rfl) ?_
  intro Z hO hn C
  have hlen : zn Z ≤ 10 := by rw [hn]; exact Nat.le_of_ble_eq_true rfl
  have L : ∀ (p : Nat) (f D : FN) (s : Int32), (wH E a b se sn be so lo he inn al go (nI R) cr (nI G) gu gr)[p]? = some (a (b + p), iA E 6 f) → (∀ r, r < 6 → s * f r = D r) → D = drawS inn al be G (so c) → ¬ so c = nI 4 → ∀ i, i ≤ R → V E mX3_goalOf (1, 0, 0) Z 0 0 (wH E a b se sn be so lo he inn al go (nI R) cr (nI G) gu gr) [(0, .ref (a b)), (1, .int (nI c)), (2, .int (nI own)), (3, .int (so c)), (4, .ref (a (b + p))), (5, .int s), (6, .int (nI (bestS D (sn own) own i))), (7, .int (nI i))] [] 76 := by
    intro p f D s hp hD hDe hk
    refine lp_up R ?_
    intro i hi ih
    refine mr_iload C 78 dX3_goalOf_76 rfl rfl ?_
    refine mr_aload_n C 79 dX3_goalOf_78 rfl rfl ?_
    refine mr_get C 0 82 dX3_goalOf_79 rfl fl_X3_39 rfl rfl ?_
    refine mr_icmpge C 129 85 dX3_goalOf_82 (by decide) rfl (fun c_82 => ?_) (fun c_82 => ?_)
    · rw [nI_leI (by omega) (by omega)] at c_82
      refine mr_iload C 131 dX3_goalOf_129 rfl rfl ?_
      refine mr_iret C dX3_goalOf_131 rfl rfl (by decide) (by decide) hlen ?_
      rw [hO]
      obtain rfl : i = R := by omega
      exact ⟨congrArg (fun z => some (Value.int (nI z))) (by rw [hDe]; exact (if_neg hk).symm), rfl⟩
    · rw [nI_leI (by omega) (by omega)] at c_82
      refine mr_aload_n C 86 dX3_goalOf_85 rfl rfl ?_
      refine mr_get C 0 89 dX3_goalOf_86 rfl fl_X3_15 rfl rfl ?_
      refine mr_iload_n C 90 dX3_goalOf_89 rfl rfl ?_
      refine mr_iald C 2 own 91 dX3_goalOf_90 rfl rfl rfl (by omega) (by decide) ?_
      refine mr_iload C 93 dX3_goalOf_91 rfl rfl ?_
      refine mr_ishr C _ 94 dX3_goalOf_93 rfl rfl ?_
      refine mr_iconst C (nI 1) 95 dX3_goalOf_94 rfl rfl ?_
      refine mr_iand C _ 96 dX3_goalOf_95 rfl rfl ?_
      refine mr_iconst C (nI 1) 97 dX3_goalOf_96 rfl rfl ?_
      refine mr_icmpne C 123 100 dX3_goalOf_97 (by decide) rfl (fun c_97 => ?_) (fun c_97 => ?_)
      · have e : bestS D (sn own) own (i + 1) = bestS D (sn own) own i := if_neg (fun h => c_97 h.1)
        rw [e] at ih
        refine mr_iinc C (nI (i + 1)) 126 dX3_goalOf_123 rfl rfl (by decide) (nI_add i 1) ?_
        refine mr_goto C 76 dX3_goalOf_126 (by decide) ?_
        exact mr_at (ih (by omega)) rfl rfl rfl
      · refine mr_iload C 102 dX3_goalOf_100 rfl rfl ?_
        refine mr_aload C 104 dX3_goalOf_102 rfl rfl ?_
        refine mr_iload C 106 dX3_goalOf_104 rfl rfl ?_
        refine mr_iald C p i 107 dX3_goalOf_106 rfl hp rfl (by omega) (by decide) ?_
        refine mr_imul C _ 108 dX3_goalOf_107 rfl rfl ?_
        refine mr_iload C 110 dX3_goalOf_108 rfl rfl ?_
        refine mr_aload C 112 dX3_goalOf_110 rfl rfl ?_
        refine mr_iload C 114 dX3_goalOf_112 rfl rfl ?_
        refine mr_iald C p (bestS D (sn own) own i) 115 dX3_goalOf_114 rfl hp rfl (bestS_lt i ho (by omega)) (by decide) ?_
        refine mr_imul C _ 116 dX3_goalOf_115 rfl rfl ?_
        refine mr_icmple C 123 119 dX3_goalOf_116 (by decide) rfl (fun c_116 => ?_) (fun c_116 => ?_)
        · rw [hD i (by omega), hD _ (bestS_lt i ho (by omega))] at c_116
          have e : bestS D (sn own) own (i + 1) = bestS D (sn own) own i := if_neg (fun h => (Int32.not_lt.mpr c_116) h.2)
          rw [e] at ih
          refine mr_iinc C (nI (i + 1)) 126 dX3_goalOf_123 rfl rfl (by decide) (nI_add i 1) ?_
          refine mr_goto C 76 dX3_goalOf_126 (by decide) ?_
          exact mr_at (ih (by omega)) rfl rfl rfl
        · rw [hD i (by omega), hD _ (bestS_lt i ho (by omega))] at c_116
          have e : bestS D (sn own) own (i + 1) = i := if_pos ⟨c_97, Int32.not_le.mp c_116⟩
          rw [e] at ih
          refine mr_iload C 121 dX3_goalOf_119 rfl rfl ?_
          refine mr_istore C 123 dX3_goalOf_121 rfl (by decide) ?_
          refine mr_iinc C (nI (i + 1)) 126 dX3_goalOf_123 rfl rfl (by decide) (nI_add i 1) ?_
          refine mr_goto C 76 dX3_goalOf_126 (by decide) ?_
          exact mr_at (ih (by omega)) rfl rfl rfl
  refine mr_aload_n C 1 dX3_goalOf_0 rfl rfl ?_
  refine mr_get C 0 4 dX3_goalOf_1 rfl fl_X3_24 rfl rfl ?_
  refine mr_iload_n C 5 dX3_goalOf_4 rfl rfl ?_
  refine mr_iald C 5 c 6 dX3_goalOf_5 rfl rfl rfl (by omega) (by decide) ?_
  rw [ho2]
  refine mr_istore_n C 7 dX3_goalOf_6 rfl rfl (by decide) ?_
  refine mr_aload_n C 8 dX3_goalOf_7 rfl rfl ?_
  refine mr_get C 0 11 dX3_goalOf_8 rfl fl_X3_21 rfl rfl ?_
  refine mr_iload_n C 12 dX3_goalOf_11 rfl rfl ?_
  refine mr_iald C 4 c 13 dX3_goalOf_12 rfl rfl rfl (by omega) (by decide) ?_
  refine mr_istore_n C 14 dX3_goalOf_13 rfl rfl (by decide) ?_
  refine mr_iload_n C 15 dX3_goalOf_14 rfl rfl ?_
  refine mr_iconst C (nI 4) 16 dX3_goalOf_15 rfl rfl ?_
  refine mr_icmpne C 21 19 dX3_goalOf_16 (by decide) rfl (fun c_16 => ?_) (fun c_16 => ?_)
  · refine mr_iload_n C 22 dX3_goalOf_21 rfl rfl ?_
    refine mr_iconst C (nI 2) 23 dX3_goalOf_22 rfl rfl ?_
    refine mr_icmpne C 33 26 dX3_goalOf_23 (by decide) rfl (fun c_23 => ?_) (fun c_23 => ?_)
    · refine mr_iload_n C 34 dX3_goalOf_33 rfl rfl ?_
      refine mr_iconst C (nI 3) 35 dX3_goalOf_34 rfl rfl ?_
      refine mr_icmpne C 52 38 dX3_goalOf_35 (by decide) rfl (fun c_35 => ?_) (fun c_35 => ?_)
      · refine mr_aload_n C 53 dX3_goalOf_52 rfl rfl ?_
        refine mr_get C 0 56 dX3_goalOf_53 rfl fl_X3_30 rfl rfl ?_
        refine mr_astore C 58 dX3_goalOf_56 rfl (by decide) ?_
        refine mr_iload_n C 59 dX3_goalOf_58 rfl rfl ?_
        refine mr_iconst C (nI 5) 60 dX3_goalOf_59 rfl rfl ?_
        refine mr_icmpne C 67 63 dX3_goalOf_60 (by decide) rfl (fun c_60 => ?_) (fun c_60 => ?_)
        · refine mr_iconst C (nI 1) 68 dX3_goalOf_67 rfl rfl ?_
          refine mr_istore C 70 dX3_goalOf_68 rfl (by decide) ?_
          refine mr_iload_n C 71 dX3_goalOf_70 rfl rfl ?_
          refine mr_istore C 73 dX3_goalOf_71 rfl (by decide) ?_
          refine mr_iconst C (nI 0) 74 dX3_goalOf_73 rfl rfl ?_
          refine mr_istore C 76 dX3_goalOf_74 rfl (by decide) ?_
          exact mr_at (L 7 inn inn _ rfl (fun r _ => one_mul32 _) (by funext r; exact ((if_neg c_23).trans ((if_neg (fun h => c_35 h.1)).trans (if_neg c_60))).symm) c_16 0 (Nat.zero_le _)) rfl rfl rfl
        · refine mr_iconst C (-1) 64 dX3_goalOf_63 rfl rfl ?_
          refine mr_goto C 68 dX3_goalOf_64 (by decide) ?_
          refine mr_istore C 70 dX3_goalOf_68 rfl (by decide) ?_
          refine mr_iload_n C 71 dX3_goalOf_70 rfl rfl ?_
          refine mr_istore C 73 dX3_goalOf_71 rfl (by decide) ?_
          refine mr_iconst C (nI 0) 74 dX3_goalOf_73 rfl rfl ?_
          refine mr_istore C 76 dX3_goalOf_74 rfl (by decide) ?_
          exact mr_at (L 7 inn (fun r => - inn r) _ rfl (fun r _ => neg_one_mul32 _) (by funext r; exact ((if_neg c_23).trans ((if_neg (fun h => c_35 h.1)).trans (if_pos c_60))).symm) c_16 0 (Nat.zero_le _)) rfl rfl rfl
      · refine mr_aload_n C 39 dX3_goalOf_38 rfl rfl ?_
        refine mr_get C 0 42 dX3_goalOf_39 rfl fl_X3_46 rfl rfl ?_
        refine mr_ifle C 52 45 dX3_goalOf_42 (by decide) rfl (fun c_42 => ?_) (fun c_42 => ?_)
        · have c_42 : ¬ 0 < G := fun h => absurd c_42 (Int32.not_le.mpr (nI_lt h (by omega)))
          refine mr_aload_n C 53 dX3_goalOf_52 rfl rfl ?_
          refine mr_get C 0 56 dX3_goalOf_53 rfl fl_X3_30 rfl rfl ?_
          refine mr_astore C 58 dX3_goalOf_56 rfl (by decide) ?_
          refine mr_iload_n C 59 dX3_goalOf_58 rfl rfl ?_
          refine mr_iconst C (nI 5) 60 dX3_goalOf_59 rfl rfl ?_
          refine mr_icmpne C 67 63 dX3_goalOf_60 (by decide) rfl (fun c_60 => ?_) (fun c_60 => ?_)
          · refine mr_iconst C (nI 1) 68 dX3_goalOf_67 rfl rfl ?_
            refine mr_istore C 70 dX3_goalOf_68 rfl (by decide) ?_
            refine mr_iload_n C 71 dX3_goalOf_70 rfl rfl ?_
            refine mr_istore C 73 dX3_goalOf_71 rfl (by decide) ?_
            refine mr_iconst C (nI 0) 74 dX3_goalOf_73 rfl rfl ?_
            refine mr_istore C 76 dX3_goalOf_74 rfl (by decide) ?_
            exact mr_at (L 7 inn inn _ rfl (fun r _ => one_mul32 _) (by funext r; exact ((if_neg c_23).trans ((if_neg (fun h => c_42 h.2)).trans (if_neg c_60))).symm) c_16 0 (Nat.zero_le _)) rfl rfl rfl
          · refine mr_iconst C (-1) 64 dX3_goalOf_63 rfl rfl ?_
            refine mr_goto C 68 dX3_goalOf_64 (by decide) ?_
            refine mr_istore C 70 dX3_goalOf_68 rfl (by decide) ?_
            refine mr_iload_n C 71 dX3_goalOf_70 rfl rfl ?_
            refine mr_istore C 73 dX3_goalOf_71 rfl (by decide) ?_
            refine mr_iconst C (nI 0) 74 dX3_goalOf_73 rfl rfl ?_
            refine mr_istore C 76 dX3_goalOf_74 rfl (by decide) ?_
            exact absurd (c_35.symm.trans c_60) (by decide)
        · have c_42 : 0 < G := by
            rcases Nat.eq_zero_or_pos G with h | h
            · subst h; exact absurd (Int32.le_refl _) c_42
            · exact h
          refine mr_aload_n C 46 dX3_goalOf_45 rfl rfl ?_
          refine mr_get C 0 49 dX3_goalOf_46 rfl fl_X3_18 rfl rfl ?_
          refine mr_goto C 56 dX3_goalOf_49 (by decide) ?_
          refine mr_astore C 58 dX3_goalOf_56 rfl (by decide) ?_
          refine mr_iload_n C 59 dX3_goalOf_58 rfl rfl ?_
          refine mr_iconst C (nI 5) 60 dX3_goalOf_59 rfl rfl ?_
          refine mr_icmpne C 67 63 dX3_goalOf_60 (by decide) rfl (fun c_60 => ?_) (fun c_60 => ?_)
          · refine mr_iconst C (nI 1) 68 dX3_goalOf_67 rfl rfl ?_
            refine mr_istore C 70 dX3_goalOf_68 rfl (by decide) ?_
            refine mr_iload_n C 71 dX3_goalOf_70 rfl rfl ?_
            refine mr_istore C 73 dX3_goalOf_71 rfl (by decide) ?_
            refine mr_iconst C (nI 0) 74 dX3_goalOf_73 rfl rfl ?_
            refine mr_istore C 76 dX3_goalOf_74 rfl (by decide) ?_
            exact mr_at (L 3 be be _ rfl (fun r _ => one_mul32 _) (by funext r; exact ((if_neg c_23).trans (if_pos ⟨c_35, c_42⟩)).symm) c_16 0 (Nat.zero_le _)) rfl rfl rfl
          · refine mr_iconst C (-1) 64 dX3_goalOf_63 rfl rfl ?_
            refine mr_goto C 68 dX3_goalOf_64 (by decide) ?_
            refine mr_istore C 70 dX3_goalOf_68 rfl (by decide) ?_
            refine mr_iload_n C 71 dX3_goalOf_70 rfl rfl ?_
            refine mr_istore C 73 dX3_goalOf_71 rfl (by decide) ?_
            refine mr_iconst C (nI 0) 74 dX3_goalOf_73 rfl rfl ?_
            refine mr_istore C 76 dX3_goalOf_74 rfl (by decide) ?_
            exact absurd (c_35.symm.trans c_60) (by decide)
    · refine mr_aload_n C 27 dX3_goalOf_26 rfl rfl ?_
      refine mr_get C 0 30 dX3_goalOf_27 rfl fl_X3_33 rfl rfl ?_
      refine mr_goto C 56 dX3_goalOf_30 (by decide) ?_
      refine mr_astore C 58 dX3_goalOf_56 rfl (by decide) ?_
      refine mr_iload_n C 59 dX3_goalOf_58 rfl rfl ?_
      refine mr_iconst C (nI 5) 60 dX3_goalOf_59 rfl rfl ?_
      refine mr_icmpne C 67 63 dX3_goalOf_60 (by decide) rfl (fun c_60 => ?_) (fun c_60 => ?_)
      · refine mr_iconst C (nI 1) 68 dX3_goalOf_67 rfl rfl ?_
        refine mr_istore C 70 dX3_goalOf_68 rfl (by decide) ?_
        refine mr_iload_n C 71 dX3_goalOf_70 rfl rfl ?_
        refine mr_istore C 73 dX3_goalOf_71 rfl (by decide) ?_
        refine mr_iconst C (nI 0) 74 dX3_goalOf_73 rfl rfl ?_
        refine mr_istore C 76 dX3_goalOf_74 rfl (by decide) ?_
        exact mr_at (L 8 al al _ rfl (fun r _ => one_mul32 _) (by funext r; exact (if_pos c_23).symm) c_16 0 (Nat.zero_le _)) rfl rfl rfl
      · refine mr_iconst C (-1) 64 dX3_goalOf_63 rfl rfl ?_
        refine mr_goto C 68 dX3_goalOf_64 (by decide) ?_
        refine mr_istore C 70 dX3_goalOf_68 rfl (by decide) ?_
        refine mr_iload_n C 71 dX3_goalOf_70 rfl rfl ?_
        refine mr_istore C 73 dX3_goalOf_71 rfl (by decide) ?_
        refine mr_iconst C (nI 0) 74 dX3_goalOf_73 rfl rfl ?_
        refine mr_istore C 76 dX3_goalOf_74 rfl (by decide) ?_
        exact absurd (c_23.symm.trans c_60) (by decide)
  · refine mr_iload_n C 20 dX3_goalOf_19 rfl rfl ?_
    refine mr_iret C dX3_goalOf_20 rfl rfl (by decide) (by decide) hlen ?_
    rw [hO]
    exact ⟨congrArg (fun z => some (Value.int (nI z))) (if_pos c_16).symm, rfl⟩

