/-! Acts -/
/-- slot x holds a house's doors, counts, places, heads, bells -/
def SL (kp : FN) (x : Nat) (sn be lo he : FN) (gn : Int32) : Prop :=
  (∀ j, j < 6 → kp (x * 23 + j) = sn j) ∧ (∀ j, j < 6 → kp (x * 23 + 6 + j) = be j) ∧ (∀ j, j < 5 → kp (x * 23 + 12 + j) = lo j) ∧ (∀ j, j < 5 → kp (x * 23 + 17 + j) = he j) ∧ kp (x * 23 + 22) = gn
def kpPut (kp : FN) (x : Nat) (sn be lo he : FN) (gn : Int32) : FN := upd (va_cpy he (va_cpy lo (va_cpy be (va_cpy sn kp 0 (x * 23 + 0) 6) 0 (x * 23 + 6) 6) 0 (x * 23 + 12) 5) 0 (x * 23 + 17) 5) (x * 23 + 22) gn
theorem kpPut_SL (kp : FN) (x : Nat) (sn be lo he : FN) (gn : Int32) : SL (kpPut kp x sn be lo he gn) x sn be lo he gn := by
  unfold kpPut
  refine ⟨fun j hj => ?_, fun j hj => ?_, fun j hj => ?_, fun j hj => ?_, up_s⟩
  · rw [up_n (by omega), pk_cpy_out (by omega), pk_cpy_out (by omega), pk_cpy_out (by omega), pk_cpy_in (by omega) (by omega)]
    congr 1; omega
  · rw [up_n (by omega), pk_cpy_out (by omega), pk_cpy_out (by omega), pk_cpy_in (by omega) (by omega)]
    congr 1; omega
  · rw [up_n (by omega), pk_cpy_out (by omega), pk_cpy_in (by omega) (by omega)]
    congr 1; omega
  · rw [up_n (by omega), pk_cpy_in (by omega) (by omega)]
    congr 1; omega
theorem kpPut_out (kp : FN) (x : Nat) (sn be lo he : FN) (gn : Int32) {i : Nat} (h : i < x * 23 ∨ x * 23 + 23 ≤ i) : kpPut kp x sn be lo he gn i = kp i := by
  unfold kpPut
  rw [up_n (by omega), pk_cpy_out (by omega), pk_cpy_out (by omega), pk_cpy_out (by omega), pk_cpy_out (by omega)]
theorem SL_far {kp kp' : FN} {x : Nat} {sn be lo he : FN} {gn : Int32} (h : SL kp x sn be lo he gn) (hk : ∀ i, x * 23 ≤ i → i < x * 23 + 23 → kp' i = kp i) : SL kp' x sn be lo he gn := by
  obtain ⟨h1, h2, h3, h4, h5⟩ := h
  refine ⟨fun j hj => ?_, fun j hj => ?_, fun j hj => ?_, fun j hj => ?_, ?_⟩
  · rw [hk _ (by omega) (by omega)]; exact h1 j hj
  · rw [hk _ (by omega) (by omega)]; exact h2 j hj
  · rw [hk _ (by omega) (by omega)]; exact h3 j hj
  · rw [hk _ (by omega) (by omega)]; exact h4 j hj
  · rw [hk _ (by omega) (by omega)]; exact h5
theorem minI {a b : Nat} (ha : a < 2 ^ 31) (hb : b < 2 ^ 31) : (if nI b < nI a then nI b else nI a) = nI (min a b) := by
  by_cases h : b < a
  · rw [if_pos ((nI_ltI hb ha).mpr h), Nat.min_eq_right (by omega)]
  · rw [if_neg (mt (nI_ltI hb ha).mp h), Nat.min_eq_left (by omega)]
set_option maxRecDepth 20000 in
set_option maxHeartbeats 4000000 in
theorem c_keep (E : EG) (a : Nat → Nat) (b b2 : Nat) (kp : FN) (x h : Nat) (se sn be so lo he inn al go : FN) (ro cr gn gu gr : Int32) (hx : x < 24) (hh : h ≤ 24) : Ctr E mX0_keep (2, 0, 0) [.ref (a b), .ref (a b2)] (wA E a b kp (nI h) (nI x) ++ wH E a b2 se sn be so lo he inn al go ro cr gn gu gr) (fun v w => v = none ∧ w = wA E a b (kpPut kp x sn be lo he gn) (nI (min (h + 1) 24)) (nI (if x + 1 < 24 then x + 1 else 0)) ++ wH E a b2 se sn be so lo he inn al go ro cr gn gu gr) := by
  refine Ctr.of (by decide) (Nat.le_of_ble_eq_true rfl) ?_
  intro Z hO hn C
  have hlen : zn Z ≤ 12 := by rw [hn]; exact Nat.le_of_ble_eq_true rfl
  refine mr_aload_n C 1 dX0_keep_0 rfl rfl ?_
  refine mr_get C 0 4 dX0_keep_1 rfl fl_X0_15 rfl rfl ?_
  refine mr_bipush C (nI 23) 6 dX0_keep_4 rfl rfl ?_
  refine mr_imul C (nI (x * 23)) 7 dX0_keep_6 rfl (pk_mul _ _) ?_
  refine mr_istore_n C 8 dX0_keep_7 rfl rfl (by decide) ?_
  refine mr_aload_n C 9 dX0_keep_8 rfl rfl ?_
  refine mr_get C 2 12 dX0_keep_9 rfl fl_X0_19 rfl rfl ?_
  refine mr_iconst C (nI 0) 13 dX0_keep_12 rfl rfl ?_
  refine mr_aload_n C 14 dX0_keep_13 rfl rfl ?_
  refine mr_get C 0 17 dX0_keep_14 rfl fl_X0_11 rfl rfl ?_
  refine mr_iload_n C 18 dX0_keep_17 rfl rfl ?_
  refine mr_iconst C (nI 0) 19 dX0_keep_18 rfl rfl ?_
  refine mr_iadd C (nI ((x * 23) + 0)) 20 dX0_keep_19 rfl (nI_add _ _) ?_
  refine mr_bipush C (nI 6) 22 dX0_keep_20 rfl rfl ?_
  refine mr_copy C 4 1 0 ((x * 23) + 0) 6 25 dX0_keep_22 rfl ml_X0_24 rfl rfl rfl rfl rfl (by omega) (by omega) (by decide) (by decide) (Nat.le_of_ble_eq_true rfl) (by decide) ?_
  refine mr_aload_n C 26 dX0_keep_25 rfl rfl ?_
  refine mr_get C 2 29 dX0_keep_26 rfl fl_X0_30 rfl rfl ?_
  refine mr_iconst C (nI 0) 30 dX0_keep_29 rfl rfl ?_
  refine mr_aload_n C 31 dX0_keep_30 rfl rfl ?_
  refine mr_get C 0 34 dX0_keep_31 rfl fl_X0_11 rfl rfl ?_
  refine mr_iload_n C 35 dX0_keep_34 rfl rfl ?_
  refine mr_bipush C (nI 6) 37 dX0_keep_35 rfl rfl ?_
  refine mr_iadd C (nI ((x * 23) + 6)) 38 dX0_keep_37 rfl (nI_add _ _) ?_
  refine mr_bipush C (nI 6) 40 dX0_keep_38 rfl rfl ?_
  refine mr_copy C 5 1 0 ((x * 23) + 6) 6 43 dX0_keep_40 rfl ml_X0_24 rfl rfl rfl rfl rfl (by omega) (by omega) (by decide) (by decide) (Nat.le_of_ble_eq_true rfl) (by decide) ?_
  refine mr_aload_n C 44 dX0_keep_43 rfl rfl ?_
  refine mr_get C 2 47 dX0_keep_44 rfl fl_X0_33 rfl rfl ?_
  refine mr_iconst C (nI 0) 48 dX0_keep_47 rfl rfl ?_
  refine mr_aload_n C 49 dX0_keep_48 rfl rfl ?_
  refine mr_get C 0 52 dX0_keep_49 rfl fl_X0_11 rfl rfl ?_
  refine mr_iload_n C 53 dX0_keep_52 rfl rfl ?_
  refine mr_bipush C (nI 12) 55 dX0_keep_53 rfl rfl ?_
  refine mr_iadd C (nI ((x * 23) + 12)) 56 dX0_keep_55 rfl (nI_add _ _) ?_
  refine mr_iconst C (nI 5) 57 dX0_keep_56 rfl rfl ?_
  refine mr_copy C 7 1 0 ((x * 23) + 12) 5 60 dX0_keep_57 rfl ml_X0_24 rfl rfl rfl rfl rfl (by omega) (by omega) (by decide) (by decide) (Nat.le_of_ble_eq_true rfl) (by decide) ?_
  refine mr_aload_n C 61 dX0_keep_60 rfl rfl ?_
  refine mr_get C 2 64 dX0_keep_61 rfl fl_X0_36 rfl rfl ?_
  refine mr_iconst C (nI 0) 65 dX0_keep_64 rfl rfl ?_
  refine mr_aload_n C 66 dX0_keep_65 rfl rfl ?_
  refine mr_get C 0 69 dX0_keep_66 rfl fl_X0_11 rfl rfl ?_
  refine mr_iload_n C 70 dX0_keep_69 rfl rfl ?_
  refine mr_bipush C (nI 17) 72 dX0_keep_70 rfl rfl ?_
  refine mr_iadd C (nI ((x * 23) + 17)) 73 dX0_keep_72 rfl (nI_add _ _) ?_
  refine mr_iconst C (nI 5) 74 dX0_keep_73 rfl rfl ?_
  refine mr_copy C 8 1 0 ((x * 23) + 17) 5 77 dX0_keep_74 rfl ml_X0_24 rfl rfl rfl rfl rfl (by omega) (by omega) (by decide) (by decide) (Nat.le_of_ble_eq_true rfl) (by decide) ?_
  refine mr_aload_n C 78 dX0_keep_77 rfl rfl ?_
  refine mr_get C 0 81 dX0_keep_78 rfl fl_X0_11 rfl rfl ?_
  refine mr_iload_n C 82 dX0_keep_81 rfl rfl ?_
  refine mr_bipush C (nI 22) 84 dX0_keep_82 rfl rfl ?_
  refine mr_iadd C (nI ((x * 23) + 22)) 85 dX0_keep_84 rfl (nI_add _ _) ?_
  refine mr_aload_n C 86 dX0_keep_85 rfl rfl ?_
  refine mr_get C 2 89 dX0_keep_86 rfl fl_X0_39 rfl rfl ?_
  refine mr_iast C 1 ((x * 23) + 22) 90 dX0_keep_89 rfl rfl rfl (by omega) (by decide) ?_
  refine mr_aload_n C 91 dX0_keep_90 rfl rfl ?_
  refine mr_aload_n C 92 dX0_keep_91 rfl rfl ?_
  refine mr_get C 0 95 dX0_keep_92 rfl fl_X0_15 rfl rfl ?_
  refine mr_iconst C (nI 1) 96 dX0_keep_95 rfl rfl ?_
  refine mr_iadd C (nI (x + 1)) 97 dX0_keep_96 rfl (nI_add _ _) ?_
  refine mr_bipush C (nI 24) 99 dX0_keep_97 rfl rfl ?_
  refine mr_icmpge C 111 102 dX0_keep_99 (by decide) rfl (fun c_99 => ?_) (fun c_99 => ?_)
  · rw [nI_leI (by omega) (by omega)] at c_99
    refine mr_iconst C (nI 0) 112 dX0_keep_111 rfl rfl ?_
    refine mr_put C 0 115 dX0_keep_112 rfl fs_X0_15 rfl rfl rfl (Nat.le_of_ble_eq_true rfl) ?_
    refine mr_aload_n C 116 dX0_keep_115 rfl rfl ?_
    refine mr_aload_n C 117 dX0_keep_116 rfl rfl ?_
    refine mr_get C 0 120 dX0_keep_117 rfl fl_X0_42 rfl rfl ?_
    refine mr_iconst C (nI 1) 121 dX0_keep_120 rfl rfl ?_
    refine mr_iadd C (nI (h + 1)) 122 dX0_keep_121 rfl (nI_add _ _) ?_
    refine mr_bipush C (nI 24) 124 dX0_keep_122 rfl rfl ?_
    refine mr_min C 127 dX0_keep_124 rfl ml_X0_45 (Nat.le_of_ble_eq_true rfl) (by decide) (by decide) (by decide) ?_
    refine mr_put C 0 130 dX0_keep_127 rfl fs_X0_42 rfl rfl rfl (Nat.le_of_ble_eq_true rfl) ?_
    refine mr_vret C dX0_keep_130 rfl (by decide) (by decide) hlen ?_
    rw [hO]
    have e : (if x + 1 < 24 then x + 1 else 0) = 0 := if_neg (by omega)
    rw [e, ← minI (a := h + 1) (b := 24) (by omega) (by omega)]
    exact ⟨rfl, rfl⟩
  · rw [nI_leI (by omega) (by omega)] at c_99
    refine mr_aload_n C 103 dX0_keep_102 rfl rfl ?_
    refine mr_get C 0 106 dX0_keep_103 rfl fl_X0_15 rfl rfl ?_
    refine mr_iconst C (nI 1) 107 dX0_keep_106 rfl rfl ?_
    refine mr_iadd C (nI (x + 1)) 108 dX0_keep_107 rfl (nI_add _ _) ?_
    refine mr_goto C 112 dX0_keep_108 (by decide) ?_
    refine mr_put C 0 115 dX0_keep_112 rfl fs_X0_15 rfl rfl rfl (Nat.le_of_ble_eq_true rfl) ?_
    refine mr_aload_n C 116 dX0_keep_115 rfl rfl ?_
    refine mr_aload_n C 117 dX0_keep_116 rfl rfl ?_
    refine mr_get C 0 120 dX0_keep_117 rfl fl_X0_42 rfl rfl ?_
    refine mr_iconst C (nI 1) 121 dX0_keep_120 rfl rfl ?_
    refine mr_iadd C (nI (h + 1)) 122 dX0_keep_121 rfl (nI_add _ _) ?_
    refine mr_bipush C (nI 24) 124 dX0_keep_122 rfl rfl ?_
    refine mr_min C 127 dX0_keep_124 rfl ml_X0_45 (Nat.le_of_ble_eq_true rfl) (by decide) (by decide) (by decide) ?_
    refine mr_put C 0 130 dX0_keep_127 rfl fs_X0_42 rfl rfl rfl (Nat.le_of_ble_eq_true rfl) ?_
    refine mr_vret C dX0_keep_130 rfl (by decide) (by decide) hlen ?_
    rw [hO]
    have e : (if x + 1 < 24 then x + 1 else 0) = x + 1 := if_pos (by omega)
    rw [e, ← minI (a := h + 1) (b := 24) (by omega) (by omega)]
    exact ⟨rfl, rfl⟩

set_option maxRecDepth 20000 in
set_option maxHeartbeats 4000000 in
theorem c_takeBack (E : EG) (a : Nat → Nat) (b b2 : Nat) (kp : FN) (x h y : Nat) (se sn be so lo he inn al go : FN) (ro cr gn gu gr : Int32) (sn2 be2 lo2 he2 : FN) (gn2 : Int32) (hx : x < 24) (hh : h ≤ 24) (h1 : 1 ≤ h) (hy : y = if 0 < x then x - 1 else 23) (hs : SL kp y sn2 be2 lo2 he2 gn2) : Ctr E mX0_takeBack (2, 0, 0) [.ref (a b), .ref (a b2)] (wA E a b kp (nI h) (nI x) ++ wH E a b2 se sn be so lo he inn al go ro cr gn gu gr) (fun v w => ∃ f1 f2 f3 f4 : FN, v = none ∧ w = wA E a b kp (nI (h - 1)) (nI y) ++ wH E a b2 se f1 f2 so f3 f4 inn al go ro cr (kp (y * 23 + 22)) gu gr ∧ Ag 6 f1 sn2 ∧ Ag 6 f2 be2 ∧ Ag 5 f3 lo2 ∧ Ag 5 f4 he2) := by
  refine Ctr.of (by decide) (Nat.le_of_ble_eq_true rfl) ?_
  intro Z hO hn C
  have hlen : zn Z ≤ 12 := by rw [hn]; exact Nat.le_of_ble_eq_true rfl
  have hy24 : y < 24 := by rw [hy]; split <;> omega
  have L : V E mX0_takeBack (2, 0, 0) Z 0 0 (wA E a b kp (nI h) (nI x) ++ wH E a b2 se sn be so lo he inn al go ro cr gn gu gr) [(0, .ref (a b)), (1, .ref (a b2))] [.int (nI y), .ref (a b)] 19 := by
    refine mr_put C 0 22 dX0_takeBack_19 rfl fs_X0_15 rfl rfl rfl (Nat.le_of_ble_eq_true rfl) ?_
    refine mr_aload_n C 23 dX0_takeBack_22 rfl rfl ?_
    refine mr_dup C 24 dX0_takeBack_23 rfl rfl ?_
    refine mr_get C 0 27 dX0_takeBack_24 rfl fl_X0_42 rfl rfl ?_
    refine mr_iconst C (nI 1) 28 dX0_takeBack_27 rfl rfl ?_
    refine mr_isub C (nI (h - 1)) 29 dX0_takeBack_28 rfl (pk_sub (by omega)) ?_
    refine mr_put C 0 32 dX0_takeBack_29 rfl fs_X0_42 rfl rfl rfl (Nat.le_of_ble_eq_true rfl) ?_
    refine mr_aload_n C 33 dX0_takeBack_32 rfl rfl ?_
    refine mr_get C 0 36 dX0_takeBack_33 rfl fl_X0_15 rfl rfl ?_
    refine mr_bipush C (nI 23) 38 dX0_takeBack_36 rfl rfl ?_
    refine mr_imul C (nI (y * 23)) 39 dX0_takeBack_38 rfl (pk_mul _ _) ?_
    refine mr_istore_n C 40 dX0_takeBack_39 rfl rfl (by decide) ?_
    refine mr_aload_n C 41 dX0_takeBack_40 rfl rfl ?_
    refine mr_get C 0 44 dX0_takeBack_41 rfl fl_X0_11 rfl rfl ?_
    refine mr_iload_n C 45 dX0_takeBack_44 rfl rfl ?_
    refine mr_iconst C (nI 0) 46 dX0_takeBack_45 rfl rfl ?_
    refine mr_iadd C (nI ((y * 23) + 0)) 47 dX0_takeBack_46 rfl (nI_add _ _) ?_
    refine mr_aload_n C 48 dX0_takeBack_47 rfl rfl ?_
    refine mr_get C 2 51 dX0_takeBack_48 rfl fl_X0_19 rfl rfl ?_
    refine mr_iconst C (nI 0) 52 dX0_takeBack_51 rfl rfl ?_
    refine mr_bipush C (nI 6) 54 dX0_takeBack_52 rfl rfl ?_
    refine mr_copy C 1 4 ((y * 23) + 0) 0 6 57 dX0_takeBack_54 rfl ml_X0_24 rfl rfl rfl rfl rfl (by omega) (by omega) (by decide) (by decide) (Nat.le_of_ble_eq_true rfl) (by decide) ?_
    refine mr_aload_n C 58 dX0_takeBack_57 rfl rfl ?_
    refine mr_get C 0 61 dX0_takeBack_58 rfl fl_X0_11 rfl rfl ?_
    refine mr_iload_n C 62 dX0_takeBack_61 rfl rfl ?_
    refine mr_bipush C (nI 6) 64 dX0_takeBack_62 rfl rfl ?_
    refine mr_iadd C (nI ((y * 23) + 6)) 65 dX0_takeBack_64 rfl (nI_add _ _) ?_
    refine mr_aload_n C 66 dX0_takeBack_65 rfl rfl ?_
    refine mr_get C 2 69 dX0_takeBack_66 rfl fl_X0_30 rfl rfl ?_
    refine mr_iconst C (nI 0) 70 dX0_takeBack_69 rfl rfl ?_
    refine mr_bipush C (nI 6) 72 dX0_takeBack_70 rfl rfl ?_
    refine mr_copy C 1 5 ((y * 23) + 6) 0 6 75 dX0_takeBack_72 rfl ml_X0_24 rfl rfl rfl rfl rfl (by omega) (by omega) (by decide) (by decide) (Nat.le_of_ble_eq_true rfl) (by decide) ?_
    refine mr_aload_n C 76 dX0_takeBack_75 rfl rfl ?_
    refine mr_get C 0 79 dX0_takeBack_76 rfl fl_X0_11 rfl rfl ?_
    refine mr_iload_n C 80 dX0_takeBack_79 rfl rfl ?_
    refine mr_bipush C (nI 12) 82 dX0_takeBack_80 rfl rfl ?_
    refine mr_iadd C (nI ((y * 23) + 12)) 83 dX0_takeBack_82 rfl (nI_add _ _) ?_
    refine mr_aload_n C 84 dX0_takeBack_83 rfl rfl ?_
    refine mr_get C 2 87 dX0_takeBack_84 rfl fl_X0_33 rfl rfl ?_
    refine mr_iconst C (nI 0) 88 dX0_takeBack_87 rfl rfl ?_
    refine mr_iconst C (nI 5) 89 dX0_takeBack_88 rfl rfl ?_
    refine mr_copy C 1 7 ((y * 23) + 12) 0 5 92 dX0_takeBack_89 rfl ml_X0_24 rfl rfl rfl rfl rfl (by omega) (by omega) (by decide) (by decide) (Nat.le_of_ble_eq_true rfl) (by decide) ?_
    refine mr_aload_n C 93 dX0_takeBack_92 rfl rfl ?_
    refine mr_get C 0 96 dX0_takeBack_93 rfl fl_X0_11 rfl rfl ?_
    refine mr_iload_n C 97 dX0_takeBack_96 rfl rfl ?_
    refine mr_bipush C (nI 17) 99 dX0_takeBack_97 rfl rfl ?_
    refine mr_iadd C (nI ((y * 23) + 17)) 100 dX0_takeBack_99 rfl (nI_add _ _) ?_
    refine mr_aload_n C 101 dX0_takeBack_100 rfl rfl ?_
    refine mr_get C 2 104 dX0_takeBack_101 rfl fl_X0_36 rfl rfl ?_
    refine mr_iconst C (nI 0) 105 dX0_takeBack_104 rfl rfl ?_
    refine mr_iconst C (nI 5) 106 dX0_takeBack_105 rfl rfl ?_
    refine mr_copy C 1 8 ((y * 23) + 17) 0 5 109 dX0_takeBack_106 rfl ml_X0_24 rfl rfl rfl rfl rfl (by omega) (by omega) (by decide) (by decide) (Nat.le_of_ble_eq_true rfl) (by decide) ?_
    refine mr_aload_n C 110 dX0_takeBack_109 rfl rfl ?_
    refine mr_aload_n C 111 dX0_takeBack_110 rfl rfl ?_
    refine mr_get C 0 114 dX0_takeBack_111 rfl fl_X0_11 rfl rfl ?_
    refine mr_iload_n C 115 dX0_takeBack_114 rfl rfl ?_
    refine mr_bipush C (nI 22) 117 dX0_takeBack_115 rfl rfl ?_
    refine mr_iadd C (nI ((y * 23) + 22)) 118 dX0_takeBack_117 rfl (nI_add _ _) ?_
    refine mr_iald C 1 ((y * 23) + 22) 119 dX0_takeBack_118 rfl rfl rfl (by omega) (by decide) ?_
    refine mr_put C 2 122 dX0_takeBack_119 rfl fs_X0_39 rfl rfl rfl (Nat.le_of_ble_eq_true rfl) ?_
    refine mr_vret C dX0_takeBack_122 rfl (by decide) (by decide) hlen ?_
    rw [hO]
    refine ⟨_, _, _, _, rfl, rfl, ?_, ?_, ?_, ?_⟩
    · intro j hj
      rw [pk_cpy_in (by omega) (by omega), ← hs.1 j hj]
      congr 1 <;> omega
    · intro j hj
      rw [pk_cpy_in (by omega) (by omega), ← hs.2.1 j hj]
      congr 1 <;> omega
    · intro j hj
      rw [pk_cpy_in (by omega) (by omega), ← hs.2.2.1 j hj]
      congr 1 <;> omega
    · intro j hj
      rw [pk_cpy_in (by omega) (by omega), ← hs.2.2.2.1 j hj]
      congr 1 <;> omega
  refine mr_aload_n C 1 dX0_takeBack_0 rfl rfl ?_
  refine mr_aload_n C 2 dX0_takeBack_1 rfl rfl ?_
  refine mr_get C 0 5 dX0_takeBack_2 rfl fl_X0_15 rfl rfl ?_
  refine mr_ifle C 17 8 dX0_takeBack_5 (by decide) rfl (fun c_5 => ?_) (fun c_5 => ?_)
  · have c_5 : ¬ 0 < x := fun h => absurd c_5 (Int32.not_le.mpr (nI_lt h (by omega)))
    refine mr_bipush C (nI 23) 19 dX0_takeBack_17 rfl rfl ?_
    have e : y = 23 := by rw [hy]; exact if_neg (by omega)
    rw [e] at L
    exact mr_at L rfl rfl rfl
  · have c_5 : 0 < x := by
      rcases Nat.eq_zero_or_pos x with h | h
      · subst h; exact absurd (Int32.le_refl _) c_5
      · exact h
    refine mr_aload_n C 9 dX0_takeBack_8 rfl rfl ?_
    refine mr_get C 0 12 dX0_takeBack_9 rfl fl_X0_15 rfl rfl ?_
    refine mr_iconst C (nI 1) 13 dX0_takeBack_12 rfl rfl ?_
    refine mr_isub C (nI (x - 1)) 14 dX0_takeBack_13 rfl (pk_sub (by omega)) ?_
    refine mr_goto C 19 dX0_takeBack_14 (by decide) ?_
    have e : y = x - 1 := by rw [hy]; exact if_pos (by omega)
    rw [e] at L
    exact mr_at L rfl rfl rfl

set_option maxRecDepth 20000 in
set_option maxHeartbeats 4000000 in
theorem c_forgetAll (E : EG) (a : Nat → Nat) (b : Nat) (kp : FN) (hd nx : Int32) : Ctr E mX0_forgetAll (1, 0, 0) [.ref (a b)] (wA E a b kp hd nx) (fun v w => v = none ∧ w = wA E a b kp (nI 0) (nI 0)) := by
  refine Ctr.of (by decide) (Nat.le_of_ble_eq_true rfl) ?_
  intro Z hO hn C
  have hlen : zn Z ≤ 2 := by rw [hn]; exact Nat.le_of_ble_eq_true rfl
  refine mr_aload_n C 1 dX0_forgetAll_0 rfl rfl ?_
  refine mr_iconst C (nI 0) 2 dX0_forgetAll_1 rfl rfl ?_
  refine mr_put C 0 5 dX0_forgetAll_2 rfl fs_X0_42 rfl rfl rfl (Nat.le_of_ble_eq_true rfl) ?_
  refine mr_aload_n C 6 dX0_forgetAll_5 rfl rfl ?_
  refine mr_iconst C (nI 0) 7 dX0_forgetAll_6 rfl rfl ?_
  refine mr_put C 0 10 dX0_forgetAll_7 rfl fs_X0_15 rfl rfl rfl (Nat.le_of_ble_eq_true rfl) ?_
  refine mr_vret C dX0_forgetAll_10 rfl (by decide) (by decide) hlen ?_
  rw [hO]
  exact ⟨rfl, rfl⟩

