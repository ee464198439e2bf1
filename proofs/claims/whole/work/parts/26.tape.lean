/-! Tape -/
abbrev pB (x : Int32) : Prop := x = nI 32 ∨ x = nI 10
abbrev pL (x : Int32) : Prop := nI 97 ≤ x ∧ x ≤ nI 122
abbrev pF (x : Int32) : Prop := nI 48 ≤ x ∧ x ≤ nI 57
/-- from p on, while P holds, d places at most -/
def scn (P : Int32 → Prop) [DecidablePred P] (t : FN) : Nat → Nat → Nat
  | 0, p => p
  | d + 1, p => if P (t p) then scn P t d (p + 1) else p
theorem scn_t {P : Int32 → Prop} [DecidablePred P] {t : FN} {S p : Nat} (hp : p < S) (h : P (t p)) : scn P t (S - p) p = scn P t (S - (p + 1)) (p + 1) := by
  obtain ⟨d, hd⟩ : ∃ d, S - p = d + 1 := ⟨S - p - 1, by omega⟩
  rw [hd, show S - (p + 1) = d by omega]
  exact if_pos h
theorem scn_f {P : Int32 → Prop} [DecidablePred P] {t : FN} {S p : Nat} (hp : p < S) (h : ¬ P (t p)) : scn P t (S - p) p = p := by
  obtain ⟨d, hd⟩ : ∃ d, S - p = d + 1 := ⟨S - p - 1, by omega⟩
  rw [hd]
  exact if_neg h
theorem scn_e {P : Int32 → Prop} [DecidablePred P] {t : FN} {S p : Nat} (hp : S ≤ p) : scn P t (S - p) p = p := by
  rw [show S - p = 0 by omega]; rfl
theorem scn_in {P : Int32 → Prop} [DecidablePred P] {t : FN} : ∀ d p, p ≤ scn P t d p ∧ scn P t d p ≤ p + d
  | 0, p => ⟨Nat.le_refl _, Nat.le_refl _⟩
  | d + 1, p => by
    have := scn_in (P := P) (t := t) d (p + 1)
    unfold scn
    split <;> omega
theorem scn_le {P : Int32 → Prop} [DecidablePred P] {t : FN} {S p : Nat} (h : p ≤ S) : p ≤ scn P t (S - p) p ∧ scn P t (S - p) p ≤ S := by
  have := scn_in (P := P) (t := t) (S - p) p
  omega
theorem subl (s k : Nat) : nI (s + k) - nI s = nI k := by rw [pk_sub (by omega)]; congr 1; omega
/-- the number that k figures tell -/
def valS (t : FN) (s : Nat) : Nat → Int32
  | 0 => nI 0
  | k + 1 => valS t s k * nI 10 + t (s + k) - nI 48
/-- the token behind p: where it starts, its kind, where it ends -/
def stS (t : FN) (S p : Nat) : Nat := scn pB t (S - p) p
def tkS (t : FN) (S p : Nat) : Nat := if S ≤ stS t S p then 0 else if pL (t (stS t S p)) then 1 else if pF (t (stS t S p)) then (if scn pF t (S - stS t S p) (stS t S p) - stS t S p ≤ 3 then 2 else 4) else if t (stS t S p) = nI 59 then 3 else 4
def nxS (t : FN) (S p : Nat) : Nat := if S ≤ stS t S p then stS t S p else if pL (t (stS t S p)) then scn pL t (S - stS t S p) (stS t S p) else if pF (t (stS t S p)) then scn pF t (S - stS t S p) (stS t S p) else stS t S p + 1
theorem stS_le {t : FN} {S p : Nat} (h : p ≤ S) : p ≤ stS t S p ∧ stS t S p ≤ S := scn_le h
theorem nxS_le {t : FN} {S p : Nat} (h : p ≤ S) : stS t S p ≤ nxS t S p ∧ nxS t S p ≤ S := by
  have h1 := stS_le (t := t) h
  unfold nxS
  split
  · omega
  · split
    · exact scn_le h1.2
    · split
      · exact scn_le h1.2
      · omega
set_option maxRecDepth 20000 in
set_option maxHeartbeats 4000000 in
theorem c_isBlank (E : EG) (x : Int32) : Ctr E mX6_isBlank (0, 0, 0) [.int x] ([]) (fun v w => v = some (.int (bI (pB x))) ∧ w = []) := by
  refine Ctr.of (by decide) (Nat.le_of_ble_eq_true rfl) ?_
  intro Z hO hn C
  have hlen : zn Z ≤ 0 := by rw [hn]; exact Nat.le_of_ble_eq_true rfl
  refine mr_iload_n C 1 dX6_isBlank_0 rfl rfl ?_
  refine mr_bipush C (nI 32) 3 dX6_isBlank_1 rfl rfl ?_
  refine mr_icmpeq C 12 6 dX6_isBlank_3 (by decide) rfl (fun c_3 => ?_) (fun c_3 => ?_)
  · refine mr_iconst C (nI 1) 13 dX6_isBlank_12 rfl rfl ?_
    refine mr_goto C 17 dX6_isBlank_13 (by decide) ?_
    refine mr_iret C dX6_isBlank_17 rfl rfl (by decide) (by decide) hlen ?_
    rw [hO]
    exact ⟨congrArg (fun z => some (Value.int z)) (bI_t (Or.inl c_3)), rfl⟩
  · refine mr_iload_n C 7 dX6_isBlank_6 rfl rfl ?_
    refine mr_bipush C (nI 10) 9 dX6_isBlank_7 rfl rfl ?_
    refine mr_icmpne C 16 12 dX6_isBlank_9 (by decide) rfl (fun c_9 => ?_) (fun c_9 => ?_)
    · refine mr_iconst C (nI 0) 17 dX6_isBlank_16 rfl rfl ?_
      refine mr_iret C dX6_isBlank_17 rfl rfl (by decide) (by decide) hlen ?_
      rw [hO]
      exact ⟨congrArg (fun z => some (Value.int z)) (bI_f (fun h => h.elim c_3 c_9)), rfl⟩
    · refine mr_iconst C (nI 1) 13 dX6_isBlank_12 rfl rfl ?_
      refine mr_goto C 17 dX6_isBlank_13 (by decide) ?_
      refine mr_iret C dX6_isBlank_17 rfl rfl (by decide) (by decide) hlen ?_
      rw [hO]
      exact ⟨congrArg (fun z => some (Value.int z)) (bI_t (Or.inr c_9)), rfl⟩

set_option maxRecDepth 20000 in
set_option maxHeartbeats 4000000 in
theorem c_isLetter (E : EG) (x : Int32) : Ctr E mX6_isLetter (0, 0, 0) [.int x] ([]) (fun v w => v = some (.int (bI (pL x))) ∧ w = []) := by
  refine Ctr.of (by decide) (Nat.le_of_ble_eq_true rfl) ?_
  intro Z hO hn C
  have hlen : zn Z ≤ 0 := by rw [hn]; exact Nat.le_of_ble_eq_true rfl
  refine mr_iload_n C 1 dX6_isLetter_0 rfl rfl ?_
  refine mr_bipush C (nI 97) 3 dX6_isLetter_1 rfl rfl ?_
  refine mr_icmplt C 16 6 dX6_isLetter_3 (by decide) rfl (fun c_3 => ?_) (fun c_3 => ?_)
  · refine mr_iconst C (nI 0) 17 dX6_isLetter_16 rfl rfl ?_
    refine mr_iret C dX6_isLetter_17 rfl rfl (by decide) (by decide) hlen ?_
    rw [hO]
    exact ⟨congrArg (fun z => some (Value.int z)) (bI_f (fun h => Int32.not_lt.mpr h.1 c_3)), rfl⟩
  · refine mr_iload_n C 7 dX6_isLetter_6 rfl rfl ?_
    refine mr_bipush C (nI 122) 9 dX6_isLetter_7 rfl rfl ?_
    refine mr_icmpgt C 16 12 dX6_isLetter_9 (by decide) rfl (fun c_9 => ?_) (fun c_9 => ?_)
    · refine mr_iconst C (nI 0) 17 dX6_isLetter_16 rfl rfl ?_
      refine mr_iret C dX6_isLetter_17 rfl rfl (by decide) (by decide) hlen ?_
      rw [hO]
      exact ⟨congrArg (fun z => some (Value.int z)) (bI_f (fun h => Int32.not_lt.mpr h.2 c_9)), rfl⟩
    · refine mr_iconst C (nI 1) 13 dX6_isLetter_12 rfl rfl ?_
      refine mr_goto C 17 dX6_isLetter_13 (by decide) ?_
      refine mr_iret C dX6_isLetter_17 rfl rfl (by decide) (by decide) hlen ?_
      rw [hO]
      exact ⟨congrArg (fun z => some (Value.int z)) (bI_t ⟨Int32.not_lt.mp c_3, Int32.not_lt.mp c_9⟩), rfl⟩

set_option maxRecDepth 20000 in
set_option maxHeartbeats 4000000 in
theorem c_isFigure (E : EG) (x : Int32) : Ctr E mX6_isFigure (0, 0, 0) [.int x] ([]) (fun v w => v = some (.int (bI (pF x))) ∧ w = []) := by
  refine Ctr.of (by decide) (Nat.le_of_ble_eq_true rfl) ?_
  intro Z hO hn C
  have hlen : zn Z ≤ 0 := by rw [hn]; exact Nat.le_of_ble_eq_true rfl
  refine mr_iload_n C 1 dX6_isFigure_0 rfl rfl ?_
  refine mr_bipush C (nI 48) 3 dX6_isFigure_1 rfl rfl ?_
  refine mr_icmplt C 16 6 dX6_isFigure_3 (by decide) rfl (fun c_3 => ?_) (fun c_3 => ?_)
  · refine mr_iconst C (nI 0) 17 dX6_isFigure_16 rfl rfl ?_
    refine mr_iret C dX6_isFigure_17 rfl rfl (by decide) (by decide) hlen ?_
    rw [hO]
    exact ⟨congrArg (fun z => some (Value.int z)) (bI_f (fun h => Int32.not_lt.mpr h.1 c_3)), rfl⟩
  · refine mr_iload_n C 7 dX6_isFigure_6 rfl rfl ?_
    refine mr_bipush C (nI 57) 9 dX6_isFigure_7 rfl rfl ?_
    refine mr_icmpgt C 16 12 dX6_isFigure_9 (by decide) rfl (fun c_9 => ?_) (fun c_9 => ?_)
    · refine mr_iconst C (nI 0) 17 dX6_isFigure_16 rfl rfl ?_
      refine mr_iret C dX6_isFigure_17 rfl rfl (by decide) (by decide) hlen ?_
      rw [hO]
      exact ⟨congrArg (fun z => some (Value.int z)) (bI_f (fun h => Int32.not_lt.mpr h.2 c_9)), rfl⟩
    · refine mr_iconst C (nI 1) 13 dX6_isFigure_12 rfl rfl ?_
      refine mr_goto C 17 dX6_isFigure_13 (by decide) ?_
      refine mr_iret C dX6_isFigure_17 rfl rfl (by decide) (by decide) hlen ?_
      rw [hO]
      exact ⟨congrArg (fun z => some (Value.int z)) (bI_t ⟨Int32.not_lt.mp c_3, Int32.not_lt.mp c_9⟩), rfl⟩

def byS (w : Int64) (k : Nat) : Int32 := ((w.toUInt64 >>> ((nI (8 * k)).toInt64.toUInt64 &&& Int64.toUInt64 63)).toInt64).toInt32 &&& nI 255
theorem sub1 (k : Nat) : nI k + Int32.ofInt (-1) = nI k - nI 1 := by
  rw [Int32.sub_eq_add_neg]; rfl
set_option maxRecDepth 20000 in
set_option maxHeartbeats 4000000 in
theorem c_append (E : EG) (a : Nat → Nat) (b : Nat) (t : FN) (tk sr nx vl : Int32) (w : Int64) (S m : Nat) (hm : m ≤ 8) (hS : S + m ≤ 400) : Ctr E mX6_append (1, 0, 0) [.ref (a b), .long w, .int (nI m)] (wT E a b t (nI S) tk sr nx vl) (fun v w1 => ∃ f : FN, v = none ∧ w1 = wT E a b f (nI (S + m)) tk sr nx vl ∧ (∀ j, j < S → f j = t j) ∧ ∀ j, j < m → f (S + j) = byS w (m - 1 - j)) := by
  refine Ctr.of (by decide) (Nat.le_of_ble_eq_true rfl) ?_
  intro Z hO hn C
  have hlen : zn Z ≤ 2 := by rw [hn]; exact Nat.le_of_ble_eq_true rfl
  have L : ∀ i, i ≤ m → ∀ f : FN, (∀ j, j < S → f j = t j) → (∀ j, j < i → f (S + j) = byS w (m - 1 - j)) → V E mX6_append (1, 0, 0) Z 0 0 (wT E a b f (nI (S + i)) tk sr nx vl) [(0, .ref (a b)), (1, .long w), (3, .int (nI m)), (4, .int (nI (m - i) - nI 1))] [] 5 := by
    refine lp_up m ?_
    intro i hi ih f hf1 hf2
    refine mr_iload C 7 dX6_append_5 rfl rfl ?_
    refine mr_iflt C 47 10 dX6_append_7 (by decide) rfl (fun c_7 => ?_) (fun c_7 => ?_)
    · refine mr_vret C dX6_append_47 rfl (by decide) (by decide) hlen ?_
      rw [hO]
      have hi : i = m := by
        rcases Nat.lt_or_ge i m with h | h
        · exact absurd (by rw [pk_sub (by omega : 1 ≤ m - i)] at c_7; exact c_7) (nI_pos (by omega))
        · omega
      subst hi
      exact ⟨f, rfl, rfl, hf1, hf2⟩
    · have hi2 : i < m := by
        rcases Nat.lt_or_ge i m with h | h
        · exact h
        · exact absurd (by rw [show m - i = 0 by omega]; decide) c_7
      refine mr_aload_n C 11 dX6_append_10 rfl rfl ?_
      refine mr_get C 0 14 dX6_append_11 rfl fl_X6_9 rfl rfl ?_
      refine mr_aload_n C 15 dX6_append_14 rfl rfl ?_
      refine mr_get C 0 18 dX6_append_15 rfl fl_X6_15 rfl rfl ?_
      refine mr_lload_n C 19 dX6_append_18 rfl rfl ?_
      refine mr_bipush C (nI 8) 21 dX6_append_19 rfl rfl ?_
      refine mr_iload C 23 dX6_append_21 rfl rfl ?_
      refine mr_imul C (nI (8 * (m - i - 1))) 24 dX6_append_23 rfl (by rw [pk_sub (by omega)]; exact pk_mul 8 _) ?_
      refine mr_lushr C _ 25 dX6_append_24 rfl rfl ?_
      refine mr_l2i C _ 26 dX6_append_25 rfl rfl ?_
      refine mr_sipush C (nI 255) 29 dX6_append_26 rfl rfl ?_
      refine mr_iand C _ 30 dX6_append_29 rfl rfl ?_
      refine mr_iast C 1 (S + i) 31 dX6_append_30 rfl rfl rfl (by omega) (by decide) ?_
      refine mr_aload_n C 32 dX6_append_31 rfl rfl ?_
      refine mr_dup C 33 dX6_append_32 rfl rfl ?_
      refine mr_get C 0 36 dX6_append_33 rfl fl_X6_15 rfl rfl ?_
      refine mr_iconst C (nI 1) 37 dX6_append_36 rfl rfl ?_
      refine mr_iadd C (nI ((S + i) + 1)) 38 dX6_append_37 rfl (nI_add _ _) ?_
      refine mr_put C 0 41 dX6_append_38 rfl fs_X6_15 rfl rfl rfl (Nat.le_of_ble_eq_true rfl) ?_
      refine mr_iinc C (nI (m - (i + 1)) - nI 1) 44 dX6_append_41 rfl rfl (by decide) (by rw [pk_sub (by omega : 1 ≤ m - i), show m - i - 1 = m - (i + 1) by omega]; exact sub1 _) ?_
      refine mr_goto C 5 dX6_append_44 (by decide) ?_
      refine mr_at (ih (by omega) _ ?_ ?_) rfl rfl rfl
      · intro j hj; rw [up_n (by omega)]; exact hf1 j hj
      · intro j hj
        rw [up_at]
        by_cases e : j = i
        · subst e; rw [if_pos rfl, show m - 1 - j = m - j - 1 by omega]; rfl
        · rw [if_neg (by omega)]; exact hf2 j (by omega)
  refine mr_iload_n C 1 dX6_append_0 rfl rfl ?_
  refine mr_iconst C (nI 1) 2 dX6_append_1 rfl rfl ?_
  refine mr_isub C _ 3 dX6_append_2 rfl rfl ?_
  refine mr_istore C 5 dX6_append_3 rfl (by decide) ?_
  exact mr_at (L 0 (Nat.zero_le _) t (fun j _ => rfl) (fun j h => absurd h (Nat.not_lt_zero j))) rfl rfl rfl

set_option maxRecDepth 20000 in
set_option maxHeartbeats 4000000 in
theorem c_passLetters (E : EG) (a : Nat → Nat) (b : Nat) (t : FN) (tk sr vl : Int32) (S p0 : Nat) (hS : S ≤ 400) (hp0 : p0 ≤ S) : Ctr E mX6_passLetters (1, 0, 0) [.ref (a b)] (wT E a b t (nI S) tk sr (nI p0) vl) (fun v w => v = none ∧ w = wT E a b t (nI S) (nI 1) sr (nI (scn pL t (S - p0) p0)) vl) := by
  refine Ctr.of (by decide) (Nat.le_of_ble_eq_true rfl) ?_
  intro Z hO hn C
  have hlen : zn Z ≤ 2 := by rw [hn]; exact Nat.le_of_ble_eq_true rfl
  generalize he0 : scn pL t (S - p0) p0 = e at hO
  have L : ∀ p, p ≤ S → scn pL t (S - p) p = e → V E mX6_passLetters (1, 0, 0) Z 0 0 (wT E a b t (nI S) (nI 1) sr (nI p) vl) [(0, .ref (a b))] [] 5 := by
    refine lp_up S ?_
    intro p hp ih he
    refine mr_aload_n C 6 dX6_passLetters_5 rfl rfl ?_
    refine mr_get C 0 9 dX6_passLetters_6 rfl fl_X6_19 rfl rfl ?_
    refine mr_aload_n C 10 dX6_passLetters_9 rfl rfl ?_
    refine mr_get C 0 13 dX6_passLetters_10 rfl fl_X6_15 rfl rfl ?_
    refine mr_icmpge C 44 16 dX6_passLetters_13 (by decide) rfl (fun c_13 => ?_) (fun c_13 => ?_)
    · rw [nI_leI (by omega) (by omega)] at c_13
      refine mr_vret C dX6_passLetters_44 rfl (by decide) (by decide) hlen ?_
      rw [hO]
      rw [scn_e c_13] at he
      subst he
      exact ⟨rfl, rfl⟩
    · rw [nI_leI (by omega) (by omega), Nat.not_le] at c_13
      refine mr_aload_n C 17 dX6_passLetters_16 rfl rfl ?_
      refine mr_get C 0 20 dX6_passLetters_17 rfl fl_X6_9 rfl rfl ?_
      refine mr_aload_n C 21 dX6_passLetters_20 rfl rfl ?_
      refine mr_get C 0 24 dX6_passLetters_21 rfl fl_X6_19 rfl rfl ?_
      refine mr_iald C 1 p 25 dX6_passLetters_24 rfl rfl rfl (by omega) (by decide) ?_
      refine mr_callS C (c_isLetter E (t p)) [] 28 dX6_passLetters_25 rfl mk_X6_isLetter ms_X6_isLetter ml_X6_35 rfl rfl rfl rfl (Nat.le_of_ble_eq_true rfl) (by decide) (by decide) (by decide) (fun r w1 hpost => ?_)
      obtain ⟨rfl, rfl⟩ := hpost
      refine mr_w (ws' := wT E a b t (nI S) (nI 1) sr (nI p) vl) rfl ?_
      refine mr_ifeq C 44 31 dX6_passLetters_28 (by decide) rfl (fun c_28 => ?_) (fun c_28 => ?_)
      · rw [bI_eq] at c_28
        refine mr_vret C dX6_passLetters_44 rfl (by decide) (by decide) hlen ?_
        rw [hO]
        rw [scn_f (by omega) c_28] at he
        subst he
        exact ⟨rfl, rfl⟩
      · rw [← Ne, bI_ne] at c_28
        refine mr_aload_n C 32 dX6_passLetters_31 rfl rfl ?_
        refine mr_dup C 33 dX6_passLetters_32 rfl rfl ?_
        refine mr_get C 0 36 dX6_passLetters_33 rfl fl_X6_19 rfl rfl ?_
        refine mr_iconst C (nI 1) 37 dX6_passLetters_36 rfl rfl ?_
        refine mr_iadd C (nI (p + 1)) 38 dX6_passLetters_37 rfl (nI_add _ _) ?_
        refine mr_put C 0 41 dX6_passLetters_38 rfl fs_X6_19 rfl rfl rfl (Nat.le_of_ble_eq_true rfl) ?_
        refine mr_goto C 5 dX6_passLetters_41 (by decide) ?_
        rw [scn_t c_13 c_28] at he
        exact mr_at (ih c_13 he) rfl rfl rfl
  refine mr_aload_n C 1 dX6_passLetters_0 rfl rfl ?_
  refine mr_iconst C (nI 1) 2 dX6_passLetters_1 rfl rfl ?_
  refine mr_put C 0 5 dX6_passLetters_2 rfl fs_X6_32 rfl rfl rfl (Nat.le_of_ble_eq_true rfl) ?_
  exact mr_at (L p0 hp0 he0) rfl rfl rfl

set_option maxRecDepth 20000 in
set_option maxHeartbeats 4000000 in
theorem c_passFigures (E : EG) (a : Nat → Nat) (b : Nat) (t : FN) (tk vl : Int32) (S s : Nat) (hS : S ≤ 400) (hs : s ≤ S) : Ctr E mX6_passFigures (1, 0, 0) [.ref (a b)] (wT E a b t (nI S) tk (nI s) (nI s) vl) (fun v w => v = none ∧ w = wT E a b t (nI S) (nI (if scn pF t (S - s) s - s ≤ 3 then 2 else 4)) (nI s) (nI (scn pF t (S - s) s)) (valS t s (min (scn pF t (S - s) s - s) 3))) := by
  refine Ctr.of (by decide) (Nat.le_of_ble_eq_true rfl) ?_
  intro Z hO hn C
  have hlen : zn Z ≤ 2 := by rw [hn]; exact Nat.le_of_ble_eq_true rfl
  generalize he0 : scn pF t (S - s) s = e at hO
  have LE : ∀ k, s + k ≤ S → s + k = e → V E mX6_passFigures (1, 0, 0) Z 0 0 (wT E a b t (nI S) tk (nI s) (nI (s + k)) (valS t s (min k 3))) [(0, .ref (a b))] [] 81 := by
    intro k hk hek
    have e4 : e - s = k := by omega
    rw [e4, ← hek] at hO
    refine mr_aload_n C 82 dX6_passFigures_81 rfl rfl ?_
    refine mr_aload_n C 83 dX6_passFigures_82 rfl rfl ?_
    refine mr_get C 0 86 dX6_passFigures_83 rfl fl_X6_19 rfl rfl ?_
    refine mr_aload_n C 87 dX6_passFigures_86 rfl rfl ?_
    refine mr_get C 0 90 dX6_passFigures_87 rfl fl_X6_29 rfl rfl ?_
    refine mr_isub C (nI k) 91 dX6_passFigures_90 rfl (subl s k) ?_
    refine mr_iconst C (nI 3) 92 dX6_passFigures_91 rfl rfl ?_
    refine mr_icmpgt C 99 95 dX6_passFigures_92 (by decide) rfl (fun c_92 => ?_) (fun c_92 => ?_)
    · rw [nI_ltI (by omega) (by omega)] at c_92
      refine mr_iconst C (nI 4) 100 dX6_passFigures_99 rfl rfl ?_
      refine mr_put C 0 103 dX6_passFigures_100 rfl fs_X6_32 rfl rfl rfl (Nat.le_of_ble_eq_true rfl) ?_
      refine mr_vret C dX6_passFigures_103 rfl (by decide) (by decide) hlen ?_
      rw [hO]
      have e : s + k = s + k := rfl
      refine ⟨rfl, ?_⟩
      rw [if_neg (by omega)]
      rfl
    · rw [nI_ltI (by omega) (by omega)] at c_92
      refine mr_iconst C (nI 2) 96 dX6_passFigures_95 rfl rfl ?_
      refine mr_goto C 100 dX6_passFigures_96 (by decide) ?_
      refine mr_put C 0 103 dX6_passFigures_100 rfl fs_X6_32 rfl rfl rfl (Nat.le_of_ble_eq_true rfl) ?_
      refine mr_vret C dX6_passFigures_103 rfl (by decide) (by decide) hlen ?_
      rw [hO]
      have e : s + k = s + k := rfl
      refine ⟨rfl, ?_⟩
      rw [if_pos (by omega)]
      rfl
  have L : ∀ k, k ≤ S - s → scn pF t (S - (s + k)) (s + k) = e → V E mX6_passFigures (1, 0, 0) Z 0 0 (wT E a b t (nI S) tk (nI s) (nI (s + k)) (valS t s (min k 3))) [(0, .ref (a b))] [] 5 := by
    refine lp_up (S - s) ?_
    intro k hk0 ih he
    have hk : s + k ≤ S := by omega
    refine mr_aload_n C 6 dX6_passFigures_5 rfl rfl ?_
    refine mr_get C 0 9 dX6_passFigures_6 rfl fl_X6_19 rfl rfl ?_
    refine mr_aload_n C 10 dX6_passFigures_9 rfl rfl ?_
    refine mr_get C 0 13 dX6_passFigures_10 rfl fl_X6_15 rfl rfl ?_
    refine mr_icmpge C 81 16 dX6_passFigures_13 (by decide) rfl (fun c_13 => ?_) (fun c_13 => ?_)
    · rw [nI_leI (by omega) (by omega)] at c_13
      rw [scn_e c_13] at he
      exact LE k hk he
    · rw [nI_leI (by omega) (by omega), Nat.not_le] at c_13
      refine mr_aload_n C 17 dX6_passFigures_16 rfl rfl ?_
      refine mr_get C 0 20 dX6_passFigures_17 rfl fl_X6_9 rfl rfl ?_
      refine mr_aload_n C 21 dX6_passFigures_20 rfl rfl ?_
      refine mr_get C 0 24 dX6_passFigures_21 rfl fl_X6_19 rfl rfl ?_
      refine mr_iald C 1 (s + k) 25 dX6_passFigures_24 rfl rfl rfl (by omega) (by decide) ?_
      refine mr_callS C (c_isFigure E (t (s + k))) [] 28 dX6_passFigures_25 rfl mk_X6_isFigure ms_X6_isFigure ml_X6_41 rfl rfl rfl rfl (Nat.le_of_ble_eq_true rfl) (by decide) (by decide) (by decide) (fun r w1 hpost => ?_)
      obtain ⟨rfl, rfl⟩ := hpost
      refine mr_w (ws' := wT E a b t (nI S) tk (nI s) (nI (s + k)) (valS t s (min k 3))) rfl ?_
      refine mr_ifeq C 81 31 dX6_passFigures_28 (by decide) rfl (fun c_28 => ?_) (fun c_28 => ?_)
      · rw [bI_eq] at c_28
        rw [scn_f (by omega) c_28] at he
        exact LE k hk he
      · rw [← Ne, bI_ne] at c_28
        refine mr_aload_n C 32 dX6_passFigures_31 rfl rfl ?_
        refine mr_get C 0 35 dX6_passFigures_32 rfl fl_X6_19 rfl rfl ?_
        refine mr_aload_n C 36 dX6_passFigures_35 rfl rfl ?_
        refine mr_get C 0 39 dX6_passFigures_36 rfl fl_X6_29 rfl rfl ?_
        refine mr_isub C (nI k) 40 dX6_passFigures_39 rfl (subl s k) ?_
        refine mr_iconst C (nI 3) 41 dX6_passFigures_40 rfl rfl ?_
        refine mr_icmpge C 68 44 dX6_passFigures_41 (by decide) rfl (fun c_41 => ?_) (fun c_41 => ?_)
        · rw [nI_leI (by omega) (by omega)] at c_41
          refine mr_aload_n C 69 dX6_passFigures_68 rfl rfl ?_
          refine mr_dup C 70 dX6_passFigures_69 rfl rfl ?_
          refine mr_get C 0 73 dX6_passFigures_70 rfl fl_X6_19 rfl rfl ?_
          refine mr_iconst C (nI 1) 74 dX6_passFigures_73 rfl rfl ?_
          refine mr_iadd C (nI ((s + k) + 1)) 75 dX6_passFigures_74 rfl (nI_add _ _) ?_
          refine mr_put C 0 78 dX6_passFigures_75 rfl fs_X6_19 rfl rfl rfl (Nat.le_of_ble_eq_true rfl) ?_
          refine mr_goto C 5 dX6_passFigures_78 (by decide) ?_
          rw [scn_t c_13 c_28] at he
          have e3 : valS t s (min (k + 1) 3) = valS t s (min k 3) := by rw [show min (k + 1) 3 = min k 3 by omega]
          have ih2 := ih (by omega) he
          rw [e3] at ih2
          exact mr_at ih2 rfl rfl rfl
        · rw [nI_leI (by omega) (by omega)] at c_41
          refine mr_aload_n C 45 dX6_passFigures_44 rfl rfl ?_
          refine mr_aload_n C 46 dX6_passFigures_45 rfl rfl ?_
          refine mr_get C 0 49 dX6_passFigures_46 rfl fl_X6_57 rfl rfl ?_
          refine mr_bipush C (nI 10) 51 dX6_passFigures_49 rfl rfl ?_
          refine mr_imul C _ 52 dX6_passFigures_51 rfl rfl ?_
          refine mr_aload_n C 53 dX6_passFigures_52 rfl rfl ?_
          refine mr_get C 0 56 dX6_passFigures_53 rfl fl_X6_9 rfl rfl ?_
          refine mr_aload_n C 57 dX6_passFigures_56 rfl rfl ?_
          refine mr_get C 0 60 dX6_passFigures_57 rfl fl_X6_19 rfl rfl ?_
          refine mr_iald C 1 (s + k) 61 dX6_passFigures_60 rfl rfl rfl (by omega) (by decide) ?_
          refine mr_iadd C _ 62 dX6_passFigures_61 rfl rfl ?_
          refine mr_bipush C (nI 48) 64 dX6_passFigures_62 rfl rfl ?_
          refine mr_isub C _ 65 dX6_passFigures_64 rfl rfl ?_
          refine mr_put C 0 68 dX6_passFigures_65 rfl fs_X6_57 rfl rfl rfl (Nat.le_of_ble_eq_true rfl) ?_
          refine mr_aload_n C 69 dX6_passFigures_68 rfl rfl ?_
          refine mr_dup C 70 dX6_passFigures_69 rfl rfl ?_
          refine mr_get C 0 73 dX6_passFigures_70 rfl fl_X6_19 rfl rfl ?_
          refine mr_iconst C (nI 1) 74 dX6_passFigures_73 rfl rfl ?_
          refine mr_iadd C (nI ((s + k) + 1)) 75 dX6_passFigures_74 rfl (nI_add _ _) ?_
          refine mr_put C 0 78 dX6_passFigures_75 rfl fs_X6_19 rfl rfl rfl (Nat.le_of_ble_eq_true rfl) ?_
          refine mr_goto C 5 dX6_passFigures_78 (by decide) ?_
          rw [scn_t c_13 c_28] at he
          have e3 : valS t s (min (k + 1) 3) = valS t s (min k 3) * nI 10 + t (s + k) - nI 48 := by rw [show min (k + 1) 3 = min k 3 + 1 by omega, show min k 3 = k by omega]; rfl
          have ih2 := ih (by omega) he
          rw [e3] at ih2
          exact mr_at ih2 rfl rfl rfl
  refine mr_aload_n C 1 dX6_passFigures_0 rfl rfl ?_
  refine mr_iconst C (nI 0) 2 dX6_passFigures_1 rfl rfl ?_
  refine mr_put C 0 5 dX6_passFigures_2 rfl fs_X6_57 rfl rfl rfl (Nat.le_of_ble_eq_true rfl) ?_
  exact mr_at (L 0 (Nat.zero_le _) he0) rfl rfl rfl

