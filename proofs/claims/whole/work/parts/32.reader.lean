/-! Reader: word, number, end, sort -/
noncomputable def ifP {α : Type} (p : Prop) (x y : α) : α := @ite α p (Classical.propDecidable p) x y
theorem ifP_t {α : Type} {p : Prop} {x y : α} (h : p) : ifP p x y = x := @if_pos p (Classical.propDecidable p) h α x y
theorem ifP_f {α : Type} {p : Prop} {x y : α} (h : ¬ p) : ifP p x y = y := @if_neg p (Classical.propDecidable p) h α x y
theorem tkS_lt (t : FN) (S p : Nat) : tkS t S p < 5 := by
  unfold tkS
  split
  · omega
  · split
    · omega
    · split
      · split <;> omega
      · split <;> omega
/-- the token behind cursor p is word w -/
def isW (t : FN) (S p w : Nat) : Prop := tkS t S p = 1 ∧ wordS t (stS t S p) (nxS t S p) w
/-- the number of the token behind p, where it is one -/
def vlS (t : FN) (S p : Nat) : Int32 := valS t (stS t S p) (nxS t S p - stS t S p)
def vOK (t : FN) (S p : Nat) (vl : Int32) : Prop := tkS t S p = 2 → vl = vlS t S p
/-- a fault (its cursor, its number), or what was read -/
abbrev RS (α : Type) : Type := (Nat × Nat) ⊕ α
noncomputable def rdWord (t : FN) (S p w : Nat) (left : Prop) : RS Nat := ifP (isW t S p w) (ifP left (.inr (nxS t S p)) (.inl (p, 3))) (.inl (p, 1))
def rdNum (t : FN) (S p : Nat) (lo hi un : Int32) : RS Nat := if tkS t S p = 2 then (if vlS t S p < lo ∨ hi < vlS t S p ∨ vlS t S p = un then .inl (p, 2) else .inr (nxS t S p)) else .inl (p, 1)
def rdEnd (t : FN) (S p : Nat) : RS Nat := if tkS t S p = 3 then .inr (nxS t S p) else .inl (p, 1)
noncomputable def rdSort (t : FN) (S p : Nat) : Nat := ifP (isW t S p 3) 1 (ifP (isW t S p 4) 2 (ifP (isW t S p 5) 3 (ifP (isW t S p 6) 4 (ifP (isW t S p 7) 5 0))))
/-- a Reader and its tape at cursor p -/
def wRt (E : EG) (a : Nat → Nat) (b b2 b3 : Nat) (pt dc fn : Int32) (t : FN) (S p : Nat) (vl : Int32) : va_W :=
  (a b, .inr (4, [.ref (a b2), .ref (a b3), .int pt, .int dc, .int fn])) :: wT E a b2 t (nI S) (nI (tkS t S p)) (nI (stS t S p)) (nI (nxS t S p)) vl
/-- the answer of a small reader -/
def RP (E : EG) (a : Nat → Nat) (b b2 b3 : Nat) (pt dc fn : Int32) (t : FN) (S : Nat) (r : RS Nat) : PO := fun v w => match r with
  | .inl (p, f) => v = some (.int (nI 0)) ∧ ∃ vl : Int32, vOK t S p vl ∧ w = wRt E a b b2 b3 pt dc (nI f) t S p vl
  | .inr p => v = some (.int (nI 1)) ∧ ∃ vl : Int32, vOK t S p vl ∧ w = wRt E a b b2 b3 pt dc fn t S p vl
set_option maxRecDepth 20000 in
set_option maxHeartbeats 4000000 in
theorem c_failed (E : EG) (a : Nat → Nat) (b b2 b3 : Nat) (pt dc fn x : Int32) : Ctr E mX4_failed (0, 0, 0) [.ref (a b), .int x] ([(a b, .inr (4, [.ref (a b2), .ref (a b3), .int pt, .int dc, .int fn]))]) (fun v w => v = some (.int (nI 0)) ∧ w = [(a b, .inr (4, [.ref (a b2), .ref (a b3), .int pt, .int dc, .int x]))]) := by
  refine Ctr.of (by decide) (Nat.le_of_ble_eq_true rfl) ?_
  intro Z hO hn C
  have hlen : zn Z ≤ 1 := by rw [hn]; exact Nat.le_of_ble_eq_true rfl
  refine mr_aload_n C 1 dX4_failed_0 rfl rfl ?_
  refine mr_iload_n C 2 dX4_failed_1 rfl rfl ?_
  refine mr_put C 0 5 dX4_failed_2 rfl fs_X4_121 rfl rfl rfl (Nat.le_of_ble_eq_true rfl) ?_
  refine mr_iconst C (nI 0) 6 dX4_failed_5 rfl rfl ?_
  refine mr_iret C dX4_failed_6 rfl rfl (by decide) (by decide) hlen ?_
  rw [hO]
  exact ⟨rfl, rfl⟩

set_option maxRecDepth 20000 in
set_option maxHeartbeats 4000000 in
theorem c_readEnd (E : EG) (a : Nat → Nat) (b b2 b3 : Nat) (pt dc fn : Int32) (t : FN) (S p : Nat) (vl : Int32) (hS : S ≤ 400) (hp : p ≤ S) (hv : vOK t S p vl) : Ctr E mX4_readEnd (3, 0, 0) [.ref (a b)] (wRt E a b b2 b3 pt dc fn t S p vl) (RP E a b b2 b3 pt dc fn t S (rdEnd t S p)) := by
  refine Ctr.of (by decide) (Nat.le_of_ble_eq_true rfl) ?_
  intro Z hO hn C
  have hlen : zn Z ≤ 3 := by rw [hn]; exact Nat.le_of_ble_eq_true rfl
  have htk := tkS_lt t S p
  have hst := stS_le (t := t) hp
  have hnx := nxS_le (t := t) hp
  refine mr_aload_n C 1 dX4_readEnd_0 rfl rfl ?_
  refine mr_get C 0 4 dX4_readEnd_1 rfl fl_X4_18 rfl rfl ?_
  refine mr_get C 1 7 dX4_readEnd_4 rfl fl_X4_41 rfl rfl ?_
  refine mr_iconst C (nI 3) 8 dX4_readEnd_7 rfl rfl ?_
  refine mr_icmpeq C 17 11 dX4_readEnd_8 (by decide) rfl (fun c_8 => ?_) (fun c_8 => ?_)
  · rw [nI_eq (by omega) (by omega)] at c_8
    refine mr_aload_n C 18 dX4_readEnd_17 rfl rfl ?_
    refine mr_get C 0 21 dX4_readEnd_18 rfl fl_X4_18 rfl rfl ?_
    refine mr_callV C (c_step E a b2 t (nI (tkS t S p)) (nI (stS t S p)) vl S (nxS t S p) hS hnx.2) [1, 2] 1 6 24 dX4_readEnd_21 rfl mk_X6_step mi_X6_step ml_X4_99 rfl rfl rfl rfl rfl (Nat.le_of_ble_eq_true rfl) (by decide) (by decide) (by decide) rfl rfl (fun r w1 hpost => ?_)
    obtain ⟨vl2, rfl, rfl, hv2⟩ := hpost
    refine mr_w (ws' := wRt E a b b2 b3 pt dc fn t S (nxS t S p) vl2) rfl ?_
    refine mr_iconst C (nI 1) 25 dX4_readEnd_24 rfl rfl ?_
    refine mr_iret C dX4_readEnd_25 rfl rfl (by decide) (by decide) hlen ?_
    rw [hO]
    rw [show rdEnd t S p = .inr (nxS t S p) from if_pos c_8]
    exact And.intro rfl ⟨_, hv2, rfl⟩
  · rw [nI_eq (by omega) (by omega)] at c_8
    refine mr_aload_n C 12 dX4_readEnd_11 rfl rfl ?_
    refine mr_iconst C (nI 1) 13 dX4_readEnd_12 rfl rfl ?_
    refine mr_callV C (c_failed E a b b2 b3 pt dc fn (nI 1)) [0] 0 4 16 dX4_readEnd_13 rfl mk_X4_failed mi_X4_failed ml_X4_95 rfl rfl rfl rfl rfl (Nat.le_of_ble_eq_true rfl) (by decide) (by decide) (by decide) rfl rfl (fun r w1 hpost => ?_)
    obtain ⟨rfl, rfl⟩ := hpost
    refine mr_w (ws' := wRt E a b b2 b3 pt dc (nI 1) t S p vl) rfl ?_
    refine mr_iret C dX4_readEnd_16 rfl rfl (by decide) (by decide) hlen ?_
    rw [hO]
    rw [show rdEnd t S p = .inl (p, 1) from if_neg c_8]
    exact And.intro rfl ⟨_, hv, rfl⟩

set_option maxRecDepth 20000 in
set_option maxHeartbeats 4000000 in
theorem c_readNumber (E : EG) (a : Nat → Nat) (b b2 b3 : Nat) (pt dc fn : Int32) (t : FN) (S p : Nat) (vl : Int32) (lo hi un : Int32) (hS : S ≤ 400) (hp : p ≤ S) (hv : vOK t S p vl) : Ctr E mX4_readNumber (3, 0, 0) [.ref (a b), .int lo, .int hi, .int un] (wRt E a b b2 b3 pt dc fn t S p vl) (RP E a b b2 b3 pt dc fn t S (rdNum t S p lo hi un)) := by
  refine Ctr.of (by decide) (Nat.le_of_ble_eq_true rfl) ?_
  intro Z hO hn C
  have hlen : zn Z ≤ 3 := by rw [hn]; exact Nat.le_of_ble_eq_true rfl
  have htk := tkS_lt t S p
  have hst := stS_le (t := t) hp
  have hnx := nxS_le (t := t) hp
  refine mr_aload_n C 1 dX4_readNumber_0 rfl rfl ?_
  refine mr_get C 0 4 dX4_readNumber_1 rfl fl_X4_18 rfl rfl ?_
  refine mr_get C 1 7 dX4_readNumber_4 rfl fl_X4_41 rfl rfl ?_
  refine mr_iconst C (nI 2) 8 dX4_readNumber_7 rfl rfl ?_
  refine mr_icmpeq C 17 11 dX4_readNumber_8 (by decide) rfl (fun c_8 => ?_) (fun c_8 => ?_)
  · rw [nI_eq (by omega) (by omega)] at c_8
    refine mr_aload_n C 18 dX4_readNumber_17 rfl rfl ?_
    refine mr_get C 0 21 dX4_readNumber_18 rfl fl_X4_18 rfl rfl ?_
    refine mr_get C 1 24 dX4_readNumber_21 rfl fl_X4_68 rfl rfl ?_
    refine mr_iload_n C 25 dX4_readNumber_24 rfl rfl ?_
    refine mr_icmplt C 50 28 dX4_readNumber_25 (by decide) rfl (fun c_25 => ?_) (fun c_25 => ?_)
    · refine mr_aload_n C 51 dX4_readNumber_50 rfl rfl ?_
      refine mr_iconst C (nI 2) 52 dX4_readNumber_51 rfl rfl ?_
      refine mr_callV C (c_failed E a b b2 b3 pt dc fn (nI 2)) [0] 0 4 55 dX4_readNumber_52 rfl mk_X4_failed mi_X4_failed ml_X4_95 rfl rfl rfl rfl rfl (Nat.le_of_ble_eq_true rfl) (by decide) (by decide) (by decide) rfl rfl (fun r w1 hpost => ?_)
      obtain ⟨rfl, rfl⟩ := hpost
      refine mr_w (ws' := wRt E a b b2 b3 pt dc (nI 2) t S p vl) rfl ?_
      refine mr_iret C dX4_readNumber_55 rfl rfl (by decide) (by decide) hlen ?_
      rw [hO]
      rw [show rdNum t S p lo hi un = .inl (p, 2) from (if_pos c_8).trans (if_pos (Or.inl (by rw [← hv c_8]; exact c_25)))]
      exact And.intro rfl ⟨_, hv, rfl⟩
    · refine mr_aload_n C 29 dX4_readNumber_28 rfl rfl ?_
      refine mr_get C 0 32 dX4_readNumber_29 rfl fl_X4_18 rfl rfl ?_
      refine mr_get C 1 35 dX4_readNumber_32 rfl fl_X4_68 rfl rfl ?_
      refine mr_iload_n C 36 dX4_readNumber_35 rfl rfl ?_
      refine mr_icmpgt C 50 39 dX4_readNumber_36 (by decide) rfl (fun c_36 => ?_) (fun c_36 => ?_)
      · refine mr_aload_n C 51 dX4_readNumber_50 rfl rfl ?_
        refine mr_iconst C (nI 2) 52 dX4_readNumber_51 rfl rfl ?_
        refine mr_callV C (c_failed E a b b2 b3 pt dc fn (nI 2)) [0] 0 4 55 dX4_readNumber_52 rfl mk_X4_failed mi_X4_failed ml_X4_95 rfl rfl rfl rfl rfl (Nat.le_of_ble_eq_true rfl) (by decide) (by decide) (by decide) rfl rfl (fun r w1 hpost => ?_)
        obtain ⟨rfl, rfl⟩ := hpost
        refine mr_w (ws' := wRt E a b b2 b3 pt dc (nI 2) t S p vl) rfl ?_
        refine mr_iret C dX4_readNumber_55 rfl rfl (by decide) (by decide) hlen ?_
        rw [hO]
        rw [show rdNum t S p lo hi un = .inl (p, 2) from (if_pos c_8).trans (if_pos (Or.inr (Or.inl (by rw [← hv c_8]; exact c_36))))]
        exact And.intro rfl ⟨_, hv, rfl⟩
      · refine mr_aload_n C 40 dX4_readNumber_39 rfl rfl ?_
        refine mr_get C 0 43 dX4_readNumber_40 rfl fl_X4_18 rfl rfl ?_
        refine mr_get C 1 46 dX4_readNumber_43 rfl fl_X4_68 rfl rfl ?_
        refine mr_iload_n C 47 dX4_readNumber_46 rfl rfl ?_
        refine mr_icmpne C 56 50 dX4_readNumber_47 (by decide) rfl (fun c_47 => ?_) (fun c_47 => ?_)
        · refine mr_aload_n C 57 dX4_readNumber_56 rfl rfl ?_
          refine mr_get C 0 60 dX4_readNumber_57 rfl fl_X4_18 rfl rfl ?_
          refine mr_callV C (c_step E a b2 t (nI (tkS t S p)) (nI (stS t S p)) vl S (nxS t S p) hS hnx.2) [1, 2] 1 6 63 dX4_readNumber_60 rfl mk_X6_step mi_X6_step ml_X4_99 rfl rfl rfl rfl rfl (Nat.le_of_ble_eq_true rfl) (by decide) (by decide) (by decide) rfl rfl (fun r w1 hpost => ?_)
          obtain ⟨vl2, rfl, rfl, hv2⟩ := hpost
          refine mr_w (ws' := wRt E a b b2 b3 pt dc fn t S (nxS t S p) vl2) rfl ?_
          refine mr_iconst C (nI 1) 64 dX4_readNumber_63 rfl rfl ?_
          refine mr_iret C dX4_readNumber_64 rfl rfl (by decide) (by decide) hlen ?_
          rw [hO]
          rw [show rdNum t S p lo hi un = .inr (nxS t S p) from (if_pos c_8).trans (if_neg (fun h => by rw [← hv c_8] at h; exact h.elim c_25 (fun h => h.elim c_36 c_47)))]
          exact And.intro rfl ⟨_, hv2, rfl⟩
        · refine mr_aload_n C 51 dX4_readNumber_50 rfl rfl ?_
          refine mr_iconst C (nI 2) 52 dX4_readNumber_51 rfl rfl ?_
          refine mr_callV C (c_failed E a b b2 b3 pt dc fn (nI 2)) [0] 0 4 55 dX4_readNumber_52 rfl mk_X4_failed mi_X4_failed ml_X4_95 rfl rfl rfl rfl rfl (Nat.le_of_ble_eq_true rfl) (by decide) (by decide) (by decide) rfl rfl (fun r w1 hpost => ?_)
          obtain ⟨rfl, rfl⟩ := hpost
          refine mr_w (ws' := wRt E a b b2 b3 pt dc (nI 2) t S p vl) rfl ?_
          refine mr_iret C dX4_readNumber_55 rfl rfl (by decide) (by decide) hlen ?_
          rw [hO]
          rw [show rdNum t S p lo hi un = .inl (p, 2) from (if_pos c_8).trans (if_pos (Or.inr (Or.inr (by rw [← hv c_8]; exact c_47))))]
          exact And.intro rfl ⟨_, hv, rfl⟩
  · rw [nI_eq (by omega) (by omega)] at c_8
    refine mr_aload_n C 12 dX4_readNumber_11 rfl rfl ?_
    refine mr_iconst C (nI 1) 13 dX4_readNumber_12 rfl rfl ?_
    refine mr_callV C (c_failed E a b b2 b3 pt dc fn (nI 1)) [0] 0 4 16 dX4_readNumber_13 rfl mk_X4_failed mi_X4_failed ml_X4_95 rfl rfl rfl rfl rfl (Nat.le_of_ble_eq_true rfl) (by decide) (by decide) (by decide) rfl rfl (fun r w1 hpost => ?_)
    obtain ⟨rfl, rfl⟩ := hpost
    refine mr_w (ws' := wRt E a b b2 b3 pt dc (nI 1) t S p vl) rfl ?_
    refine mr_iret C dX4_readNumber_16 rfl rfl (by decide) (by decide) hlen ?_
    rw [hO]
    rw [show rdNum t S p lo hi un = .inl (p, 1) from if_neg c_8]
    exact And.intro rfl ⟨_, hv, rfl⟩

set_option maxRecDepth 20000 in
set_option maxHeartbeats 4000000 in
theorem c_readWord (E : EG) (a : Nat → Nat) (b b2 b3 : Nat) (pt dc fn : Int32) (t : FN) (S p : Nat) (vl : Int32) (wd : Nat) (left : Prop) (lf : Int32) (hlf : lf = bP left) (hwd : wd < 8) (hS : S ≤ 400) (hp : p ≤ S) (hv : vOK t S p vl) : Ctr E mX4_readWord (6, 0, 0) [.ref (a b), .ref (E.2.1 (10 + wd)), .int lf] (wRt E a b b2 b3 pt dc fn t S p vl) (RP E a b b2 b3 pt dc fn t S (rdWord t S p wd left)) := by
  refine Ctr.of (by decide) (Nat.le_of_ble_eq_true rfl) ?_
  intro Z hO hn C
  have hlen : zn Z ≤ 3 := by rw [hn]; exact Nat.le_of_ble_eq_true rfl
  subst hlf
  have htk := tkS_lt t S p
  have hst := stS_le (t := t) hp
  have hnx := nxS_le (t := t) hp
  refine mr_aload_n C 1 dX4_readWord_0 rfl rfl ?_
  refine mr_get C 0 4 dX4_readWord_1 rfl fl_X4_18 rfl rfl ?_
  refine mr_aload_n C 5 dX4_readWord_4 rfl rfl ?_
  refine mr_callV C (c_isWord E a b2 t vl S (tkS t S p) (stS t S p) (nxS t S p) wd hS (by omega) hnx.1 hnx.2 (by omega)) [1, 2] 1 6 8 dX4_readWord_5 rfl mk_X6_isWord mi_X6_isWord ml_X4_49 rfl rfl rfl rfl rfl (Nat.le_of_ble_eq_true rfl) (by decide) (by decide) (by decide) rfl rfl (fun r w1 hpost => ?_)
  obtain ⟨rfl, rfl⟩ := hpost
  refine mr_w (ws' := wRt E a b b2 b3 pt dc fn t S p vl) rfl ?_
  refine mr_ifne C 17 11 dX4_readWord_8 (by decide) rfl (fun c_8 => ?_) (fun c_8 => ?_)
  · rw [bP_ne] at c_8
    refine mr_iload_n C 18 dX4_readWord_17 rfl rfl ?_
    refine mr_ifne C 27 21 dX4_readWord_18 (by decide) rfl (fun c_18 => ?_) (fun c_18 => ?_)
    · refine mr_aload_n C 28 dX4_readWord_27 rfl rfl ?_
      refine mr_get C 0 31 dX4_readWord_28 rfl fl_X4_18 rfl rfl ?_
      refine mr_callV C (c_step E a b2 t (nI (tkS t S p)) (nI (stS t S p)) vl S (nxS t S p) hS hnx.2) [1, 2] 1 6 34 dX4_readWord_31 rfl mk_X6_step mi_X6_step ml_X4_99 rfl rfl rfl rfl rfl (Nat.le_of_ble_eq_true rfl) (by decide) (by decide) (by decide) rfl rfl (fun r w1 hpost => ?_)
      obtain ⟨vl2, rfl, rfl, hv2⟩ := hpost
      refine mr_w (ws' := wRt E a b b2 b3 pt dc fn t S (nxS t S p) vl2) rfl ?_
      refine mr_iconst C (nI 1) 35 dX4_readWord_34 rfl rfl ?_
      refine mr_iret C dX4_readWord_35 rfl rfl (by decide) (by decide) hlen ?_
      rw [hO]
      rw [show rdWord t S p wd left = .inr (nxS t S p) from (ifP_t c_8).trans (ifP_t (bP_ne.mp c_18))]
      exact And.intro rfl ⟨_, hv2, rfl⟩
    · refine mr_aload_n C 22 dX4_readWord_21 rfl rfl ?_
      refine mr_iconst C (nI 3) 23 dX4_readWord_22 rfl rfl ?_
      refine mr_callV C (c_failed E a b b2 b3 pt dc fn (nI 3)) [0] 0 4 26 dX4_readWord_23 rfl mk_X4_failed mi_X4_failed ml_X4_95 rfl rfl rfl rfl rfl (Nat.le_of_ble_eq_true rfl) (by decide) (by decide) (by decide) rfl rfl (fun r w1 hpost => ?_)
      obtain ⟨rfl, rfl⟩ := hpost
      refine mr_w (ws' := wRt E a b b2 b3 pt dc (nI 3) t S p vl) rfl ?_
      refine mr_iret C dX4_readWord_26 rfl rfl (by decide) (by decide) hlen ?_
      rw [hO]
      rw [show rdWord t S p wd left = .inl (p, 3) from (ifP_t c_8).trans (ifP_f (fun h => (bP_ne.mpr h) c_18))]
      exact And.intro rfl ⟨_, hv, rfl⟩
  · rw [bP_eq] at c_8
    refine mr_aload_n C 12 dX4_readWord_11 rfl rfl ?_
    refine mr_iconst C (nI 1) 13 dX4_readWord_12 rfl rfl ?_
    refine mr_callV C (c_failed E a b b2 b3 pt dc fn (nI 1)) [0] 0 4 16 dX4_readWord_13 rfl mk_X4_failed mi_X4_failed ml_X4_95 rfl rfl rfl rfl rfl (Nat.le_of_ble_eq_true rfl) (by decide) (by decide) (by decide) rfl rfl (fun r w1 hpost => ?_)
    obtain ⟨rfl, rfl⟩ := hpost
    refine mr_w (ws' := wRt E a b b2 b3 pt dc (nI 1) t S p vl) rfl ?_
    refine mr_iret C dX4_readWord_16 rfl rfl (by decide) (by decide) hlen ?_
    rw [hO]
    rw [show rdWord t S p wd left = .inl (p, 1) from ifP_f c_8]
    exact And.intro rfl ⟨_, hv, rfl⟩

set_option maxRecDepth 20000 in
set_option maxHeartbeats 4000000 in
theorem c_sortNamed (E : EG) (a : Nat → Nat) (b b2 b3 : Nat) (pt dc fn : Int32) (t : FN) (S p : Nat) (vl : Int32) (hS : S ≤ 400) (hp : p ≤ S) (hv : vOK t S p vl) : Ctr E mX4_sortNamed (6, 0, 0) [.ref (a b)] (wRt E a b b2 b3 pt dc fn t S p vl) (fun v w => v = some (.int (nI (rdSort t S p))) ∧ w = wRt E a b b2 b3 pt dc fn t S p vl) := by
  refine Ctr.of (by decide) (Nat.le_of_ble_eq_true rfl) ?_
  intro Z hO hn C
  have hlen : zn Z ≤ 3 := by rw [hn]; exact Nat.le_of_ble_eq_true rfl
  have htk := tkS_lt t S p
  have hst := stS_le (t := t) hp
  have hnx := nxS_le (t := t) hp
  refine mr_aload_n C 1 dX4_sortNamed_0 rfl rfl ?_
  refine mr_get C 0 4 dX4_sortNamed_1 rfl fl_X4_18 rfl rfl ?_
  refine mr_str C 3 (by decide) 6 dX4_sortNamed_4 rfl rfl rfl ?_
  refine mr_callV C (c_isWord E a b2 t vl S (tkS t S p) (stS t S p) (nxS t S p) 3 hS (by omega) hnx.1 hnx.2 (by omega)) [1, 2] 1 6 9 dX4_sortNamed_6 rfl mk_X6_isWord mi_X6_isWord ml_X4_49 rfl rfl rfl rfl rfl (Nat.le_of_ble_eq_true rfl) (by decide) (by decide) (by decide) rfl rfl (fun r w1 hpost => ?_)
  obtain ⟨rfl, rfl⟩ := hpost
  refine mr_w (ws' := wRt E a b b2 b3 pt dc fn t S p vl) rfl ?_
  refine mr_ifeq C 14 12 dX4_sortNamed_9 (by decide) rfl (fun c_9 => ?_) (fun c_9 => ?_)
  · rw [bP_eq] at c_9
    refine mr_aload_n C 15 dX4_sortNamed_14 rfl rfl ?_
    refine mr_get C 0 18 dX4_sortNamed_15 rfl fl_X4_18 rfl rfl ?_
    refine mr_str C 4 (by decide) 20 dX4_sortNamed_18 rfl rfl rfl ?_
    refine mr_callV C (c_isWord E a b2 t vl S (tkS t S p) (stS t S p) (nxS t S p) 4 hS (by omega) hnx.1 hnx.2 (by omega)) [1, 2] 1 6 23 dX4_sortNamed_20 rfl mk_X6_isWord mi_X6_isWord ml_X4_49 rfl rfl rfl rfl rfl (Nat.le_of_ble_eq_true rfl) (by decide) (by decide) (by decide) rfl rfl (fun r w1 hpost => ?_)
    obtain ⟨rfl, rfl⟩ := hpost
    refine mr_w (ws' := wRt E a b b2 b3 pt dc fn t S p vl) rfl ?_
    refine mr_ifeq C 28 26 dX4_sortNamed_23 (by decide) rfl (fun c_23 => ?_) (fun c_23 => ?_)
    · rw [bP_eq] at c_23
      refine mr_aload_n C 29 dX4_sortNamed_28 rfl rfl ?_
      refine mr_get C 0 32 dX4_sortNamed_29 rfl fl_X4_18 rfl rfl ?_
      refine mr_str C 5 (by decide) 34 dX4_sortNamed_32 rfl rfl rfl ?_
      refine mr_callV C (c_isWord E a b2 t vl S (tkS t S p) (stS t S p) (nxS t S p) 5 hS (by omega) hnx.1 hnx.2 (by omega)) [1, 2] 1 6 37 dX4_sortNamed_34 rfl mk_X6_isWord mi_X6_isWord ml_X4_49 rfl rfl rfl rfl rfl (Nat.le_of_ble_eq_true rfl) (by decide) (by decide) (by decide) rfl rfl (fun r w1 hpost => ?_)
      obtain ⟨rfl, rfl⟩ := hpost
      refine mr_w (ws' := wRt E a b b2 b3 pt dc fn t S p vl) rfl ?_
      refine mr_ifeq C 42 40 dX4_sortNamed_37 (by decide) rfl (fun c_37 => ?_) (fun c_37 => ?_)
      · rw [bP_eq] at c_37
        refine mr_aload_n C 43 dX4_sortNamed_42 rfl rfl ?_
        refine mr_get C 0 46 dX4_sortNamed_43 rfl fl_X4_18 rfl rfl ?_
        refine mr_str C 6 (by decide) 48 dX4_sortNamed_46 rfl rfl rfl ?_
        refine mr_callV C (c_isWord E a b2 t vl S (tkS t S p) (stS t S p) (nxS t S p) 6 hS (by omega) hnx.1 hnx.2 (by omega)) [1, 2] 1 6 51 dX4_sortNamed_48 rfl mk_X6_isWord mi_X6_isWord ml_X4_49 rfl rfl rfl rfl rfl (Nat.le_of_ble_eq_true rfl) (by decide) (by decide) (by decide) rfl rfl (fun r w1 hpost => ?_)
        obtain ⟨rfl, rfl⟩ := hpost
        refine mr_w (ws' := wRt E a b b2 b3 pt dc fn t S p vl) rfl ?_
        refine mr_ifeq C 56 54 dX4_sortNamed_51 (by decide) rfl (fun c_51 => ?_) (fun c_51 => ?_)
        · rw [bP_eq] at c_51
          refine mr_aload_n C 57 dX4_sortNamed_56 rfl rfl ?_
          refine mr_get C 0 60 dX4_sortNamed_57 rfl fl_X4_18 rfl rfl ?_
          refine mr_str C 7 (by decide) 62 dX4_sortNamed_60 rfl rfl rfl ?_
          refine mr_callV C (c_isWord E a b2 t vl S (tkS t S p) (stS t S p) (nxS t S p) 7 hS (by omega) hnx.1 hnx.2 (by omega)) [1, 2] 1 6 65 dX4_sortNamed_62 rfl mk_X6_isWord mi_X6_isWord ml_X4_49 rfl rfl rfl rfl rfl (Nat.le_of_ble_eq_true rfl) (by decide) (by decide) (by decide) rfl rfl (fun r w1 hpost => ?_)
          obtain ⟨rfl, rfl⟩ := hpost
          refine mr_w (ws' := wRt E a b b2 b3 pt dc fn t S p vl) rfl ?_
          refine mr_ifeq C 72 68 dX4_sortNamed_65 (by decide) rfl (fun c_65 => ?_) (fun c_65 => ?_)
          · rw [bP_eq] at c_65
            refine mr_iconst C (nI 0) 73 dX4_sortNamed_72 rfl rfl ?_
            refine mr_iret C dX4_sortNamed_73 rfl rfl (by decide) (by decide) hlen ?_
            rw [hO]
            rw [show rdSort t S p = 0 from (ifP_f c_9).trans ((ifP_f c_23).trans ((ifP_f c_37).trans ((ifP_f c_51).trans ((ifP_f c_65)))))]
            exact ⟨rfl, rfl⟩
          · rw [← Ne, bP_ne] at c_65
            refine mr_iconst C (nI 5) 69 dX4_sortNamed_68 rfl rfl ?_
            refine mr_goto C 73 dX4_sortNamed_69 (by decide) ?_
            refine mr_iret C dX4_sortNamed_73 rfl rfl (by decide) (by decide) hlen ?_
            rw [hO]
            rw [show rdSort t S p = 5 from (ifP_f c_9).trans ((ifP_f c_23).trans ((ifP_f c_37).trans ((ifP_f c_51).trans ((ifP_t c_65)))))]
            exact ⟨rfl, rfl⟩
        · rw [← Ne, bP_ne] at c_51
          refine mr_iconst C (nI 4) 55 dX4_sortNamed_54 rfl rfl ?_
          refine mr_iret C dX4_sortNamed_55 rfl rfl (by decide) (by decide) hlen ?_
          rw [hO]
          rw [show rdSort t S p = 4 from (ifP_f c_9).trans ((ifP_f c_23).trans ((ifP_f c_37).trans ((ifP_t c_51))))]
          exact ⟨rfl, rfl⟩
      · rw [← Ne, bP_ne] at c_37
        refine mr_iconst C (nI 3) 41 dX4_sortNamed_40 rfl rfl ?_
        refine mr_iret C dX4_sortNamed_41 rfl rfl (by decide) (by decide) hlen ?_
        rw [hO]
        rw [show rdSort t S p = 3 from (ifP_f c_9).trans ((ifP_f c_23).trans ((ifP_t c_37)))]
        exact ⟨rfl, rfl⟩
    · rw [← Ne, bP_ne] at c_23
      refine mr_iconst C (nI 2) 27 dX4_sortNamed_26 rfl rfl ?_
      refine mr_iret C dX4_sortNamed_27 rfl rfl (by decide) (by decide) hlen ?_
      rw [hO]
      rw [show rdSort t S p = 2 from (ifP_f c_9).trans ((ifP_t c_23))]
      exact ⟨rfl, rfl⟩
  · rw [← Ne, bP_ne] at c_9
    refine mr_iconst C (nI 1) 13 dX4_sortNamed_12 rfl rfl ?_
    refine mr_iret C dX4_sortNamed_13 rfl rfl (by decide) (by decide) hlen ?_
    rw [hO]
    rw [show rdSort t S p = 1 from (ifP_t c_9)]
    exact ⟨rfl, rfl⟩

theorem rdWord_ok {t : FN} {S p w p1 : Nat} {left : Prop} (h : rdWord t S p w left = .inr p1) : p1 = nxS t S p ∧ tkS t S p = 1 ∧ left := by
  unfold rdWord at h
  by_cases h1 : isW t S p w
  · rw [ifP_t h1] at h
    by_cases h2 : left
    · rw [ifP_t h2] at h; cases h; exact ⟨rfl, h1.1, h2⟩
    · rw [ifP_f h2] at h; cases h
  · rw [ifP_f h1] at h; cases h
theorem rdNum_ok {t : FN} {S p p1 : Nat} {lo hi un : Int32} (h : rdNum t S p lo hi un = .inr p1) : p1 = nxS t S p ∧ tkS t S p = 2 ∧ ¬ vlS t S p < lo ∧ ¬ hi < vlS t S p ∧ vlS t S p ≠ un := by
  unfold rdNum at h
  by_cases h1 : tkS t S p = 2
  · rw [if_pos h1] at h
    by_cases h2 : vlS t S p < lo ∨ hi < vlS t S p ∨ vlS t S p = un
    · rw [if_pos h2] at h; cases h
    · rw [if_neg h2] at h; cases h; exact ⟨rfl, h1, fun k => h2 (Or.inl k), fun k => h2 (Or.inr (Or.inl k)), fun k => h2 (Or.inr (Or.inr k))⟩
  · rw [if_neg h1] at h; cases h
theorem rdEnd_ok {t : FN} {S p p1 : Nat} (h : rdEnd t S p = .inr p1) : p1 = nxS t S p ∧ tkS t S p = 3 := by
  unfold rdEnd at h
  by_cases h1 : tkS t S p = 3
  · rw [if_pos h1] at h; cases h; exact ⟨rfl, h1⟩
  · rw [if_neg h1] at h; cases h
theorem room_of {v : Int32} {R : Nat} (h1 : ¬ v < nI 0) (h2 : ¬ nI R - nI 1 < v) (hR : R ≤ 6) : ∃ x, x < R ∧ v = nI x := by
  obtain ⟨j, hj, rfl⟩ := nI_of h1
  refine ⟨j, ?_, rfl⟩
  rcases Nat.eq_zero_or_pos R with h | h
  · subst h
    exact absurd (show nI 0 - nI 1 < nI j from Int32.lt_of_lt_of_le (by decide : nI 0 - nI 1 < 0) (Int32.not_lt.mp (nI_pos hj))) h2
  · rw [pk_sub (by omega), nI_ltI (by omega) hj] at h2
    omega
def rbind {α β : Type} (r : RS α) (f : α → RS β) : RS β := match r with
  | .inl e => .inl e
  | .inr x => f x
/-- what is planned: rooms, crowds, doors; seats, seen, sorts, places, heads -/
abbrev PLN : Type := (Nat × Nat × Nat) × FN × FN × FN × FN × FN
noncomputable def rdRoom (t : FN) (S p : Nat) (R K D : Nat) (se sn so lo he : FN) : RS (Nat × PLN) :=
  rbind (rdWord t S p 0 (R < 6)) fun p1 => rbind (rdNum t S p1 (nI 0) (nI 99) (-1)) fun p2 => rbind (rdEnd t S p2) fun p3 => .inr (p3, ((R + 1, K, D), upd se R (vlS t S p1), sn, so, lo, he))
noncomputable def rdDoor (t : FN) (S p : Nat) (R K D : Nat) (se sn so lo he : FN) : RS (Nat × PLN) :=
  rbind (rdWord t S p 1 (D < 12)) fun p1 => rbind (rdNum t S p1 (nI 0) (nI R - nI 1) (-1)) fun p2 => rbind (rdNum t S p2 (nI 0) (nI R - nI 1) (vlS t S p1)) fun p3 => rbind (rdEnd t S p3) fun p4 =>
    .inr (p4, ((R, K, D + 1), se, drS sn (vlS t S p1).toNatClampNeg (vlS t S p2).toNatClampNeg (nI 1), so, lo, he))
noncomputable def rdCrowd (t : FN) (S p : Nat) (R K D : Nat) (se sn so lo he : FN) : RS (Nat × PLN) :=
  rbind (rdWord t S p 2 (K < 5)) fun p1 => if rdSort t S p1 = 0 then .inl (p1, 1) else rbind (rdNum t S (nxS t S p1) (nI 0) (nI R - nI 1) (-1)) fun p3 => rbind (rdNum t S p3 (nI 1) (nI 50) (-1)) fun p4 => rbind (rdEnd t S p4) fun p5 =>
    .inr (p5, ((R, K + 1, D), se, sn, upd so K (nI (rdSort t S p1)), upd lo K (vlS t S (nxS t S p1)), upd he K (vlS t S p3)))
/-- the answer of a reader of a whole piece -/
def RPP (E : EG) (a : Nat → Nat) (b b2 b3 : Nat) (pt fn : Int32) (t : FN) (S : Nat) (x : PLN) (be inn al go : FN) (gn gu gr : Int32) (r : RS (Nat × PLN)) : PO := fun v w => match r with
  | .inl (p, f) => v = some (.int (nI 0)) ∧ ∃ vl : Int32, vOK t S p vl ∧ w = wRt E a b b2 b3 pt (nI x.1.2.2) (nI f) t S p vl ++ wH E a b3 x.2.1 x.2.2.1 be x.2.2.2.1 x.2.2.2.2.1 x.2.2.2.2.2 inn al go (nI x.1.1) (nI x.1.2.1) gn gu gr
  | .inr (p, x) => v = some (.int (nI 1)) ∧ ∃ vl : Int32, vOK t S p vl ∧ w = wRt E a b b2 b3 pt (nI x.1.2.2) fn t S p vl ++ wH E a b3 x.2.1 x.2.2.1 be x.2.2.2.1 x.2.2.2.2.1 x.2.2.2.2.2 inn al go (nI x.1.1) (nI x.1.2.1) gn gu gr
