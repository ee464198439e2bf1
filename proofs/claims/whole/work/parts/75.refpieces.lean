/-! the reference: rooms, doors, crowds are read -/
/-- what is read anew in the reference, as it is planned -/
def FR (fr : FN) (R K D : Nat) (se sn so lo he : FN) : Prop := fr 0 = nI R ∧ fr 1 = nI D ∧ fr 2 = nI K ∧ fr 3 = nI 0 ∧ (∀ r, r < R → fr (4 + r) = se r) ∧ (∀ r, r < 6 → fr (10 + r) = sn r) ∧ (∀ r, r < 6 → fr (16 + r) = nI 0) ∧ ∀ c, c < K → fr (22 + 3 * c) = so c ∧ fr (22 + 3 * c + 1) = lo c ∧ fr (22 + 3 * c + 2) = he c
theorem FR.room {fr : FN} {R K D : Nat} {se sn so lo he : FN} (h : FR fr R K D se sn so lo he) (hR : R < 6) (v : Int32) : FR (upd (upd fr (4 + R) v) 0 (nI (R + 1))) (R + 1) K D (upd se R v) sn so lo he := by
  obtain ⟨a0, a1, a2, a3, a4, a5, a6, a7⟩ := h
  refine ⟨up_s, ?_, ?_, ?_, fun r hr => ?_, fun r hr => ?_, fun r hr => ?_, fun c hc => ⟨?_, ?_, ?_⟩⟩
  · rw [up_n (by omega), up_n (by omega)]; exact a1
  · rw [up_n (by omega), up_n (by omega)]; exact a2
  · rw [up_n (by omega), up_n (by omega)]; exact a3
  · rw [up_n (by omega), up_at, up_at]
    by_cases e : r = R
    · rw [if_pos (by omega), if_pos e]
    · rw [if_neg (by omega), if_neg e]; exact a4 r (by omega)
  · rw [up_n (by omega), up_n (by omega)]; exact a5 r hr
  · rw [up_n (by omega), up_n (by omega)]; exact a6 r hr
  · rw [up_n (by omega), up_n (by omega)]; exact (a7 c hc).1
  · rw [up_n (by omega), up_n (by omega)]; exact (a7 c hc).2.1
  · rw [up_n (by omega), up_n (by omega)]; exact (a7 c hc).2.2
theorem or_put (x m : Int32) : (x &&& (m ^^^ (-1))) ||| m = x ||| m := by
  refine b_ext (fun i hi => ?_)
  rw [b_or, b_and, b_xor, b_or, b_m1 i hi]
  cases bt x i <;> cases bt m i <;> rfl
theorem FR.door {fr : FN} {R K D : Nat} {se sn so lo he : FN} (h : FR fr R K D se sn so lo he) (hR : R ≤ 6) {x y : Nat} (hx : x < R) (hy : y < R) (v1 v2 : Int32) (e1 : v1 = sn x ||| (nI 1 <<< (nI y &&& 31))) (e2 : v2 = (upd fr (10 + x) v1) (10 + y) ||| (nI 1 <<< (nI x &&& 31))) :
    FR (upd (upd (upd fr (10 + x) v1) (10 + y) v2) 1 (nI (D + 1))) R K (D + 1) se (drS sn x y (nI 1)) so lo he := by
  obtain ⟨a0, a1, a2, a3, a4, a5, a6, a7⟩ := h
  have k1 : ∀ r, r < 6 → upd fr (10 + x) v1 (10 + r) = dr1 sn x y (nI 1) r := by
    intro r hr
    unfold dr1
    rw [up_at, up_at, or_put, e1]
    by_cases e : r = x
    · rw [if_pos (by omega), if_pos e]
    · rw [if_neg (by omega), if_neg e]; exact a5 r hr
  have k2 : ∀ r, r < 6 → upd (upd fr (10 + x) v1) (10 + y) v2 (10 + r) = drS sn x y (nI 1) r := by
    intro r hr
    show _ = upd (dr1 sn x y (nI 1)) y _ r
    rw [up_at (dr1 sn x y (nI 1)), up_at (upd fr (10 + x) v1), e2, k1 y (by omega), or_put]
    by_cases e : r = y
    · rw [if_pos (by omega), if_pos e]
    · rw [if_neg (by omega), if_neg e]; exact k1 r hr
  refine ⟨?_, up_s, ?_, ?_, fun r hr => ?_, fun r hr => ?_, fun r hr => ?_, fun c hc => ⟨?_, ?_, ?_⟩⟩
  · rw [up_n (by omega), up_n (by omega), up_n (by omega)]; exact a0
  · rw [up_n (by omega), up_n (by omega), up_n (by omega)]; exact a2
  · rw [up_n (by omega), up_n (by omega), up_n (by omega)]; exact a3
  · rw [up_n (by omega), up_n (by omega), up_n (by omega)]; exact a4 r hr
  · rw [up_n (by omega)]; exact k2 r hr
  · rw [up_n (by omega), up_n (by omega), up_n (by omega)]; exact a6 r hr
  · rw [up_n (by omega), up_n (by omega), up_n (by omega)]; exact (a7 c hc).1
  · rw [up_n (by omega), up_n (by omega), up_n (by omega)]; exact (a7 c hc).2.1
  · rw [up_n (by omega), up_n (by omega), up_n (by omega)]; exact (a7 c hc).2.2
theorem FR.crowd {fr : FN} {R K D : Nat} {se sn so lo he : FN} (h : FR fr R K D se sn so lo he) (hR : R ≤ 6) (v1 v2 v3 : Int32) : FR (upd (upd (upd (upd fr (22 + 3 * K) v1) (22 + 3 * K + 1) v2) (22 + 3 * K + 2) v3) 2 (nI (K + 1))) R (K + 1) D se sn (upd so K v1) (upd lo K v2) (upd he K v3) := by
  obtain ⟨a0, a1, a2, a3, a4, a5, a6, a7⟩ := h
  refine ⟨?_, ?_, up_s, ?_, fun r hr => ?_, fun r hr => ?_, fun r hr => ?_, fun c hc => ⟨?_, ?_, ?_⟩⟩
  · rw [up_n (by omega), up_n (by omega), up_n (by omega), up_n (by omega)]; exact a0
  · rw [up_n (by omega), up_n (by omega), up_n (by omega), up_n (by omega)]; exact a1
  · rw [up_n (by omega), up_n (by omega), up_n (by omega), up_n (by omega)]; exact a3
  · rw [up_n (by omega), up_n (by omega), up_n (by omega), up_n (by omega)]; exact a4 r hr
  · rw [up_n (by omega), up_n (by omega), up_n (by omega), up_n (by omega)]; exact a5 r hr
  · rw [up_n (by omega), up_n (by omega), up_n (by omega), up_n (by omega)]; exact a6 r hr
  · rw [up_n (by omega), up_n (by omega), up_n (by omega), up_at, up_at]
    by_cases e : c = K
    · rw [if_pos (by omega), if_pos e]
    · rw [if_neg (by omega), if_neg e]; exact (a7 c (by omega)).1
  · rw [up_n (by omega), up_n (by omega), up_at, up_at lo]
    by_cases e : c = K
    · rw [if_pos (by omega), if_pos e]
    · rw [if_neg (by omega), if_neg e, up_n (by omega)]; exact (a7 c (by omega)).2.1
  · rw [up_n (by omega), up_at, up_at he]
    by_cases e : c = K
    · rw [if_pos (by omega), if_pos e]
    · rw [if_neg (by omega), if_neg e, up_n (by omega), up_n (by omega)]; exact (a7 c (by omega)).2.2
theorem rdWord_y {t : FN} {S p w : Nat} {left : Prop} (h : isW t S p w) (hl : left) : rdWord t S p w left = .inr (nxS t S p) := (ifP_t h).trans (ifP_t hl)
theorem rdWord_n {t : FN} {S p w : Nat} {left : Prop} (h : isW t S p w) (hl : ¬ left) : rdWord t S p w left = .inl (p, 3) := (ifP_t h).trans (ifP_f hl)
theorem rdNum_a {t : FN} {S p : Nat} {lo hi un : Int32} (h : tkS t S p = 2) (h2 : vlS t S p = un) : rdNum t S p lo hi un = .inl (p, 2) := (if_pos h).trans (if_pos (Or.inr (Or.inr h2)))
set_option maxRecDepth 20000 in
set_option maxHeartbeats 4000000 in
theorem c_readRoom_m (E : EG) (a : Nat → Nat) (tn st ac td lt fp gn gi gm tr : Int32) (la mn im ho fr wa tp wh go se no al be ik ke tc : FN) (t : FN) (S : Nat) (hS : S ≤ 400) (htp : ∀ j, j < S → tp j = t j) (hby : ∀ j, j < S → ∃ b, b < 256 ∧ t j = nI b) (p : Nat) (hp : p ≤ S) (R K D : Nat) (se0 sn0 so0 lo0 he0 : FN) (hR : R ≤ 6) (hK : K ≤ 5) (hD : D ≤ 12) (hfr : FR fr R K D se0 sn0 so0 lo0 he0) (hw : isW t S p 0) : Ctr E mX8_readRoom (6, 0, 0) [.ref (a 0)] (wM E a tn st la mn im ho fr wa ac tp td lt ((nI S)) ((nI (nxS t S p))) ((nI (tkM (tkS t S p)))) ((nI (stS t S p))) ((nI (nxS t S p))) ((nI 0)) fp wh go se no al be gn gi gm ik ke tc tr) (fun v w => v = none ∧ ((∃ (e k : Nat) (f : FN), rdRoom t S p R K D se0 sn0 so0 lo0 he0 = .inl (e, k) ∧ 0 < k ∧ k < 4 ∧ e ≤ S ∧ w = wM E a tn st la mn im ho f wa ac tp td lt ((nI S)) ((nI (nxS t S e))) ((nI (tkM (tkS t S e)))) ((nI (stS t S e))) ((nI (nxS t S e))) ((nI k)) ((nI (stS t S e))) wh go se no al be gn gi gm ik ke tc tr) ∨ (∃ (x : Nat × PLN) (f : FN), rdRoom t S p R K D se0 sn0 so0 lo0 he0 = .inr x ∧ FR f x.2.1.1 x.2.1.2.1 x.2.1.2.2 x.2.2.1 x.2.2.2.1 x.2.2.2.2.1 x.2.2.2.2.2.1 x.2.2.2.2.2.2 ∧ w = wM E a tn st la mn im ho f wa ac tp td lt ((nI S)) ((nI (nxS t S x.1))) ((nI (tkM (tkS t S x.1)))) ((nI (stS t S x.1))) ((nI (nxS t S x.1))) ((nI 0)) fp wh go se no al be gn gi gm ik ke tc tr))) := by
  refine Ctr.of (by decide) (Nat.le_of_ble_eq_true rfl) ?_
  intro Z hO hn C
  have hlen : zn Z ≤ 17 := by rw [hn]; exact Nat.le_of_ble_eq_true rfl
  have hp1 : nxS t S p ≤ S := (nxS_le hp).2
  have hp2 : nxS t S (nxS t S p) ≤ S := (nxS_le hp1).2
  have hp3 : nxS t S (nxS t S (nxS t S p)) ≤ S := (nxS_le hp2).2
  have hp4 : nxS t S (nxS t S (nxS t S (nxS t S p))) ≤ S := (nxS_le hp3).2
  have hp5 : nxS t S (nxS t S (nxS t S (nxS t S (nxS t S p)))) ≤ S := (nxS_le hp4).2
  refine mr_aload_n C 1 dX8_readRoom_0 rfl rfl ?_
  refine mr_iconst C (nI 0) 2 dX8_readRoom_1 rfl rfl ?_
  refine mr_bipush C (nI 6) 4 dX8_readRoom_2 rfl rfl ?_
  refine mr_callV C (c_begins E a tn st ac td lt fp gn gi gm tr la mn im ho fr wa tp wh go se no al be ik ke tc t S hS htp hby p hp 0 R 6 (by decide) hfr.1 (by omega) (by decide)) [0, 1, 2, 3, 4, 5, 6, 7, 8, 9, 10, 11, 12, 13, 14, 15, 16] 0 8 7 dX8_readRoom_4 rfl mk_X8_begins mi_X8_begins ml_X8_148 rfl rfl rfl rfl rfl (Nat.le_of_ble_eq_true rfl) (by decide) (by decide) (by decide) rfl rfl (fun r w1 hpost => ?_)
  rcases hpost with ⟨rfl, ⟨hb9, rfl⟩ | ⟨hb9, rfl⟩⟩
  · refine mr_w (wput_all _ _ 17 rfl rfl) ?_
    refine mr_aload_n C 8 dX8_readRoom_7 rfl rfl ?_
    refine mr_iconst C (nI 0) 9 dX8_readRoom_8 rfl rfl ?_
    refine mr_bipush C (nI 99) 11 dX8_readRoom_9 rfl rfl ?_
    refine mr_callV C (c_numberF E a tn st ac td lt ((nI (stS t S p))) gn gi gm tr la mn im ho fr wa tp wh go se no al be ik ke tc t S p 3 (by decide) (by decide) (nI 0) (nI 99)) [0, 1, 2, 3, 4, 5, 6, 7, 8, 9, 10, 11, 12, 13, 14, 15, 16] 0 8 14 dX8_readRoom_11 rfl mk_X8_number mi_X8_number ml_X8_152 rfl rfl rfl rfl rfl (Nat.le_of_ble_eq_true rfl) (by decide) (by decide) (by decide) rfl rfl (fun r w1 hpost => ?_)
    obtain ⟨rfl, rfl⟩ := hpost
    refine mr_w (wput_all _ _ 17 rfl rfl) ?_
    refine mr_istore_n C 15 dX8_readRoom_14 rfl rfl (by decide) ?_
    refine mr_aload_n C 16 dX8_readRoom_15 rfl rfl ?_
    refine mr_callV C (c_mustEndF E a tn st ac td lt ((nI (stS t S p))) gn gi gm tr la mn im ho fr wa tp wh go se no al be ik ke tc t S p 3 (by decide) (by decide)) [0, 1, 2, 3, 4, 5, 6, 7, 8, 9, 10, 11, 12, 13, 14, 15, 16] 0 8 19 dX8_readRoom_16 rfl mk_X8_mustEnd mi_X8_mustEnd ml_X8_156 rfl rfl rfl rfl rfl (Nat.le_of_ble_eq_true rfl) (by decide) (by decide) (by decide) rfl rfl (fun r w1 hpost => ?_)
    obtain ⟨rfl, rfl⟩ := hpost
    refine mr_w (wput_all _ _ 17 rfl rfl) ?_
    refine mr_aload_n C 20 dX8_readRoom_19 rfl rfl ?_
    refine mr_get C 0 23 dX8_readRoom_20 rfl fl_X8_117 rfl rfl ?_
    refine mr_ifne C 50 26 dX8_readRoom_23 (by decide) rfl (fun _ => ?_) (fun c_ => absurd c_ (by decide))
    refine mr_vret C dX8_readRoom_50 rfl (by decide) (by decide) hlen ?_
    rw [hO]
    refine ⟨rfl, Or.inl ⟨p, 3, _, ?_, by decide, by decide, hp, rfl⟩⟩
    unfold rdRoom
    rw [rdWord_n hw (by omega)]
    rfl
  · refine mr_w (wput_all _ _ 17 rfl rfl) ?_
    refine mr_aload_n C 8 dX8_readRoom_7 rfl rfl ?_
    refine mr_iconst C (nI 0) 9 dX8_readRoom_8 rfl rfl ?_
    refine mr_bipush C (nI 99) 11 dX8_readRoom_9 rfl rfl ?_
    refine mr_callV C (c_number E a tn st ac td lt fp gn gi gm tr la mn im ho fr wa tp wh go se no al be ik ke tc t S hS htp hby (nxS t S p) hp1 (nI 0) (nI 99) (by decide)) [0, 1, 2, 3, 4, 5, 6, 7, 8, 9, 10, 11, 12, 13, 14, 15, 16] 0 8 14 dX8_readRoom_11 rfl mk_X8_number mi_X8_number ml_X8_152 rfl rfl rfl rfl rfl (Nat.le_of_ble_eq_true rfl) (by decide) (by decide) (by decide) rfl rfl (fun r w1 hpost => ?_)
    rcases hpost with ⟨k1, x1, hk10, hk14, hn1, rfl, rfl⟩ | ⟨hn1, rfl, rfl⟩
    · refine mr_w (wput_all _ _ 17 rfl rfl) ?_
      refine mr_istore_n C 15 dX8_readRoom_14 rfl rfl (by decide) ?_
      refine mr_aload_n C 16 dX8_readRoom_15 rfl rfl ?_
      refine mr_callV C (c_mustEndF E a tn st ac td lt ((nI (stS t S (nxS t S p)))) gn gi gm tr la mn im ho fr wa tp wh go se no al be ik ke tc t S (nxS t S p) k1 hk10 hk14) [0, 1, 2, 3, 4, 5, 6, 7, 8, 9, 10, 11, 12, 13, 14, 15, 16] 0 8 19 dX8_readRoom_16 rfl mk_X8_mustEnd mi_X8_mustEnd ml_X8_156 rfl rfl rfl rfl rfl (Nat.le_of_ble_eq_true rfl) (by decide) (by decide) (by decide) rfl rfl (fun r w1 hpost => ?_)
      obtain ⟨rfl, rfl⟩ := hpost
      refine mr_w (wput_all _ _ 17 rfl rfl) ?_
      refine mr_aload_n C 20 dX8_readRoom_19 rfl rfl ?_
      refine mr_get C 0 23 dX8_readRoom_20 rfl fl_X8_117 rfl rfl ?_
      refine mr_ifne C 50 26 dX8_readRoom_23 (by decide) rfl (fun c_23 => ?_) (fun c_23 => ?_)
      · refine mr_vret C dX8_readRoom_50 rfl (by decide) (by decide) hlen ?_
        rw [hO]
        refine ⟨rfl, Or.inl ⟨nxS t S p, k1, _, ?_, hk10, hk14, hp1, rfl⟩⟩
        unfold rdRoom
        rw [rdWord_y hw (by omega)]
        show rbind (rdNum t S (nxS t S p) (nI 0) (nI 99) (-1)) _ = _
        rw [hn1]
        rfl
      · first | exact absurd c_23 (nI_ne0 hk10 (by omega))
    · refine mr_w (wput_all _ _ 17 rfl rfl) ?_
      refine mr_istore_n C 15 dX8_readRoom_14 rfl rfl (by decide) ?_
      refine mr_aload_n C 16 dX8_readRoom_15 rfl rfl ?_
      refine mr_callV C (c_mustEnd E a tn st ac td lt fp gn gi gm tr la mn im ho fr wa tp wh go se no al be ik ke tc t S hS htp hby (nxS t S (nxS t S p)) hp2) [0, 1, 2, 3, 4, 5, 6, 7, 8, 9, 10, 11, 12, 13, 14, 15, 16] 0 8 19 dX8_readRoom_16 rfl mk_X8_mustEnd mi_X8_mustEnd ml_X8_156 rfl rfl rfl rfl rfl (Nat.le_of_ble_eq_true rfl) (by decide) (by decide) (by decide) rfl rfl (fun r w1 hpost => ?_)
      rcases hpost with ⟨rfl, ⟨he9, rfl⟩ | ⟨he9, rfl⟩⟩
      · refine mr_w (wput_all _ _ 17 rfl rfl) ?_
        refine mr_aload_n C 20 dX8_readRoom_19 rfl rfl ?_
        refine mr_get C 0 23 dX8_readRoom_20 rfl fl_X8_117 rfl rfl ?_
        refine mr_ifne C 50 26 dX8_readRoom_23 (by decide) rfl (fun _ => ?_) (fun c_ => absurd c_ (by decide))
        refine mr_vret C dX8_readRoom_50 rfl (by decide) (by decide) hlen ?_
        rw [hO]
        refine ⟨rfl, Or.inl ⟨nxS t S (nxS t S p), 1, _, ?_, by decide, by decide, hp2, rfl⟩⟩
        unfold rdRoom
        rw [rdWord_y hw (by omega)]
        show rbind (rdNum t S (nxS t S p) (nI 0) (nI 99) (-1)) _ = _
        rw [hn1]
        show rbind (rdEnd t S (nxS t S (nxS t S p))) _ = _
        rw [he9]
        rfl
      · refine mr_w (wput_all _ _ 17 rfl rfl) ?_
        refine mr_aload_n C 20 dX8_readRoom_19 rfl rfl ?_
        refine mr_get C 0 23 dX8_readRoom_20 rfl fl_X8_117 rfl rfl ?_
        refine mr_ifne C 50 26 dX8_readRoom_23 (by decide) rfl (fun c_ => absurd (by decide) c_) (fun _ => ?_)
        have hR6 : R < 6 := by omega
        refine mr_aload_n C 27 dX8_readRoom_26 rfl rfl ?_
        refine mr_get C 0 30 dX8_readRoom_27 rfl fl_X8_22 rfl rfl ?_
        refine mr_iconst C (nI 4) 31 dX8_readRoom_30 rfl rfl ?_
        refine mr_aload_n C 32 dX8_readRoom_31 rfl rfl ?_
        refine mr_get C 0 35 dX8_readRoom_32 rfl fl_X8_22 rfl rfl ?_
        refine mr_iconst C (nI 0) 36 dX8_readRoom_35 rfl rfl ?_
        refine mr_iale C 5 0 (nI R) 37 dX8_readRoom_36 rfl rfl rfl (by omega) (by decide) hfr.1 ?_
        refine mr_iadd C (nI (4 + R)) 38 dX8_readRoom_37 rfl (nI_add _ _) ?_
        refine mr_iload_n C 39 dX8_readRoom_38 rfl rfl ?_
        refine mr_iast C 5 (4 + R) 40 dX8_readRoom_39 rfl rfl rfl (by omega) (by decide) ?_
        refine mr_aload_n C 41 dX8_readRoom_40 rfl rfl ?_
        refine mr_get C 0 44 dX8_readRoom_41 rfl fl_X8_22 rfl rfl ?_
        refine mr_iconst C (nI 0) 45 dX8_readRoom_44 rfl rfl ?_
        refine mr_dup2 C 46 dX8_readRoom_45 rfl rfl rfl ?_
        refine mr_iale C 5 0 (nI R) 47 dX8_readRoom_46 rfl rfl rfl (by omega) (by decide) (by rw [up_n (by omega)]; exact hfr.1) ?_
        refine mr_iconst C (nI 1) 48 dX8_readRoom_47 rfl rfl ?_
        refine mr_iadd C (nI (R + 1)) 49 dX8_readRoom_48 rfl (nI_add _ _) ?_
        refine mr_iast C 5 0 50 dX8_readRoom_49 rfl rfl rfl (by omega) (by decide) ?_
        refine mr_vret C dX8_readRoom_50 rfl (by decide) (by decide) hlen ?_
        rw [hO]
        refine ⟨rfl, Or.inr ⟨(nxS t S (nxS t S (nxS t S p)), (R + 1, K, D), upd se0 R (vlS t S (nxS t S p)), sn0, so0, lo0, he0), _, ?_, hfr.room (by omega) _, rfl⟩⟩
        unfold rdRoom
        rw [rdWord_y hw (by omega)]
        show rbind (rdNum t S (nxS t S p) (nI 0) (nI 99) (-1)) _ = _
        rw [hn1]
        show rbind (rdEnd t S (nxS t S (nxS t S p))) _ = _
        rw [he9]
        rfl

set_option maxRecDepth 20000 in
set_option maxHeartbeats 4000000 in
theorem c_readDoor_m (E : EG) (a : Nat → Nat) (tn st ac td lt fp gn gi gm tr : Int32) (la mn im ho fr wa tp wh go se no al be ik ke tc : FN) (t : FN) (S : Nat) (hS : S ≤ 400) (htp : ∀ j, j < S → tp j = t j) (hby : ∀ j, j < S → ∃ b, b < 256 ∧ t j = nI b) (p : Nat) (hp : p ≤ S) (R K D : Nat) (se0 sn0 so0 lo0 he0 : FN) (hR : R ≤ 6) (hK : K ≤ 5) (hD : D ≤ 12) (hfr : FR fr R K D se0 sn0 so0 lo0 he0) (hw : isW t S p 1) : Ctr E mX8_readDoor (6, 0, 0) [.ref (a 0)] (wM E a tn st la mn im ho fr wa ac tp td lt ((nI S)) ((nI (nxS t S p))) ((nI (tkM (tkS t S p)))) ((nI (stS t S p))) ((nI (nxS t S p))) ((nI 0)) fp wh go se no al be gn gi gm ik ke tc tr) (fun v w => v = none ∧ ((∃ (e k : Nat) (f : FN), rdDoor t S p R K D se0 sn0 so0 lo0 he0 = .inl (e, k) ∧ 0 < k ∧ k < 4 ∧ e ≤ S ∧ w = wM E a tn st la mn im ho f wa ac tp td lt ((nI S)) ((nI (nxS t S e))) ((nI (tkM (tkS t S e)))) ((nI (stS t S e))) ((nI (nxS t S e))) ((nI k)) ((nI (stS t S e))) wh go se no al be gn gi gm ik ke tc tr) ∨ (∃ (x : Nat × PLN) (f : FN), rdDoor t S p R K D se0 sn0 so0 lo0 he0 = .inr x ∧ FR f x.2.1.1 x.2.1.2.1 x.2.1.2.2 x.2.2.1 x.2.2.2.1 x.2.2.2.2.1 x.2.2.2.2.2.1 x.2.2.2.2.2.2 ∧ w = wM E a tn st la mn im ho f wa ac tp td lt ((nI S)) ((nI (nxS t S x.1))) ((nI (tkM (tkS t S x.1)))) ((nI (stS t S x.1))) ((nI (nxS t S x.1))) ((nI 0)) fp wh go se no al be gn gi gm ik ke tc tr))) := by
  refine Ctr.of (by decide) (Nat.le_of_ble_eq_true rfl) ?_
  intro Z hO hn C
  have hlen : zn Z ≤ 17 := by rw [hn]; exact Nat.le_of_ble_eq_true rfl
  have hp1 : nxS t S p ≤ S := (nxS_le hp).2
  have hp2 : nxS t S (nxS t S p) ≤ S := (nxS_le hp1).2
  have hp3 : nxS t S (nxS t S (nxS t S p)) ≤ S := (nxS_le hp2).2
  have hp4 : nxS t S (nxS t S (nxS t S (nxS t S p))) ≤ S := (nxS_le hp3).2
  have hp5 : nxS t S (nxS t S (nxS t S (nxS t S (nxS t S p)))) ≤ S := (nxS_le hp4).2
  refine mr_aload_n C 1 dX8_readDoor_0 rfl rfl ?_
  refine mr_iconst C (nI 1) 2 dX8_readDoor_1 rfl rfl ?_
  refine mr_bipush C (nI 12) 4 dX8_readDoor_2 rfl rfl ?_
  refine mr_callV C (c_begins E a tn st ac td lt fp gn gi gm tr la mn im ho fr wa tp wh go se no al be ik ke tc t S hS htp hby p hp 1 D 12 (by decide) hfr.2.1 (by omega) (by decide)) [0, 1, 2, 3, 4, 5, 6, 7, 8, 9, 10, 11, 12, 13, 14, 15, 16] 0 8 7 dX8_readDoor_4 rfl mk_X8_begins mi_X8_begins ml_X8_148 rfl rfl rfl rfl rfl (Nat.le_of_ble_eq_true rfl) (by decide) (by decide) (by decide) rfl rfl (fun r w1 hpost => ?_)
  rcases hpost with ⟨rfl, ⟨hb9, rfl⟩ | ⟨hb9, rfl⟩⟩
  · refine mr_w (wput_all _ _ 17 rfl rfl) ?_
    refine mr_aload_n C 8 dX8_readDoor_7 rfl rfl ?_
    refine mr_iconst C (nI 0) 9 dX8_readDoor_8 rfl rfl ?_
    refine mr_aload_n C 10 dX8_readDoor_9 rfl rfl ?_
    refine mr_get C 0 13 dX8_readDoor_10 rfl fl_X8_22 rfl rfl ?_
    refine mr_iconst C (nI 0) 14 dX8_readDoor_13 rfl rfl ?_
    refine mr_iale C 5 0 (nI R) 15 dX8_readDoor_14 rfl rfl rfl (by omega) (by decide) hfr.1 ?_
    refine mr_iconst C (nI 1) 16 dX8_readDoor_15 rfl rfl ?_
    refine mr_isub C (nI R - nI 1) 17 dX8_readDoor_16 rfl rfl ?_
    refine mr_callV C (c_numberF E a tn st ac td lt ((nI (stS t S p))) gn gi gm tr la mn im ho fr wa tp wh go se no al be ik ke tc t S p 3 (by decide) (by decide) (nI 0) (nI R - nI 1)) [0, 1, 2, 3, 4, 5, 6, 7, 8, 9, 10, 11, 12, 13, 14, 15, 16] 0 8 20 dX8_readDoor_17 rfl mk_X8_number mi_X8_number ml_X8_152 rfl rfl rfl rfl rfl (Nat.le_of_ble_eq_true rfl) (by decide) (by decide) (by decide) rfl rfl (fun r w1 hpost => ?_)
    obtain ⟨rfl, rfl⟩ := hpost
    refine mr_w (wput_all _ _ 17 rfl rfl) ?_
    refine mr_istore_n C 21 dX8_readDoor_20 rfl rfl (by decide) ?_
    refine mr_aload_n C 22 dX8_readDoor_21 rfl rfl ?_
    refine mr_get C 0 25 dX8_readDoor_22 rfl fl_X8_117 rfl rfl ?_
    refine mr_ifne C 49 28 dX8_readDoor_25 (by decide) rfl (fun _ => ?_) (fun c_ => absurd c_ (by decide))
    refine mr_aload_n C 50 dX8_readDoor_49 rfl rfl ?_
    refine mr_iconst C (nI 0) 51 dX8_readDoor_50 rfl rfl ?_
    refine mr_aload_n C 52 dX8_readDoor_51 rfl rfl ?_
    refine mr_get C 0 55 dX8_readDoor_52 rfl fl_X8_22 rfl rfl ?_
    refine mr_iconst C (nI 0) 56 dX8_readDoor_55 rfl rfl ?_
    refine mr_iale C 5 0 (nI R) 57 dX8_readDoor_56 rfl rfl rfl (by omega) (by decide) hfr.1 ?_
    refine mr_iconst C (nI 1) 58 dX8_readDoor_57 rfl rfl ?_
    refine mr_isub C (nI R - nI 1) 59 dX8_readDoor_58 rfl rfl ?_
    refine mr_callV C (c_numberF E a tn st ac td lt ((nI (stS t S p))) gn gi gm tr la mn im ho fr wa tp wh go se no al be ik ke tc t S p 3 (by decide) (by decide) (nI 0) (nI R - nI 1)) [0, 1, 2, 3, 4, 5, 6, 7, 8, 9, 10, 11, 12, 13, 14, 15, 16] 0 8 62 dX8_readDoor_59 rfl mk_X8_number mi_X8_number ml_X8_152 rfl rfl rfl rfl rfl (Nat.le_of_ble_eq_true rfl) (by decide) (by decide) (by decide) rfl rfl (fun r w1 hpost => ?_)
    obtain ⟨rfl, rfl⟩ := hpost
    refine mr_w (wput_all _ _ 17 rfl rfl) ?_
    refine mr_istore_n C 63 dX8_readDoor_62 rfl rfl (by decide) ?_
    refine mr_aload_n C 64 dX8_readDoor_63 rfl rfl ?_
    refine mr_callV C (c_mustEndF E a tn st ac td lt ((nI (stS t S p))) gn gi gm tr la mn im ho fr wa tp wh go se no al be ik ke tc t S p 3 (by decide) (by decide)) [0, 1, 2, 3, 4, 5, 6, 7, 8, 9, 10, 11, 12, 13, 14, 15, 16] 0 8 67 dX8_readDoor_64 rfl mk_X8_mustEnd mi_X8_mustEnd ml_X8_156 rfl rfl rfl rfl rfl (Nat.le_of_ble_eq_true rfl) (by decide) (by decide) (by decide) rfl rfl (fun r w1 hpost => ?_)
    obtain ⟨rfl, rfl⟩ := hpost
    refine mr_w (wput_all _ _ 17 rfl rfl) ?_
    refine mr_aload_n C 68 dX8_readDoor_67 rfl rfl ?_
    refine mr_get C 0 71 dX8_readDoor_68 rfl fl_X8_117 rfl rfl ?_
    refine mr_ifne C 114 74 dX8_readDoor_71 (by decide) rfl (fun _ => ?_) (fun c_ => absurd c_ (by decide))
    refine mr_vret C dX8_readDoor_114 rfl (by decide) (by decide) hlen ?_
    rw [hO]
    refine ⟨rfl, Or.inl ⟨p, 3, _, ?_, by decide, by decide, hp, rfl⟩⟩
    unfold rdDoor
    rw [rdWord_n hw (by omega)]
    rfl
  · refine mr_w (wput_all _ _ 17 rfl rfl) ?_
    refine mr_aload_n C 8 dX8_readDoor_7 rfl rfl ?_
    refine mr_iconst C (nI 0) 9 dX8_readDoor_8 rfl rfl ?_
    refine mr_aload_n C 10 dX8_readDoor_9 rfl rfl ?_
    refine mr_get C 0 13 dX8_readDoor_10 rfl fl_X8_22 rfl rfl ?_
    refine mr_iconst C (nI 0) 14 dX8_readDoor_13 rfl rfl ?_
    refine mr_iale C 5 0 (nI R) 15 dX8_readDoor_14 rfl rfl rfl (by omega) (by decide) hfr.1 ?_
    refine mr_iconst C (nI 1) 16 dX8_readDoor_15 rfl rfl ?_
    refine mr_isub C (nI R - nI 1) 17 dX8_readDoor_16 rfl rfl ?_
    refine mr_callV C (c_number E a tn st ac td lt fp gn gi gm tr la mn im ho fr wa tp wh go se no al be ik ke tc t S hS htp hby (nxS t S p) hp1 (nI 0) (nI R - nI 1) (by decide)) [0, 1, 2, 3, 4, 5, 6, 7, 8, 9, 10, 11, 12, 13, 14, 15, 16] 0 8 20 dX8_readDoor_17 rfl mk_X8_number mi_X8_number ml_X8_152 rfl rfl rfl rfl rfl (Nat.le_of_ble_eq_true rfl) (by decide) (by decide) (by decide) rfl rfl (fun r w1 hpost => ?_)
    rcases hpost with ⟨k1, x1, hk10, hk14, hn1, rfl, rfl⟩ | ⟨hn1, rfl, rfl⟩
    · refine mr_w (wput_all _ _ 17 rfl rfl) ?_
      refine mr_istore_n C 21 dX8_readDoor_20 rfl rfl (by decide) ?_
      refine mr_aload_n C 22 dX8_readDoor_21 rfl rfl ?_
      refine mr_get C 0 25 dX8_readDoor_22 rfl fl_X8_117 rfl rfl ?_
      refine mr_ifne C 49 28 dX8_readDoor_25 (by decide) rfl (fun c_25 => ?_) (fun c_25 => ?_)
      · refine mr_aload_n C 50 dX8_readDoor_49 rfl rfl ?_
        refine mr_iconst C (nI 0) 51 dX8_readDoor_50 rfl rfl ?_
        refine mr_aload_n C 52 dX8_readDoor_51 rfl rfl ?_
        refine mr_get C 0 55 dX8_readDoor_52 rfl fl_X8_22 rfl rfl ?_
        refine mr_iconst C (nI 0) 56 dX8_readDoor_55 rfl rfl ?_
        refine mr_iale C 5 0 (nI R) 57 dX8_readDoor_56 rfl rfl rfl (by omega) (by decide) hfr.1 ?_
        refine mr_iconst C (nI 1) 58 dX8_readDoor_57 rfl rfl ?_
        refine mr_isub C (nI R - nI 1) 59 dX8_readDoor_58 rfl rfl ?_
        refine mr_callV C (c_numberF E a tn st ac td lt ((nI (stS t S (nxS t S p)))) gn gi gm tr la mn im ho fr wa tp wh go se no al be ik ke tc t S (nxS t S p) k1 hk10 hk14 (nI 0) (nI R - nI 1)) [0, 1, 2, 3, 4, 5, 6, 7, 8, 9, 10, 11, 12, 13, 14, 15, 16] 0 8 62 dX8_readDoor_59 rfl mk_X8_number mi_X8_number ml_X8_152 rfl rfl rfl rfl rfl (Nat.le_of_ble_eq_true rfl) (by decide) (by decide) (by decide) rfl rfl (fun r w1 hpost => ?_)
        obtain ⟨rfl, rfl⟩ := hpost
        refine mr_w (wput_all _ _ 17 rfl rfl) ?_
        refine mr_istore_n C 63 dX8_readDoor_62 rfl rfl (by decide) ?_
        refine mr_aload_n C 64 dX8_readDoor_63 rfl rfl ?_
        refine mr_callV C (c_mustEndF E a tn st ac td lt ((nI (stS t S (nxS t S p)))) gn gi gm tr la mn im ho fr wa tp wh go se no al be ik ke tc t S (nxS t S p) k1 hk10 hk14) [0, 1, 2, 3, 4, 5, 6, 7, 8, 9, 10, 11, 12, 13, 14, 15, 16] 0 8 67 dX8_readDoor_64 rfl mk_X8_mustEnd mi_X8_mustEnd ml_X8_156 rfl rfl rfl rfl rfl (Nat.le_of_ble_eq_true rfl) (by decide) (by decide) (by decide) rfl rfl (fun r w1 hpost => ?_)
        obtain ⟨rfl, rfl⟩ := hpost
        refine mr_w (wput_all _ _ 17 rfl rfl) ?_
        refine mr_aload_n C 68 dX8_readDoor_67 rfl rfl ?_
        refine mr_get C 0 71 dX8_readDoor_68 rfl fl_X8_117 rfl rfl ?_
        refine mr_ifne C 114 74 dX8_readDoor_71 (by decide) rfl (fun c_71 => ?_) (fun c_71 => ?_)
        · refine mr_vret C dX8_readDoor_114 rfl (by decide) (by decide) hlen ?_
          rw [hO]
          refine ⟨rfl, Or.inl ⟨nxS t S p, k1, _, ?_, hk10, hk14, hp1, rfl⟩⟩
          unfold rdDoor
          rw [rdWord_y hw (by omega)]
          show rbind (rdNum t S (nxS t S p) (nI 0) (nI R - nI 1) (-1)) _ = _
          rw [hn1]
          rfl
        · first | exact absurd c_71 (nI_ne0 hk10 (by omega)) | exact absurd c_71 (nI_ne0 hk20 (by omega))
      · first | exact absurd c_25 (nI_ne0 hk10 (by omega))
    · refine mr_w (wput_all _ _ 17 rfl rfl) ?_
      obtain ⟨x, hx, ex⟩ : ∃ x, x < R ∧ vlS t S (nxS t S p) = nI x := by
        have g := rdNum_ok hn1
        exact room_of g.2.2.1 g.2.2.2.1 hR
      rw [ex]
      have htk := tkM_lt t S (nxS t S (nxS t S p))
      refine mr_istore_n C 21 dX8_readDoor_20 rfl rfl (by decide) ?_
      refine mr_aload_n C 22 dX8_readDoor_21 rfl rfl ?_
      refine mr_get C 0 25 dX8_readDoor_22 rfl fl_X8_117 rfl rfl ?_
      refine mr_ifne C 49 28 dX8_readDoor_25 (by decide) rfl (fun c_ => absurd (by decide) c_) (fun _ => ?_)
      refine mr_aload_n C 29 dX8_readDoor_28 rfl rfl ?_
      refine mr_get C 0 32 dX8_readDoor_29 rfl fl_X8_105 rfl rfl ?_
      refine mr_iconst C (nI 3) 33 dX8_readDoor_32 rfl rfl ?_
      refine mr_icmpne C 49 36 dX8_readDoor_33 (by decide) rfl (fun c_33 => ?_) (fun c_33 => ?_)
      · rw [Ne, nI_eq (by omega) (by omega), tkM_is (by decide) (by decide)] at c_33
        have hun : tkS t S (nxS t S (nxS t S p)) = 2 → vlS t S (nxS t S (nxS t S p)) ≠ vlS t S (nxS t S p) := fun e => absurd e (by omega)
        refine mr_aload_n C 50 dX8_readDoor_49 rfl rfl ?_
        refine mr_iconst C (nI 0) 51 dX8_readDoor_50 rfl rfl ?_
        refine mr_aload_n C 52 dX8_readDoor_51 rfl rfl ?_
        refine mr_get C 0 55 dX8_readDoor_52 rfl fl_X8_22 rfl rfl ?_
        refine mr_iconst C (nI 0) 56 dX8_readDoor_55 rfl rfl ?_
        refine mr_iale C 5 0 (nI R) 57 dX8_readDoor_56 rfl rfl rfl (by omega) (by decide) hfr.1 ?_
        refine mr_iconst C (nI 1) 58 dX8_readDoor_57 rfl rfl ?_
        refine mr_isub C (nI R - nI 1) 59 dX8_readDoor_58 rfl rfl ?_
        refine mr_callV C (c_number E a tn st ac td lt fp gn gi gm tr la mn im ho fr wa tp wh go se no al be ik ke tc t S hS htp hby (nxS t S (nxS t S p)) hp2 (nI 0) (nI R - nI 1) (by decide)) [0, 1, 2, 3, 4, 5, 6, 7, 8, 9, 10, 11, 12, 13, 14, 15, 16] 0 8 62 dX8_readDoor_59 rfl mk_X8_number mi_X8_number ml_X8_152 rfl rfl rfl rfl rfl (Nat.le_of_ble_eq_true rfl) (by decide) (by decide) (by decide) rfl rfl (fun r w1 hpost => ?_)
        rcases hpost with ⟨k2, x2, hk20, hk24, hn2, rfl, rfl⟩ | ⟨hn2, rfl, rfl⟩
        · refine mr_w (wput_all _ _ 17 rfl rfl) ?_
          refine mr_istore_n C 63 dX8_readDoor_62 rfl rfl (by decide) ?_
          refine mr_aload_n C 64 dX8_readDoor_63 rfl rfl ?_
          refine mr_callV C (c_mustEndF E a tn st ac td lt ((nI (stS t S (nxS t S (nxS t S p))))) gn gi gm tr la mn im ho fr wa tp wh go se no al be ik ke tc t S (nxS t S (nxS t S p)) k2 hk20 hk24) [0, 1, 2, 3, 4, 5, 6, 7, 8, 9, 10, 11, 12, 13, 14, 15, 16] 0 8 67 dX8_readDoor_64 rfl mk_X8_mustEnd mi_X8_mustEnd ml_X8_156 rfl rfl rfl rfl rfl (Nat.le_of_ble_eq_true rfl) (by decide) (by decide) (by decide) rfl rfl (fun r w1 hpost => ?_)
          obtain ⟨rfl, rfl⟩ := hpost
          refine mr_w (wput_all _ _ 17 rfl rfl) ?_
          refine mr_aload_n C 68 dX8_readDoor_67 rfl rfl ?_
          refine mr_get C 0 71 dX8_readDoor_68 rfl fl_X8_117 rfl rfl ?_
          refine mr_ifne C 114 74 dX8_readDoor_71 (by decide) rfl (fun c_71 => ?_) (fun c_71 => ?_)
          · refine mr_vret C dX8_readDoor_114 rfl (by decide) (by decide) hlen ?_
            rw [hO]
            refine ⟨rfl, Or.inl ⟨nxS t S (nxS t S p), k2, _, ?_, hk20, hk24, hp2, rfl⟩⟩
            unfold rdDoor
            rw [rdWord_y hw (by omega)]
            show rbind (rdNum t S (nxS t S p) (nI 0) (nI R - nI 1) (-1)) _ = _
            rw [hn1]
            show rbind (rdNum t S (nxS t S (nxS t S p)) (nI 0) (nI R - nI 1) (vlS t S (nxS t S p))) _ = _
            rw [rdNum_un hun (by decide), hn2]
            rfl
          · first | exact absurd c_71 (nI_ne0 hk10 (by omega)) | exact absurd c_71 (nI_ne0 hk20 (by omega))
        · refine mr_w (wput_all _ _ 17 rfl rfl) ?_
          obtain ⟨y, hy, ey⟩ : ∃ x, x < R ∧ vlS t S (nxS t S (nxS t S p)) = nI x := by
            have g := rdNum_ok hn2
            exact room_of g.2.2.1 g.2.2.2.1 hR
          rw [ey]
          refine mr_istore_n C 63 dX8_readDoor_62 rfl rfl (by decide) ?_
          refine mr_aload_n C 64 dX8_readDoor_63 rfl rfl ?_
          refine mr_callV C (c_mustEnd E a tn st ac td lt fp gn gi gm tr la mn im ho fr wa tp wh go se no al be ik ke tc t S hS htp hby (nxS t S (nxS t S (nxS t S p))) hp3) [0, 1, 2, 3, 4, 5, 6, 7, 8, 9, 10, 11, 12, 13, 14, 15, 16] 0 8 67 dX8_readDoor_64 rfl mk_X8_mustEnd mi_X8_mustEnd ml_X8_156 rfl rfl rfl rfl rfl (Nat.le_of_ble_eq_true rfl) (by decide) (by decide) (by decide) rfl rfl (fun r w1 hpost => ?_)
          rcases hpost with ⟨rfl, ⟨he9, rfl⟩ | ⟨he9, rfl⟩⟩
          · refine mr_w (wput_all _ _ 17 rfl rfl) ?_
            refine mr_aload_n C 68 dX8_readDoor_67 rfl rfl ?_
            refine mr_get C 0 71 dX8_readDoor_68 rfl fl_X8_117 rfl rfl ?_
            refine mr_ifne C 114 74 dX8_readDoor_71 (by decide) rfl (fun _ => ?_) (fun c_ => absurd c_ (by decide))
            refine mr_vret C dX8_readDoor_114 rfl (by decide) (by decide) hlen ?_
            rw [hO]
            refine ⟨rfl, Or.inl ⟨nxS t S (nxS t S (nxS t S p)), 1, _, ?_, by decide, by decide, hp3, rfl⟩⟩
            unfold rdDoor
            rw [rdWord_y hw (by omega)]
            show rbind (rdNum t S (nxS t S p) (nI 0) (nI R - nI 1) (-1)) _ = _
            rw [hn1]
            show rbind (rdNum t S (nxS t S (nxS t S p)) (nI 0) (nI R - nI 1) (vlS t S (nxS t S p))) _ = _
            rw [rdNum_un hun (by decide), hn2]
            show rbind (rdEnd t S (nxS t S (nxS t S (nxS t S p)))) _ = _
            rw [he9]
            rfl
          · refine mr_w (wput_all _ _ 17 rfl rfl) ?_
            refine mr_aload_n C 68 dX8_readDoor_67 rfl rfl ?_
            refine mr_get C 0 71 dX8_readDoor_68 rfl fl_X8_117 rfl rfl ?_
            refine mr_ifne C 114 74 dX8_readDoor_71 (by decide) rfl (fun c_ => absurd (by decide) c_) (fun _ => ?_)
            have hD12 : D < 12 := by omega
            refine mr_aload_n C 75 dX8_readDoor_74 rfl rfl ?_
            refine mr_get C 0 78 dX8_readDoor_75 rfl fl_X8_22 rfl rfl ?_
            refine mr_bipush C (nI 10) 80 dX8_readDoor_78 rfl rfl ?_
            refine mr_iload_n C 81 dX8_readDoor_80 rfl rfl ?_
            refine mr_iadd C (nI (10 + x)) 82 dX8_readDoor_81 rfl (nI_add _ _) ?_
            refine mr_dup2 C 83 dX8_readDoor_82 rfl rfl rfl ?_
            refine mr_iale C 5 (10 + x) ((sn0 x)) 84 dX8_readDoor_83 rfl rfl rfl (by omega) (by decide) (hfr.2.2.2.2.2.1 x (by omega)) ?_
            refine mr_iconst C (nI 1) 85 dX8_readDoor_84 rfl rfl ?_
            refine mr_iload_n C 86 dX8_readDoor_85 rfl rfl ?_
            refine mr_ishl C _ 87 dX8_readDoor_86 rfl rfl ?_
            refine mr_ior C _ 88 dX8_readDoor_87 rfl rfl ?_
            refine mr_iast C 5 (10 + x) 89 dX8_readDoor_88 rfl rfl rfl (by omega) (by decide) ?_
            refine mr_aload_n C 90 dX8_readDoor_89 rfl rfl ?_
            refine mr_get C 0 93 dX8_readDoor_90 rfl fl_X8_22 rfl rfl ?_
            refine mr_bipush C (nI 10) 95 dX8_readDoor_93 rfl rfl ?_
            refine mr_iload_n C 96 dX8_readDoor_95 rfl rfl ?_
            refine mr_iadd C (nI (10 + y)) 97 dX8_readDoor_96 rfl (nI_add _ _) ?_
            refine mr_dup2 C 98 dX8_readDoor_97 rfl rfl rfl ?_
            refine mr_iald C 5 (10 + y) 99 dX8_readDoor_98 rfl rfl rfl (by omega) (by decide) ?_
            refine mr_iconst C (nI 1) 100 dX8_readDoor_99 rfl rfl ?_
            refine mr_iload_n C 101 dX8_readDoor_100 rfl rfl ?_
            refine mr_ishl C _ 102 dX8_readDoor_101 rfl rfl ?_
            refine mr_ior C _ 103 dX8_readDoor_102 rfl rfl ?_
            refine mr_iast C 5 (10 + y) 104 dX8_readDoor_103 rfl rfl rfl (by omega) (by decide) ?_
            refine mr_aload_n C 105 dX8_readDoor_104 rfl rfl ?_
            refine mr_get C 0 108 dX8_readDoor_105 rfl fl_X8_22 rfl rfl ?_
            refine mr_iconst C (nI 1) 109 dX8_readDoor_108 rfl rfl ?_
            refine mr_dup2 C 110 dX8_readDoor_109 rfl rfl rfl ?_
            refine mr_iale C 5 1 (nI D) 111 dX8_readDoor_110 rfl rfl rfl (by omega) (by decide) (by rw [up_n (by omega), up_n (by omega)]; exact hfr.2.1) ?_
            refine mr_iconst C (nI 1) 112 dX8_readDoor_111 rfl rfl ?_
            refine mr_iadd C (nI (D + 1)) 113 dX8_readDoor_112 rfl (nI_add _ _) ?_
            refine mr_iast C 5 1 114 dX8_readDoor_113 rfl rfl rfl (by omega) (by decide) ?_
            refine mr_vret C dX8_readDoor_114 rfl (by decide) (by decide) hlen ?_
            rw [hO]
            refine ⟨rfl, Or.inr ⟨(nxS t S (nxS t S (nxS t S (nxS t S p))), (R, K, D + 1), se0, drS sn0 x y (nI 1), so0, lo0, he0), _, ?_, hfr.door hR hx hy _ _ rfl rfl, rfl⟩⟩
            unfold rdDoor
            rw [rdWord_y hw (by omega)]
            show rbind (rdNum t S (nxS t S p) (nI 0) (nI R - nI 1) (-1)) _ = _
            rw [hn1]
            show rbind (rdNum t S (nxS t S (nxS t S p)) (nI 0) (nI R - nI 1) (vlS t S (nxS t S p))) _ = _
            rw [rdNum_un hun (by decide), hn2]
            show rbind (rdEnd t S (nxS t S (nxS t S (nxS t S p)))) _ = _
            rw [he9]
            show Sum.inr (nxS t S (nxS t S (nxS t S (nxS t S p))), (R, K, D + 1), se0, drS sn0 (vlS t S (nxS t S p)).toNatClampNeg (vlS t S (nxS t S (nxS t S p))).toNatClampNeg (nI 1), so0, lo0, he0) = _
            rw [ex, ey, nI_clamp (by omega), nI_clamp (by omega)]
      · rw [nI_eq (by omega) (by omega), tkM_is (by decide) (by decide)] at c_33
        have h2t : tkS t S (nxS t S (nxS t S p)) = 2 := by omega
        refine mr_aload_n C 37 dX8_readDoor_36 rfl rfl ?_
        refine mr_callV C (c_m_figures E a tn st ac td lt fp gn gi gm tr la mn im ho fr wa tp wh go se no al be ik ke tc t S hS htp hby (nxS t S (nxS t S p)) hp2 0) [0, 1, 2, 3, 4, 5, 6, 7, 8, 9, 10, 11, 12, 13, 14, 15, 16] 0 8 40 dX8_readDoor_37 rfl mk_X8_figures mi_X8_figures ml_X8_130 rfl rfl rfl rfl rfl (Nat.le_of_ble_eq_true rfl) (by decide) (by decide) (by decide) rfl rfl (fun r w1 hpost => ?_)
        obtain ⟨rfl, rfl⟩ := hpost
        refine mr_w (wput_all _ _ 17 rfl rfl) ?_
        refine mr_iload_n C 41 dX8_readDoor_40 rfl rfl ?_
        refine mr_icmpne C 49 44 dX8_readDoor_41 (by decide) rfl (fun c_41 => ?_) (fun c_41 => ?_)
        · have hun : tkS t S (nxS t S (nxS t S p)) = 2 → vlS t S (nxS t S (nxS t S p)) ≠ vlS t S (nxS t S p) := fun e e2 => c_41 (by rw [if_pos e, e2, ex])
          refine mr_aload_n C 50 dX8_readDoor_49 rfl rfl ?_
          refine mr_iconst C (nI 0) 51 dX8_readDoor_50 rfl rfl ?_
          refine mr_aload_n C 52 dX8_readDoor_51 rfl rfl ?_
          refine mr_get C 0 55 dX8_readDoor_52 rfl fl_X8_22 rfl rfl ?_
          refine mr_iconst C (nI 0) 56 dX8_readDoor_55 rfl rfl ?_
          refine mr_iale C 5 0 (nI R) 57 dX8_readDoor_56 rfl rfl rfl (by omega) (by decide) hfr.1 ?_
          refine mr_iconst C (nI 1) 58 dX8_readDoor_57 rfl rfl ?_
          refine mr_isub C (nI R - nI 1) 59 dX8_readDoor_58 rfl rfl ?_
          refine mr_callV C (c_number E a tn st ac td lt fp gn gi gm tr la mn im ho fr wa tp wh go se no al be ik ke tc t S hS htp hby (nxS t S (nxS t S p)) hp2 (nI 0) (nI R - nI 1) (by decide)) [0, 1, 2, 3, 4, 5, 6, 7, 8, 9, 10, 11, 12, 13, 14, 15, 16] 0 8 62 dX8_readDoor_59 rfl mk_X8_number mi_X8_number ml_X8_152 rfl rfl rfl rfl rfl (Nat.le_of_ble_eq_true rfl) (by decide) (by decide) (by decide) rfl rfl (fun r w1 hpost => ?_)
          rcases hpost with ⟨k2, x2, hk20, hk24, hn2, rfl, rfl⟩ | ⟨hn2, rfl, rfl⟩
          · refine mr_w (wput_all _ _ 17 rfl rfl) ?_
            refine mr_istore_n C 63 dX8_readDoor_62 rfl rfl (by decide) ?_
            refine mr_aload_n C 64 dX8_readDoor_63 rfl rfl ?_
            refine mr_callV C (c_mustEndF E a tn st ac td lt ((nI (stS t S (nxS t S (nxS t S p))))) gn gi gm tr la mn im ho fr wa tp wh go se no al be ik ke tc t S (nxS t S (nxS t S p)) k2 hk20 hk24) [0, 1, 2, 3, 4, 5, 6, 7, 8, 9, 10, 11, 12, 13, 14, 15, 16] 0 8 67 dX8_readDoor_64 rfl mk_X8_mustEnd mi_X8_mustEnd ml_X8_156 rfl rfl rfl rfl rfl (Nat.le_of_ble_eq_true rfl) (by decide) (by decide) (by decide) rfl rfl (fun r w1 hpost => ?_)
            obtain ⟨rfl, rfl⟩ := hpost
            refine mr_w (wput_all _ _ 17 rfl rfl) ?_
            refine mr_aload_n C 68 dX8_readDoor_67 rfl rfl ?_
            refine mr_get C 0 71 dX8_readDoor_68 rfl fl_X8_117 rfl rfl ?_
            refine mr_ifne C 114 74 dX8_readDoor_71 (by decide) rfl (fun c_71 => ?_) (fun c_71 => ?_)
            · refine mr_vret C dX8_readDoor_114 rfl (by decide) (by decide) hlen ?_
              rw [hO]
              refine ⟨rfl, Or.inl ⟨nxS t S (nxS t S p), k2, _, ?_, hk20, hk24, hp2, rfl⟩⟩
              unfold rdDoor
              rw [rdWord_y hw (by omega)]
              show rbind (rdNum t S (nxS t S p) (nI 0) (nI R - nI 1) (-1)) _ = _
              rw [hn1]
              show rbind (rdNum t S (nxS t S (nxS t S p)) (nI 0) (nI R - nI 1) (vlS t S (nxS t S p))) _ = _
              rw [rdNum_un hun (by decide), hn2]
              rfl
            · first | exact absurd c_71 (nI_ne0 hk10 (by omega)) | exact absurd c_71 (nI_ne0 hk20 (by omega))
          · refine mr_w (wput_all _ _ 17 rfl rfl) ?_
            obtain ⟨y, hy, ey⟩ : ∃ x, x < R ∧ vlS t S (nxS t S (nxS t S p)) = nI x := by
              have g := rdNum_ok hn2
              exact room_of g.2.2.1 g.2.2.2.1 hR
            rw [ey]
            refine mr_istore_n C 63 dX8_readDoor_62 rfl rfl (by decide) ?_
            refine mr_aload_n C 64 dX8_readDoor_63 rfl rfl ?_
            refine mr_callV C (c_mustEnd E a tn st ac td lt fp gn gi gm tr la mn im ho fr wa tp wh go se no al be ik ke tc t S hS htp hby (nxS t S (nxS t S (nxS t S p))) hp3) [0, 1, 2, 3, 4, 5, 6, 7, 8, 9, 10, 11, 12, 13, 14, 15, 16] 0 8 67 dX8_readDoor_64 rfl mk_X8_mustEnd mi_X8_mustEnd ml_X8_156 rfl rfl rfl rfl rfl (Nat.le_of_ble_eq_true rfl) (by decide) (by decide) (by decide) rfl rfl (fun r w1 hpost => ?_)
            rcases hpost with ⟨rfl, ⟨he9, rfl⟩ | ⟨he9, rfl⟩⟩
            · refine mr_w (wput_all _ _ 17 rfl rfl) ?_
              refine mr_aload_n C 68 dX8_readDoor_67 rfl rfl ?_
              refine mr_get C 0 71 dX8_readDoor_68 rfl fl_X8_117 rfl rfl ?_
              refine mr_ifne C 114 74 dX8_readDoor_71 (by decide) rfl (fun _ => ?_) (fun c_ => absurd c_ (by decide))
              refine mr_vret C dX8_readDoor_114 rfl (by decide) (by decide) hlen ?_
              rw [hO]
              refine ⟨rfl, Or.inl ⟨nxS t S (nxS t S (nxS t S p)), 1, _, ?_, by decide, by decide, hp3, rfl⟩⟩
              unfold rdDoor
              rw [rdWord_y hw (by omega)]
              show rbind (rdNum t S (nxS t S p) (nI 0) (nI R - nI 1) (-1)) _ = _
              rw [hn1]
              show rbind (rdNum t S (nxS t S (nxS t S p)) (nI 0) (nI R - nI 1) (vlS t S (nxS t S p))) _ = _
              rw [rdNum_un hun (by decide), hn2]
              show rbind (rdEnd t S (nxS t S (nxS t S (nxS t S p)))) _ = _
              rw [he9]
              rfl
            · refine mr_w (wput_all _ _ 17 rfl rfl) ?_
              refine mr_aload_n C 68 dX8_readDoor_67 rfl rfl ?_
              refine mr_get C 0 71 dX8_readDoor_68 rfl fl_X8_117 rfl rfl ?_
              refine mr_ifne C 114 74 dX8_readDoor_71 (by decide) rfl (fun c_ => absurd (by decide) c_) (fun _ => ?_)
              have hD12 : D < 12 := by omega
              refine mr_aload_n C 75 dX8_readDoor_74 rfl rfl ?_
              refine mr_get C 0 78 dX8_readDoor_75 rfl fl_X8_22 rfl rfl ?_
              refine mr_bipush C (nI 10) 80 dX8_readDoor_78 rfl rfl ?_
              refine mr_iload_n C 81 dX8_readDoor_80 rfl rfl ?_
              refine mr_iadd C (nI (10 + x)) 82 dX8_readDoor_81 rfl (nI_add _ _) ?_
              refine mr_dup2 C 83 dX8_readDoor_82 rfl rfl rfl ?_
              refine mr_iale C 5 (10 + x) ((sn0 x)) 84 dX8_readDoor_83 rfl rfl rfl (by omega) (by decide) (hfr.2.2.2.2.2.1 x (by omega)) ?_
              refine mr_iconst C (nI 1) 85 dX8_readDoor_84 rfl rfl ?_
              refine mr_iload_n C 86 dX8_readDoor_85 rfl rfl ?_
              refine mr_ishl C _ 87 dX8_readDoor_86 rfl rfl ?_
              refine mr_ior C _ 88 dX8_readDoor_87 rfl rfl ?_
              refine mr_iast C 5 (10 + x) 89 dX8_readDoor_88 rfl rfl rfl (by omega) (by decide) ?_
              refine mr_aload_n C 90 dX8_readDoor_89 rfl rfl ?_
              refine mr_get C 0 93 dX8_readDoor_90 rfl fl_X8_22 rfl rfl ?_
              refine mr_bipush C (nI 10) 95 dX8_readDoor_93 rfl rfl ?_
              refine mr_iload_n C 96 dX8_readDoor_95 rfl rfl ?_
              refine mr_iadd C (nI (10 + y)) 97 dX8_readDoor_96 rfl (nI_add _ _) ?_
              refine mr_dup2 C 98 dX8_readDoor_97 rfl rfl rfl ?_
              refine mr_iald C 5 (10 + y) 99 dX8_readDoor_98 rfl rfl rfl (by omega) (by decide) ?_
              refine mr_iconst C (nI 1) 100 dX8_readDoor_99 rfl rfl ?_
              refine mr_iload_n C 101 dX8_readDoor_100 rfl rfl ?_
              refine mr_ishl C _ 102 dX8_readDoor_101 rfl rfl ?_
              refine mr_ior C _ 103 dX8_readDoor_102 rfl rfl ?_
              refine mr_iast C 5 (10 + y) 104 dX8_readDoor_103 rfl rfl rfl (by omega) (by decide) ?_
              refine mr_aload_n C 105 dX8_readDoor_104 rfl rfl ?_
              refine mr_get C 0 108 dX8_readDoor_105 rfl fl_X8_22 rfl rfl ?_
              refine mr_iconst C (nI 1) 109 dX8_readDoor_108 rfl rfl ?_
              refine mr_dup2 C 110 dX8_readDoor_109 rfl rfl rfl ?_
              refine mr_iale C 5 1 (nI D) 111 dX8_readDoor_110 rfl rfl rfl (by omega) (by decide) (by rw [up_n (by omega), up_n (by omega)]; exact hfr.2.1) ?_
              refine mr_iconst C (nI 1) 112 dX8_readDoor_111 rfl rfl ?_
              refine mr_iadd C (nI (D + 1)) 113 dX8_readDoor_112 rfl (nI_add _ _) ?_
              refine mr_iast C 5 1 114 dX8_readDoor_113 rfl rfl rfl (by omega) (by decide) ?_
              refine mr_vret C dX8_readDoor_114 rfl (by decide) (by decide) hlen ?_
              rw [hO]
              refine ⟨rfl, Or.inr ⟨(nxS t S (nxS t S (nxS t S (nxS t S p))), (R, K, D + 1), se0, drS sn0 x y (nI 1), so0, lo0, he0), _, ?_, hfr.door hR hx hy _ _ rfl rfl, rfl⟩⟩
              unfold rdDoor
              rw [rdWord_y hw (by omega)]
              show rbind (rdNum t S (nxS t S p) (nI 0) (nI R - nI 1) (-1)) _ = _
              rw [hn1]
              show rbind (rdNum t S (nxS t S (nxS t S p)) (nI 0) (nI R - nI 1) (vlS t S (nxS t S p))) _ = _
              rw [rdNum_un hun (by decide), hn2]
              show rbind (rdEnd t S (nxS t S (nxS t S (nxS t S p)))) _ = _
              rw [he9]
              show Sum.inr (nxS t S (nxS t S (nxS t S (nxS t S p))), (R, K, D + 1), se0, drS sn0 (vlS t S (nxS t S p)).toNatClampNeg (vlS t S (nxS t S (nxS t S p))).toNatClampNeg (nI 1), so0, lo0, he0) = _
              rw [ex, ey, nI_clamp (by omega), nI_clamp (by omega)]
        · refine mr_aload_n C 45 dX8_readDoor_44 rfl rfl ?_
          refine mr_iconst C (nI 2) 46 dX8_readDoor_45 rfl rfl ?_
          refine mr_callV C (c_m_bad E a tn st ac td lt (nI S) (nI (nxS t S (nxS t S (nxS t S p)))) (nI (tkM (tkS t S (nxS t S (nxS t S p))))) (nI (stS t S (nxS t S (nxS t S p)))) (nI (nxS t S (nxS t S (nxS t S p)))) fp gn gi gm tr la mn im ho fr wa tp wh go se no al be ik ke tc 2) [0, 1, 2, 3, 4, 5, 6, 7, 8, 9, 10, 11, 12, 13, 14, 15, 16] 0 8 49 dX8_readDoor_46 rfl mk_X8_bad mi_X8_bad ml_X8_126 rfl rfl rfl rfl rfl (Nat.le_of_ble_eq_true rfl) (by decide) (by decide) (by decide) rfl rfl (fun r w1 hpost => ?_)
          obtain ⟨rfl, rfl⟩ := hpost
          refine mr_w (wput_all _ _ 17 rfl rfl) ?_
          have hsame : vlS t S (nxS t S (nxS t S p)) = vlS t S (nxS t S p) := by rw [ex, ← c_41, if_pos h2t]
          refine mr_aload_n C 50 dX8_readDoor_49 rfl rfl ?_
          refine mr_iconst C (nI 0) 51 dX8_readDoor_50 rfl rfl ?_
          refine mr_aload_n C 52 dX8_readDoor_51 rfl rfl ?_
          refine mr_get C 0 55 dX8_readDoor_52 rfl fl_X8_22 rfl rfl ?_
          refine mr_iconst C (nI 0) 56 dX8_readDoor_55 rfl rfl ?_
          refine mr_iale C 5 0 (nI R) 57 dX8_readDoor_56 rfl rfl rfl (by omega) (by decide) hfr.1 ?_
          refine mr_iconst C (nI 1) 58 dX8_readDoor_57 rfl rfl ?_
          refine mr_isub C (nI R - nI 1) 59 dX8_readDoor_58 rfl rfl ?_
          refine mr_callV C (c_numberF E a tn st ac td lt ((nI (stS t S (nxS t S (nxS t S p))))) gn gi gm tr la mn im ho fr wa tp wh go se no al be ik ke tc t S (nxS t S (nxS t S p)) 2 (by decide) (by decide) (nI 0) (nI R - nI 1)) [0, 1, 2, 3, 4, 5, 6, 7, 8, 9, 10, 11, 12, 13, 14, 15, 16] 0 8 62 dX8_readDoor_59 rfl mk_X8_number mi_X8_number ml_X8_152 rfl rfl rfl rfl rfl (Nat.le_of_ble_eq_true rfl) (by decide) (by decide) (by decide) rfl rfl (fun r w1 hpost => ?_)
          obtain ⟨rfl, rfl⟩ := hpost
          refine mr_w (wput_all _ _ 17 rfl rfl) ?_
          refine mr_istore_n C 63 dX8_readDoor_62 rfl rfl (by decide) ?_
          refine mr_aload_n C 64 dX8_readDoor_63 rfl rfl ?_
          refine mr_callV C (c_mustEndF E a tn st ac td lt ((nI (stS t S (nxS t S (nxS t S p))))) gn gi gm tr la mn im ho fr wa tp wh go se no al be ik ke tc t S (nxS t S (nxS t S p)) 2 (by decide) (by decide)) [0, 1, 2, 3, 4, 5, 6, 7, 8, 9, 10, 11, 12, 13, 14, 15, 16] 0 8 67 dX8_readDoor_64 rfl mk_X8_mustEnd mi_X8_mustEnd ml_X8_156 rfl rfl rfl rfl rfl (Nat.le_of_ble_eq_true rfl) (by decide) (by decide) (by decide) rfl rfl (fun r w1 hpost => ?_)
          obtain ⟨rfl, rfl⟩ := hpost
          refine mr_w (wput_all _ _ 17 rfl rfl) ?_
          refine mr_aload_n C 68 dX8_readDoor_67 rfl rfl ?_
          refine mr_get C 0 71 dX8_readDoor_68 rfl fl_X8_117 rfl rfl ?_
          refine mr_ifne C 114 74 dX8_readDoor_71 (by decide) rfl (fun _ => ?_) (fun c_ => absurd c_ (by decide))
          refine mr_vret C dX8_readDoor_114 rfl (by decide) (by decide) hlen ?_
          rw [hO]
          refine ⟨rfl, Or.inl ⟨nxS t S (nxS t S p), 2, _, ?_, by decide, by decide, hp2, rfl⟩⟩
          unfold rdDoor
          rw [rdWord_y hw (by omega)]
          show rbind (rdNum t S (nxS t S p) (nI 0) (nI R - nI 1) (-1)) _ = _
          rw [hn1]
          show rbind (rdNum t S (nxS t S (nxS t S p)) (nI 0) (nI R - nI 1) (vlS t S (nxS t S p))) _ = _
          rw [rdNum_a h2t hsame]
          rfl

set_option maxRecDepth 20000 in
set_option maxHeartbeats 4000000 in
theorem c_readCrowd_m (E : EG) (a : Nat → Nat) (tn st ac td lt fp gn gi gm tr : Int32) (la mn im ho fr wa tp wh go se no al be ik ke tc : FN) (t : FN) (S : Nat) (hS : S ≤ 400) (htp : ∀ j, j < S → tp j = t j) (hby : ∀ j, j < S → ∃ b, b < 256 ∧ t j = nI b) (p : Nat) (hp : p ≤ S) (R K D : Nat) (se0 sn0 so0 lo0 he0 : FN) (hR : R ≤ 6) (hK : K ≤ 5) (hD : D ≤ 12) (hfr : FR fr R K D se0 sn0 so0 lo0 he0) (hw : isW t S p 2) : Ctr E mX8_readCrowd (6, 0, 0) [.ref (a 0)] (wM E a tn st la mn im ho fr wa ac tp td lt ((nI S)) ((nI (nxS t S p))) ((nI (tkM (tkS t S p)))) ((nI (stS t S p))) ((nI (nxS t S p))) ((nI 0)) fp wh go se no al be gn gi gm ik ke tc tr) (fun v w => v = none ∧ ((∃ (e k : Nat) (f : FN), rdCrowd t S p R K D se0 sn0 so0 lo0 he0 = .inl (e, k) ∧ 0 < k ∧ k < 4 ∧ e ≤ S ∧ w = wM E a tn st la mn im ho f wa ac tp td lt ((nI S)) ((nI (nxS t S e))) ((nI (tkM (tkS t S e)))) ((nI (stS t S e))) ((nI (nxS t S e))) ((nI k)) ((nI (stS t S e))) wh go se no al be gn gi gm ik ke tc tr) ∨ (∃ (x : Nat × PLN) (f : FN), rdCrowd t S p R K D se0 sn0 so0 lo0 he0 = .inr x ∧ FR f x.2.1.1 x.2.1.2.1 x.2.1.2.2 x.2.2.1 x.2.2.2.1 x.2.2.2.2.1 x.2.2.2.2.2.1 x.2.2.2.2.2.2 ∧ w = wM E a tn st la mn im ho f wa ac tp td lt ((nI S)) ((nI (nxS t S x.1))) ((nI (tkM (tkS t S x.1)))) ((nI (stS t S x.1))) ((nI (nxS t S x.1))) ((nI 0)) fp wh go se no al be gn gi gm ik ke tc tr))) := by
  refine Ctr.of (by decide) (Nat.le_of_ble_eq_true rfl) ?_
  intro Z hO hn C
  have hlen : zn Z ≤ 17 := by rw [hn]; exact Nat.le_of_ble_eq_true rfl
  have hp1 : nxS t S p ≤ S := (nxS_le hp).2
  have hp2 : nxS t S (nxS t S p) ≤ S := (nxS_le hp1).2
  have hp3 : nxS t S (nxS t S (nxS t S p)) ≤ S := (nxS_le hp2).2
  have hp4 : nxS t S (nxS t S (nxS t S (nxS t S p))) ≤ S := (nxS_le hp3).2
  have hp5 : nxS t S (nxS t S (nxS t S (nxS t S (nxS t S p)))) ≤ S := (nxS_le hp4).2
  refine mr_aload_n C 1 dX8_readCrowd_0 rfl rfl ?_
  refine mr_iconst C (nI 2) 2 dX8_readCrowd_1 rfl rfl ?_
  refine mr_iconst C (nI 5) 3 dX8_readCrowd_2 rfl rfl ?_
  refine mr_callV C (c_begins E a tn st ac td lt fp gn gi gm tr la mn im ho fr wa tp wh go se no al be ik ke tc t S hS htp hby p hp 2 K 5 (by decide) hfr.2.2.1 (by omega) (by decide)) [0, 1, 2, 3, 4, 5, 6, 7, 8, 9, 10, 11, 12, 13, 14, 15, 16] 0 8 6 dX8_readCrowd_3 rfl mk_X8_begins mi_X8_begins ml_X8_148 rfl rfl rfl rfl rfl (Nat.le_of_ble_eq_true rfl) (by decide) (by decide) (by decide) rfl rfl (fun r w1 hpost => ?_)
  rcases hpost with ⟨rfl, ⟨hb9, rfl⟩ | ⟨hb9, rfl⟩⟩
  · refine mr_w (wput_all _ _ 17 rfl rfl) ?_
    refine mr_aload_n C 7 dX8_readCrowd_6 rfl rfl ?_
    refine mr_callV C (c_m_name E a tn st ac td lt ((nI (stS t S p))) gn gi gm tr la mn im ho fr wa tp wh go se no al be ik ke tc t S hS htp hby p hp 3 (by decide)) [0, 1, 2, 3, 4, 5, 6, 7, 8, 9, 10, 11, 12, 13, 14, 15, 16] 0 8 10 dX8_readCrowd_7 rfl mk_X8_name mi_X8_name ml_X8_159 rfl rfl rfl rfl rfl (Nat.le_of_ble_eq_true rfl) (by decide) (by decide) (by decide) rfl rfl (fun r w1 hpost => ?_)
    obtain ⟨rfl, rfl⟩ := hpost
    refine mr_w (wput_all _ _ 17 rfl rfl) ?_
    refine mr_callS C (c_kindBy E (if 3 = 0 then nmS t S (p) else 0)) [] 13 dX8_readCrowd_10 rfl mk_X8_kindBy ms_X8_kindBy ml_X8_163 rfl rfl rfl rfl (Nat.le_of_ble_eq_true rfl) (by decide) (by decide) (by decide) (fun r w1 hpost => ?_)
    obtain ⟨rfl, rfl⟩ := hpost
    refine mr_w (ws' := wM E a tn st la mn im ho fr wa ac tp td lt (nI S) (nI (nxS t S p)) (nI (tkM (tkS t S p))) (nI (stS t S p)) (nI (nxS t S p)) (nI 3) ((nI (stS t S p))) wh go se no al be gn gi gm ik ke tc tr) rfl ?_
    refine mr_istore_n C 14 dX8_readCrowd_13 rfl rfl (by decide) ?_
    refine mr_aload_n C 15 dX8_readCrowd_14 rfl rfl ?_
    refine mr_get C 0 18 dX8_readCrowd_15 rfl fl_X8_117 rfl rfl ?_
    refine mr_ifne C 36 21 dX8_readCrowd_18 (by decide) rfl (fun _ => ?_) (fun c_ => absurd c_ (by decide))
    refine mr_aload_n C 37 dX8_readCrowd_36 rfl rfl ?_
    refine mr_iconst C (nI 0) 38 dX8_readCrowd_37 rfl rfl ?_
    refine mr_aload_n C 39 dX8_readCrowd_38 rfl rfl ?_
    refine mr_get C 0 42 dX8_readCrowd_39 rfl fl_X8_22 rfl rfl ?_
    refine mr_iconst C (nI 0) 43 dX8_readCrowd_42 rfl rfl ?_
    refine mr_iale C 5 0 (nI R) 44 dX8_readCrowd_43 rfl rfl rfl (by omega) (by decide) hfr.1 ?_
    refine mr_iconst C (nI 1) 45 dX8_readCrowd_44 rfl rfl ?_
    refine mr_isub C (nI R - nI 1) 46 dX8_readCrowd_45 rfl rfl ?_
    refine mr_callV C (c_numberF E a tn st ac td lt ((nI (stS t S p))) gn gi gm tr la mn im ho fr wa tp wh go se no al be ik ke tc t S p 3 (by decide) (by decide) (nI 0) (nI R - nI 1)) [0, 1, 2, 3, 4, 5, 6, 7, 8, 9, 10, 11, 12, 13, 14, 15, 16] 0 8 49 dX8_readCrowd_46 rfl mk_X8_number mi_X8_number ml_X8_152 rfl rfl rfl rfl rfl (Nat.le_of_ble_eq_true rfl) (by decide) (by decide) (by decide) rfl rfl (fun r w1 hpost => ?_)
    obtain ⟨rfl, rfl⟩ := hpost
    refine mr_w (wput_all _ _ 17 rfl rfl) ?_
    refine mr_istore_n C 50 dX8_readCrowd_49 rfl rfl (by decide) ?_
    refine mr_aload_n C 51 dX8_readCrowd_50 rfl rfl ?_
    refine mr_iconst C (nI 1) 52 dX8_readCrowd_51 rfl rfl ?_
    refine mr_bipush C (nI 50) 54 dX8_readCrowd_52 rfl rfl ?_
    refine mr_callV C (c_numberF E a tn st ac td lt ((nI (stS t S p))) gn gi gm tr la mn im ho fr wa tp wh go se no al be ik ke tc t S p 3 (by decide) (by decide) (nI 1) (nI 50)) [0, 1, 2, 3, 4, 5, 6, 7, 8, 9, 10, 11, 12, 13, 14, 15, 16] 0 8 57 dX8_readCrowd_54 rfl mk_X8_number mi_X8_number ml_X8_152 rfl rfl rfl rfl rfl (Nat.le_of_ble_eq_true rfl) (by decide) (by decide) (by decide) rfl rfl (fun r w1 hpost => ?_)
    obtain ⟨rfl, rfl⟩ := hpost
    refine mr_w (wput_all _ _ 17 rfl rfl) ?_
    refine mr_istore_n C 58 dX8_readCrowd_57 rfl rfl (by decide) ?_
    refine mr_aload_n C 59 dX8_readCrowd_58 rfl rfl ?_
    refine mr_callV C (c_mustEndF E a tn st ac td lt ((nI (stS t S p))) gn gi gm tr la mn im ho fr wa tp wh go se no al be ik ke tc t S p 3 (by decide) (by decide)) [0, 1, 2, 3, 4, 5, 6, 7, 8, 9, 10, 11, 12, 13, 14, 15, 16] 0 8 62 dX8_readCrowd_59 rfl mk_X8_mustEnd mi_X8_mustEnd ml_X8_156 rfl rfl rfl rfl rfl (Nat.le_of_ble_eq_true rfl) (by decide) (by decide) (by decide) rfl rfl (fun r w1 hpost => ?_)
    obtain ⟨rfl, rfl⟩ := hpost
    refine mr_w (wput_all _ _ 17 rfl rfl) ?_
    refine mr_aload_n C 63 dX8_readCrowd_62 rfl rfl ?_
    refine mr_get C 0 66 dX8_readCrowd_63 rfl fl_X8_117 rfl rfl ?_
    refine mr_ifne C 120 69 dX8_readCrowd_66 (by decide) rfl (fun _ => ?_) (fun c_ => absurd c_ (by decide))
    refine mr_vret C dX8_readCrowd_120 rfl (by decide) (by decide) hlen ?_
    rw [hO]
    refine ⟨rfl, Or.inl ⟨p, 3, _, ?_, by decide, by decide, hp, rfl⟩⟩
    unfold rdCrowd
    rw [rdWord_n hw (by omega)]
    rfl
  · refine mr_w (wput_all _ _ 17 rfl rfl) ?_
    refine mr_aload_n C 7 dX8_readCrowd_6 rfl rfl ?_
    refine mr_callV C (c_m_name E a tn st ac td lt fp gn gi gm tr la mn im ho fr wa tp wh go se no al be ik ke tc t S hS htp hby (nxS t S p) hp1 0 (by decide)) [0, 1, 2, 3, 4, 5, 6, 7, 8, 9, 10, 11, 12, 13, 14, 15, 16] 0 8 10 dX8_readCrowd_7 rfl mk_X8_name mi_X8_name ml_X8_159 rfl rfl rfl rfl rfl (Nat.le_of_ble_eq_true rfl) (by decide) (by decide) (by decide) rfl rfl (fun r w1 hpost => ?_)
    obtain ⟨rfl, rfl⟩ := hpost
    refine mr_w (wput_all _ _ 17 rfl rfl) ?_
    refine mr_callS C (c_kindBy E (if 0 = 0 then nmS t S (nxS t S p) else 0)) [] 13 dX8_readCrowd_10 rfl mk_X8_kindBy ms_X8_kindBy ml_X8_163 rfl rfl rfl rfl (Nat.le_of_ble_eq_true rfl) (by decide) (by decide) (by decide) (fun r w1 hpost => ?_)
    obtain ⟨rfl, rfl⟩ := hpost
    refine mr_w (ws' := wM E a tn st la mn im ho fr wa ac tp td lt (nI S) (nI (nxS t S (nxS t S p))) (nI (tkM (tkS t S (nxS t S p)))) (nI (stS t S (nxS t S p))) (nI (nxS t S (nxS t S p))) (nI 0) fp wh go se no al be gn gi gm ik ke tc tr) rfl ?_
    rw [if_pos rfl, kb_rd t S (nxS t S p) hp1]
    by_cases hs9 : rdSort t S (nxS t S p) = 0
    · rw [if_pos hs9]
      refine mr_istore_n C 14 dX8_readCrowd_13 rfl rfl (by decide) ?_
      refine mr_aload_n C 15 dX8_readCrowd_14 rfl rfl ?_
      refine mr_get C 0 18 dX8_readCrowd_15 rfl fl_X8_117 rfl rfl ?_
      refine mr_ifne C 36 21 dX8_readCrowd_18 (by decide) rfl (fun c_ => absurd (by decide) c_) (fun _ => ?_)
      refine mr_aload_n C 22 dX8_readCrowd_21 rfl rfl ?_
      refine mr_iload_n C 23 dX8_readCrowd_22 rfl rfl ?_
      refine mr_ldc C 25 dX8_readCrowd_23 rfl kc_X8_95 ?_
      refine mr_icmpeq C 32 28 dX8_readCrowd_25 (by decide) rfl (fun c_25 => ?_) (fun c_25 => ?_)
      · refine mr_iconst C (nI 0) 33 dX8_readCrowd_32 rfl rfl ?_
        refine mr_callV C (c_must0 E a tn st ac td lt fp gn gi gm tr la mn im ho fr wa tp wh go se no al be ik ke tc t S hS htp hby (nxS t S p) hp1) [0, 1, 2, 3, 4, 5, 6, 7, 8, 9, 10, 11, 12, 13, 14, 15, 16] 0 8 36 dX8_readCrowd_33 rfl mk_X8_must mi_X8_must ml_X8_134 rfl rfl rfl rfl rfl (Nat.le_of_ble_eq_true rfl) (by decide) (by decide) (by decide) rfl rfl (fun r w1 hpost => ?_)
        obtain ⟨rfl, rfl⟩ := hpost
        refine mr_w (wput_all _ _ 17 rfl rfl) ?_
        refine mr_aload_n C 37 dX8_readCrowd_36 rfl rfl ?_
        refine mr_iconst C (nI 0) 38 dX8_readCrowd_37 rfl rfl ?_
        refine mr_aload_n C 39 dX8_readCrowd_38 rfl rfl ?_
        refine mr_get C 0 42 dX8_readCrowd_39 rfl fl_X8_22 rfl rfl ?_
        refine mr_iconst C (nI 0) 43 dX8_readCrowd_42 rfl rfl ?_
        refine mr_iale C 5 0 (nI R) 44 dX8_readCrowd_43 rfl rfl rfl (by omega) (by decide) hfr.1 ?_
        refine mr_iconst C (nI 1) 45 dX8_readCrowd_44 rfl rfl ?_
        refine mr_isub C (nI R - nI 1) 46 dX8_readCrowd_45 rfl rfl ?_
        refine mr_callV C (c_numberF E a tn st ac td lt ((nI (stS t S (nxS t S p)))) gn gi gm tr la mn im ho fr wa tp wh go se no al be ik ke tc t S (nxS t S p) 1 (by decide) (by decide) (nI 0) (nI R - nI 1)) [0, 1, 2, 3, 4, 5, 6, 7, 8, 9, 10, 11, 12, 13, 14, 15, 16] 0 8 49 dX8_readCrowd_46 rfl mk_X8_number mi_X8_number ml_X8_152 rfl rfl rfl rfl rfl (Nat.le_of_ble_eq_true rfl) (by decide) (by decide) (by decide) rfl rfl (fun r w1 hpost => ?_)
        obtain ⟨rfl, rfl⟩ := hpost
        refine mr_w (wput_all _ _ 17 rfl rfl) ?_
        refine mr_istore_n C 50 dX8_readCrowd_49 rfl rfl (by decide) ?_
        refine mr_aload_n C 51 dX8_readCrowd_50 rfl rfl ?_
        refine mr_iconst C (nI 1) 52 dX8_readCrowd_51 rfl rfl ?_
        refine mr_bipush C (nI 50) 54 dX8_readCrowd_52 rfl rfl ?_
        refine mr_callV C (c_numberF E a tn st ac td lt ((nI (stS t S (nxS t S p)))) gn gi gm tr la mn im ho fr wa tp wh go se no al be ik ke tc t S (nxS t S p) 1 (by decide) (by decide) (nI 1) (nI 50)) [0, 1, 2, 3, 4, 5, 6, 7, 8, 9, 10, 11, 12, 13, 14, 15, 16] 0 8 57 dX8_readCrowd_54 rfl mk_X8_number mi_X8_number ml_X8_152 rfl rfl rfl rfl rfl (Nat.le_of_ble_eq_true rfl) (by decide) (by decide) (by decide) rfl rfl (fun r w1 hpost => ?_)
        obtain ⟨rfl, rfl⟩ := hpost
        refine mr_w (wput_all _ _ 17 rfl rfl) ?_
        refine mr_istore_n C 58 dX8_readCrowd_57 rfl rfl (by decide) ?_
        refine mr_aload_n C 59 dX8_readCrowd_58 rfl rfl ?_
        refine mr_callV C (c_mustEndF E a tn st ac td lt ((nI (stS t S (nxS t S p)))) gn gi gm tr la mn im ho fr wa tp wh go se no al be ik ke tc t S (nxS t S p) 1 (by decide) (by decide)) [0, 1, 2, 3, 4, 5, 6, 7, 8, 9, 10, 11, 12, 13, 14, 15, 16] 0 8 62 dX8_readCrowd_59 rfl mk_X8_mustEnd mi_X8_mustEnd ml_X8_156 rfl rfl rfl rfl rfl (Nat.le_of_ble_eq_true rfl) (by decide) (by decide) (by decide) rfl rfl (fun r w1 hpost => ?_)
        obtain ⟨rfl, rfl⟩ := hpost
        refine mr_w (wput_all _ _ 17 rfl rfl) ?_
        refine mr_aload_n C 63 dX8_readCrowd_62 rfl rfl ?_
        refine mr_get C 0 66 dX8_readCrowd_63 rfl fl_X8_117 rfl rfl ?_
        refine mr_ifne C 120 69 dX8_readCrowd_66 (by decide) rfl (fun _ => ?_) (fun c_ => absurd c_ (by decide))
        refine mr_vret C dX8_readCrowd_120 rfl (by decide) (by decide) hlen ?_
        rw [hO]
        refine ⟨rfl, Or.inl ⟨nxS t S p, 1, _, ?_, by decide, by decide, hp1, rfl⟩⟩
        unfold rdCrowd
        rw [rdWord_y hw (by omega)]
        show (if rdSort t S (nxS t S p) = 0 then _ else _) = _
        exact if_pos hs9
      · exact absurd rfl c_25
    · rw [if_neg hs9]
      have hsl := rdSort_lt t S (nxS t S p)
      refine mr_istore_n C 14 dX8_readCrowd_13 rfl rfl (by decide) ?_
      refine mr_aload_n C 15 dX8_readCrowd_14 rfl rfl ?_
      refine mr_get C 0 18 dX8_readCrowd_15 rfl fl_X8_117 rfl rfl ?_
      refine mr_ifne C 36 21 dX8_readCrowd_18 (by decide) rfl (fun c_ => absurd (by decide) c_) (fun _ => ?_)
      refine mr_aload_n C 22 dX8_readCrowd_21 rfl rfl ?_
      refine mr_iload_n C 23 dX8_readCrowd_22 rfl rfl ?_
      refine mr_ldc C 25 dX8_readCrowd_23 rfl kc_X8_95 ?_
      refine mr_icmpeq C 32 28 dX8_readCrowd_25 (by decide) rfl (fun c_25 => ?_) (fun c_25 => ?_)
      · exact absurd c_25 (nd36 (by omega))
      · refine mr_iconst C (nI 1) 29 dX8_readCrowd_28 rfl rfl ?_
        refine mr_goto C 33 dX8_readCrowd_29 (by decide) ?_
        refine mr_callV C (c_must1 E a tn st ac td lt fp gn gi gm tr la mn im ho fr wa tp wh go se no al be ik ke tc t S hS htp hby (nxS t S p) hp1) [0, 1, 2, 3, 4, 5, 6, 7, 8, 9, 10, 11, 12, 13, 14, 15, 16] 0 8 36 dX8_readCrowd_33 rfl mk_X8_must mi_X8_must ml_X8_134 rfl rfl rfl rfl rfl (Nat.le_of_ble_eq_true rfl) (by decide) (by decide) (by decide) rfl rfl (fun r w1 hpost => ?_)
        obtain ⟨rfl, rfl⟩ := hpost
        refine mr_w (wput_all _ _ 17 rfl rfl) ?_
        refine mr_aload_n C 37 dX8_readCrowd_36 rfl rfl ?_
        refine mr_iconst C (nI 0) 38 dX8_readCrowd_37 rfl rfl ?_
        refine mr_aload_n C 39 dX8_readCrowd_38 rfl rfl ?_
        refine mr_get C 0 42 dX8_readCrowd_39 rfl fl_X8_22 rfl rfl ?_
        refine mr_iconst C (nI 0) 43 dX8_readCrowd_42 rfl rfl ?_
        refine mr_iale C 5 0 (nI R) 44 dX8_readCrowd_43 rfl rfl rfl (by omega) (by decide) hfr.1 ?_
        refine mr_iconst C (nI 1) 45 dX8_readCrowd_44 rfl rfl ?_
        refine mr_isub C (nI R - nI 1) 46 dX8_readCrowd_45 rfl rfl ?_
        refine mr_callV C (c_number E a tn st ac td lt fp gn gi gm tr la mn im ho fr wa tp wh go se no al be ik ke tc t S hS htp hby (nxS t S (nxS t S p)) hp2 (nI 0) (nI R - nI 1) (by decide)) [0, 1, 2, 3, 4, 5, 6, 7, 8, 9, 10, 11, 12, 13, 14, 15, 16] 0 8 49 dX8_readCrowd_46 rfl mk_X8_number mi_X8_number ml_X8_152 rfl rfl rfl rfl rfl (Nat.le_of_ble_eq_true rfl) (by decide) (by decide) (by decide) rfl rfl (fun r w1 hpost => ?_)
        rcases hpost with ⟨k1, x1, hk10, hk14, hn1, rfl, rfl⟩ | ⟨hn1, rfl, rfl⟩
        · refine mr_w (wput_all _ _ 17 rfl rfl) ?_
          refine mr_istore_n C 50 dX8_readCrowd_49 rfl rfl (by decide) ?_
          refine mr_aload_n C 51 dX8_readCrowd_50 rfl rfl ?_
          refine mr_iconst C (nI 1) 52 dX8_readCrowd_51 rfl rfl ?_
          refine mr_bipush C (nI 50) 54 dX8_readCrowd_52 rfl rfl ?_
          refine mr_callV C (c_numberF E a tn st ac td lt ((nI (stS t S (nxS t S (nxS t S p))))) gn gi gm tr la mn im ho fr wa tp wh go se no al be ik ke tc t S (nxS t S (nxS t S p)) k1 hk10 hk14 (nI 1) (nI 50)) [0, 1, 2, 3, 4, 5, 6, 7, 8, 9, 10, 11, 12, 13, 14, 15, 16] 0 8 57 dX8_readCrowd_54 rfl mk_X8_number mi_X8_number ml_X8_152 rfl rfl rfl rfl rfl (Nat.le_of_ble_eq_true rfl) (by decide) (by decide) (by decide) rfl rfl (fun r w1 hpost => ?_)
          obtain ⟨rfl, rfl⟩ := hpost
          refine mr_w (wput_all _ _ 17 rfl rfl) ?_
          refine mr_istore_n C 58 dX8_readCrowd_57 rfl rfl (by decide) ?_
          refine mr_aload_n C 59 dX8_readCrowd_58 rfl rfl ?_
          refine mr_callV C (c_mustEndF E a tn st ac td lt ((nI (stS t S (nxS t S (nxS t S p))))) gn gi gm tr la mn im ho fr wa tp wh go se no al be ik ke tc t S (nxS t S (nxS t S p)) k1 hk10 hk14) [0, 1, 2, 3, 4, 5, 6, 7, 8, 9, 10, 11, 12, 13, 14, 15, 16] 0 8 62 dX8_readCrowd_59 rfl mk_X8_mustEnd mi_X8_mustEnd ml_X8_156 rfl rfl rfl rfl rfl (Nat.le_of_ble_eq_true rfl) (by decide) (by decide) (by decide) rfl rfl (fun r w1 hpost => ?_)
          obtain ⟨rfl, rfl⟩ := hpost
          refine mr_w (wput_all _ _ 17 rfl rfl) ?_
          refine mr_aload_n C 63 dX8_readCrowd_62 rfl rfl ?_
          refine mr_get C 0 66 dX8_readCrowd_63 rfl fl_X8_117 rfl rfl ?_
          refine mr_ifne C 120 69 dX8_readCrowd_66 (by decide) rfl (fun c_66 => ?_) (fun c_66 => ?_)
          · refine mr_vret C dX8_readCrowd_120 rfl (by decide) (by decide) hlen ?_
            rw [hO]
            refine ⟨rfl, Or.inl ⟨nxS t S (nxS t S p), k1, _, ?_, hk10, hk14, hp2, rfl⟩⟩
            unfold rdCrowd
            rw [rdWord_y hw (by omega)]
            show (if rdSort t S (nxS t S p) = 0 then _ else _) = _
            rw [if_neg hs9]
            show rbind (rdNum t S (nxS t S (nxS t S p)) (nI 0) (nI R - nI 1) (-1)) _ = _
            rw [hn1]
            rfl
          · first | exact absurd c_66 (nI_ne0 hk10 (by omega)) | exact absurd c_66 (nI_ne0 hk20 (by omega))
        · refine mr_w (wput_all _ _ 17 rfl rfl) ?_
          refine mr_istore_n C 50 dX8_readCrowd_49 rfl rfl (by decide) ?_
          refine mr_aload_n C 51 dX8_readCrowd_50 rfl rfl ?_
          refine mr_iconst C (nI 1) 52 dX8_readCrowd_51 rfl rfl ?_
          refine mr_bipush C (nI 50) 54 dX8_readCrowd_52 rfl rfl ?_
          refine mr_callV C (c_number E a tn st ac td lt fp gn gi gm tr la mn im ho fr wa tp wh go se no al be ik ke tc t S hS htp hby (nxS t S (nxS t S (nxS t S p))) hp3 (nI 1) (nI 50) (by decide)) [0, 1, 2, 3, 4, 5, 6, 7, 8, 9, 10, 11, 12, 13, 14, 15, 16] 0 8 57 dX8_readCrowd_54 rfl mk_X8_number mi_X8_number ml_X8_152 rfl rfl rfl rfl rfl (Nat.le_of_ble_eq_true rfl) (by decide) (by decide) (by decide) rfl rfl (fun r w1 hpost => ?_)
          rcases hpost with ⟨k2, x2, hk20, hk24, hn2, rfl, rfl⟩ | ⟨hn2, rfl, rfl⟩
          · refine mr_w (wput_all _ _ 17 rfl rfl) ?_
            refine mr_istore_n C 58 dX8_readCrowd_57 rfl rfl (by decide) ?_
            refine mr_aload_n C 59 dX8_readCrowd_58 rfl rfl ?_
            refine mr_callV C (c_mustEndF E a tn st ac td lt ((nI (stS t S (nxS t S (nxS t S (nxS t S p)))))) gn gi gm tr la mn im ho fr wa tp wh go se no al be ik ke tc t S (nxS t S (nxS t S (nxS t S p))) k2 hk20 hk24) [0, 1, 2, 3, 4, 5, 6, 7, 8, 9, 10, 11, 12, 13, 14, 15, 16] 0 8 62 dX8_readCrowd_59 rfl mk_X8_mustEnd mi_X8_mustEnd ml_X8_156 rfl rfl rfl rfl rfl (Nat.le_of_ble_eq_true rfl) (by decide) (by decide) (by decide) rfl rfl (fun r w1 hpost => ?_)
            obtain ⟨rfl, rfl⟩ := hpost
            refine mr_w (wput_all _ _ 17 rfl rfl) ?_
            refine mr_aload_n C 63 dX8_readCrowd_62 rfl rfl ?_
            refine mr_get C 0 66 dX8_readCrowd_63 rfl fl_X8_117 rfl rfl ?_
            refine mr_ifne C 120 69 dX8_readCrowd_66 (by decide) rfl (fun c_66 => ?_) (fun c_66 => ?_)
            · refine mr_vret C dX8_readCrowd_120 rfl (by decide) (by decide) hlen ?_
              rw [hO]
              refine ⟨rfl, Or.inl ⟨nxS t S (nxS t S (nxS t S p)), k2, _, ?_, hk20, hk24, hp3, rfl⟩⟩
              unfold rdCrowd
              rw [rdWord_y hw (by omega)]
              show (if rdSort t S (nxS t S p) = 0 then _ else _) = _
              rw [if_neg hs9]
              show rbind (rdNum t S (nxS t S (nxS t S p)) (nI 0) (nI R - nI 1) (-1)) _ = _
              rw [hn1]
              show rbind (rdNum t S (nxS t S (nxS t S (nxS t S p))) (nI 1) (nI 50) (-1)) _ = _
              rw [hn2]
              rfl
            · first | exact absurd c_66 (nI_ne0 hk10 (by omega)) | exact absurd c_66 (nI_ne0 hk20 (by omega))
          · refine mr_w (wput_all _ _ 17 rfl rfl) ?_
            refine mr_istore_n C 58 dX8_readCrowd_57 rfl rfl (by decide) ?_
            refine mr_aload_n C 59 dX8_readCrowd_58 rfl rfl ?_
            refine mr_callV C (c_mustEnd E a tn st ac td lt fp gn gi gm tr la mn im ho fr wa tp wh go se no al be ik ke tc t S hS htp hby (nxS t S (nxS t S (nxS t S (nxS t S p)))) hp4) [0, 1, 2, 3, 4, 5, 6, 7, 8, 9, 10, 11, 12, 13, 14, 15, 16] 0 8 62 dX8_readCrowd_59 rfl mk_X8_mustEnd mi_X8_mustEnd ml_X8_156 rfl rfl rfl rfl rfl (Nat.le_of_ble_eq_true rfl) (by decide) (by decide) (by decide) rfl rfl (fun r w1 hpost => ?_)
            rcases hpost with ⟨rfl, ⟨he9, rfl⟩ | ⟨he9, rfl⟩⟩
            · refine mr_w (wput_all _ _ 17 rfl rfl) ?_
              refine mr_aload_n C 63 dX8_readCrowd_62 rfl rfl ?_
              refine mr_get C 0 66 dX8_readCrowd_63 rfl fl_X8_117 rfl rfl ?_
              refine mr_ifne C 120 69 dX8_readCrowd_66 (by decide) rfl (fun _ => ?_) (fun c_ => absurd c_ (by decide))
              refine mr_vret C dX8_readCrowd_120 rfl (by decide) (by decide) hlen ?_
              rw [hO]
              refine ⟨rfl, Or.inl ⟨nxS t S (nxS t S (nxS t S (nxS t S p))), 1, _, ?_, by decide, by decide, hp4, rfl⟩⟩
              unfold rdCrowd
              rw [rdWord_y hw (by omega)]
              show (if rdSort t S (nxS t S p) = 0 then _ else _) = _
              rw [if_neg hs9]
              show rbind (rdNum t S (nxS t S (nxS t S p)) (nI 0) (nI R - nI 1) (-1)) _ = _
              rw [hn1]
              show rbind (rdNum t S (nxS t S (nxS t S (nxS t S p))) (nI 1) (nI 50) (-1)) _ = _
              rw [hn2]
              show rbind (rdEnd t S (nxS t S (nxS t S (nxS t S (nxS t S p))))) _ = _
              rw [he9]
              rfl
            · refine mr_w (wput_all _ _ 17 rfl rfl) ?_
              refine mr_aload_n C 63 dX8_readCrowd_62 rfl rfl ?_
              refine mr_get C 0 66 dX8_readCrowd_63 rfl fl_X8_117 rfl rfl ?_
              refine mr_ifne C 120 69 dX8_readCrowd_66 (by decide) rfl (fun c_ => absurd (by decide) c_) (fun _ => ?_)
              have hK5 : K < 5 := by omega
              refine mr_bipush C (nI 22) 71 dX8_readCrowd_69 rfl rfl ?_
              refine mr_iconst C (nI 3) 72 dX8_readCrowd_71 rfl rfl ?_
              refine mr_aload_n C 73 dX8_readCrowd_72 rfl rfl ?_
              refine mr_get C 0 76 dX8_readCrowd_73 rfl fl_X8_22 rfl rfl ?_
              refine mr_iconst C (nI 2) 77 dX8_readCrowd_76 rfl rfl ?_
              refine mr_iale C 5 2 (nI K) 78 dX8_readCrowd_77 rfl rfl rfl (by omega) (by decide) hfr.2.2.1 ?_
              refine mr_imul C _ 79 dX8_readCrowd_78 rfl rfl ?_
              refine mr_iadd C (nI (22 + 3 * K)) 80 dX8_readCrowd_79 rfl (by rw [pk_mul, nI_add]) ?_
              refine mr_istore C 82 dX8_readCrowd_80 rfl (by decide) ?_
              refine mr_aload_n C 83 dX8_readCrowd_82 rfl rfl ?_
              refine mr_get C 0 86 dX8_readCrowd_83 rfl fl_X8_22 rfl rfl ?_
              refine mr_iload C 88 dX8_readCrowd_86 rfl rfl ?_
              refine mr_iload_n C 89 dX8_readCrowd_88 rfl rfl ?_
              refine mr_iast C 5 (22 + 3 * K) 90 dX8_readCrowd_89 rfl rfl rfl (by omega) (by decide) ?_
              refine mr_aload_n C 91 dX8_readCrowd_90 rfl rfl ?_
              refine mr_get C 0 94 dX8_readCrowd_91 rfl fl_X8_22 rfl rfl ?_
              refine mr_iload C 96 dX8_readCrowd_94 rfl rfl ?_
              refine mr_iconst C (nI 1) 97 dX8_readCrowd_96 rfl rfl ?_
              refine mr_iadd C (nI ((22 + 3 * K) + 1)) 98 dX8_readCrowd_97 rfl (nI_add _ _) ?_
              refine mr_iload_n C 99 dX8_readCrowd_98 rfl rfl ?_
              refine mr_iast C 5 ((22 + 3 * K) + 1) 100 dX8_readCrowd_99 rfl rfl rfl (by omega) (by decide) ?_
              refine mr_aload_n C 101 dX8_readCrowd_100 rfl rfl ?_
              refine mr_get C 0 104 dX8_readCrowd_101 rfl fl_X8_22 rfl rfl ?_
              refine mr_iload C 106 dX8_readCrowd_104 rfl rfl ?_
              refine mr_iconst C (nI 2) 107 dX8_readCrowd_106 rfl rfl ?_
              refine mr_iadd C (nI ((22 + 3 * K) + 2)) 108 dX8_readCrowd_107 rfl (nI_add _ _) ?_
              refine mr_iload_n C 109 dX8_readCrowd_108 rfl rfl ?_
              refine mr_iast C 5 ((22 + 3 * K) + 2) 110 dX8_readCrowd_109 rfl rfl rfl (by omega) (by decide) ?_
              refine mr_aload_n C 111 dX8_readCrowd_110 rfl rfl ?_
              refine mr_get C 0 114 dX8_readCrowd_111 rfl fl_X8_22 rfl rfl ?_
              refine mr_iconst C (nI 2) 115 dX8_readCrowd_114 rfl rfl ?_
              refine mr_dup2 C 116 dX8_readCrowd_115 rfl rfl rfl ?_
              refine mr_iale C 5 2 (nI K) 117 dX8_readCrowd_116 rfl rfl rfl (by omega) (by decide) (by rw [up_n (by omega), up_n (by omega), up_n (by omega)]; exact hfr.2.2.1) ?_
              refine mr_iconst C (nI 1) 118 dX8_readCrowd_117 rfl rfl ?_
              refine mr_iadd C (nI (K + 1)) 119 dX8_readCrowd_118 rfl (nI_add _ _) ?_
              refine mr_iast C 5 2 120 dX8_readCrowd_119 rfl rfl rfl (by omega) (by decide) ?_
              refine mr_vret C dX8_readCrowd_120 rfl (by decide) (by decide) hlen ?_
              rw [hO]
              refine ⟨rfl, Or.inr ⟨(nxS t S (nxS t S (nxS t S (nxS t S (nxS t S p)))), (R, K + 1, D), se0, sn0, upd so0 K (nI (rdSort t S (nxS t S p))), upd lo0 K (vlS t S (nxS t S (nxS t S p))), upd he0 K (vlS t S (nxS t S (nxS t S (nxS t S p))))), _, ?_, hfr.crowd hR _ _ _, rfl⟩⟩
              unfold rdCrowd
              rw [rdWord_y hw (by omega)]
              show (if rdSort t S (nxS t S p) = 0 then _ else _) = _
              rw [if_neg hs9]
              show rbind (rdNum t S (nxS t S (nxS t S p)) (nI 0) (nI R - nI 1) (-1)) _ = _
              rw [hn1]
              show rbind (rdNum t S (nxS t S (nxS t S (nxS t S p))) (nI 1) (nI 50) (-1)) _ = _
              rw [hn2]
              show rbind (rdEnd t S (nxS t S (nxS t S (nxS t S (nxS t S p))))) _ = _
              rw [he9]
              rfl

