/-! the thin layer, 4: arraycopy, Math.min, compares of longs, switches -/
theorem gw_ac1 : Cond.native arraycopyName ∈ gw := gw_mem (by decide +kernel) rfl
theorem gw_ac2 : Cond.static arraycopyName ∈ gw := gw_mem (by decide +kernel) rfl
theorem gw_ac3 : Cond.initialized "java/lang/System" ∈ gw := gw_mem (by decide +kernel) rfl
theorem gw_mm1 : Cond.static Lib.Math.min.name ∈ gw := gw_mem (by decide +kernel) rfl
theorem gw_mm2 : Cond.initialized "java/lang/Math" ∈ gw := gw_mem (by decide +kernel) rfl
theorem gw_mm3 : Cond.code Lib.Math.min.name Lib.Math.min.code 2 (some .int) ∈ gw := gw_mem (by decide +kernel) rfl
section ROWS4
variable {E : EG} {M : MD} {q : RQ} {Z : ZX} {k n pc : Nat} {ws : va_W} {ls : List (Nat × Value)} {st : List Value}
theorem mr_copy (C : CX E M q Z) (q0 q1 sp dp m : Nat) {i : Nat} {a0 a1 n0 n1 : Nat} {f g : Nat → Int32} {x y z : Int32} (pc' : Nat) (d : decode M.2.1 pc = .ok (.invokestatic i, 3)) (hp : pc + 3 = pc') (hlk : Cond.methodLink M.1.cls i arraycopyName ∈ gw)
    (h0 : ws[q0]? = some (a0, .inl (E.1.1 100, n0, .inl f))) (h1 : ws[q1]? = some (a1, .inl (E.1.1 100, n1, .inl g))) (hx : x = nI m) (hy : y = nI dp) (hz : z = nI sp) (b0 : sp + m ≤ n0) (b1 : dp + m ≤ n1) (B0 : n0 < 2 ^ 31) (B1 : n1 < 2 ^ 31) (hst : (st.map fun v => v.category).sum ≤ 8) (hq : 1 ≤ q.1)
    (kk : V E M q Z k n (ws.set q1 (a1, .inl (E.1.1 100, n1, .inl (va_cpy f g sp dp m)))) ls st pc') : V E M q Z k n ws ls (.int x :: .int y :: .ref a1 :: .int z :: .ref a0 :: st) pc := by
  subst hp; subst hx; subst hy; subst hz
  have e1 : (nI m).toNatClampNeg = m := nI_clamp (by omega)
  have e2 : (nI dp).toNatClampNeg = dp := nI_clamp (by omega)
  have e3 : (nI sp).toNatClampNeg = sp := nI_clamp (by omega)
  intro H locs lv hP hD hS hl
  refine va_copyi (D := E.1) C.1 C.2.1 (by rw [C.2.2.1]; exact hl.1.symm) C.2.2.2.2.1 (C.2.2.2.2.2.1 _ hlk) (C.2.2.2.2.2.1 _ gw_ac1) (C.2.2.2.2.2.1 _ gw_ac2) (C.2.2.2.2.2.1 _ gw_ac3) C.2.2.2.2.2.2.2.2.1.1 hP hD hS q0 q1 0 0 h0 h1 (ty := .int) rfl rfl rfl (nI_pos (by omega)) (nI_pos (by omega)) (nI_pos (by omega)) (by rw [e1, e3]; exact b0) (by rw [e1, e2]; exact b1) (fun _ _ => rfl) hq ?_ d ?_
  · show _ ≤ 64 * q.1
    have : nativeFrameWords "java/lang/System" "arraycopy" 5 + 11 ≤ 56 := by decide +kernel
    omega
  · rw [e1, e2, e3]
    exact fun H1 locs1 hP hD hS => kk H1 locs1 lv hP hD hS hl
theorem mr_min (C : CX E M q Z) {i : Nat} {x y : Int32} (pc' : Nat) (d : decode M.2.1 pc = .ok (.invokestatic i, 3)) (hp : pc + 3 = pc') (hlk : Cond.methodLink M.1.cls i Lib.Math.min.name ∈ gw) (hst : (st.map fun v => v.category).sum ≤ 8) (hq : 1 ≤ q.1) (hc : k ≤ q.2.1) (hs : n ≤ q.2.2)
    (kk : V E M q Z k n ws ls (.int (if y < x then y else x) :: st) pc') : V E M q Z k n ws ls (.int y :: .int x :: st) pc := by
  subst hp
  intro H locs lv hP hD hS hl
  refine va_mmin C.1 C.2.1 (by rw [C.2.2.1]; exact hl.1.symm) C.2.2.2.2.1 (C.2.2.2.2.2.1 _ hlk) (C.2.2.2.2.2.1 _ gw_mm1) (C.2.2.2.2.2.1 _ gw_mm2) (C.2.2.2.2.2.1 _ gw_mm3) hq ?_ hc hs d (kk H locs lv hP hD hS hl)
  show _ ≤ 64 * q.1
  omega
theorem mr_lcmp (C : CX E M q Z) {x y : Int64} (pc' : Nat) (d : decode M.2.1 pc = .ok (.lcmp, 1)) (hp : pc + 1 = pc') (kk : V E M q Z k n ws ls (.int (lg_cmp x y) :: st) pc') : V E M q Z k n ws ls (.long y :: .long x :: st) pc := by
  subst hp
  exact fun H locs lv hP hD hS hl => W.lcmp C.1 C.2.1 d (kk H locs lv hP hD hS hl)
theorem mr_tabIn (C : CX E M q Z) {dflt lo hi : Int} {offs : Array Int} {len : Nat} {x : Int32} {off : Int} (tgt : Nat) (d : decode M.2.1 pc = .ok (.tableswitch dflt lo hi offs, len)) (h1 : ¬ x.toInt < lo) (h2 : ¬ hi < x.toInt) (ho : offs[(x.toInt - lo).toNat]? = some off) (ht : (pc : Int) + off = (tgt : Int)) (kk : V E M q Z k n ws ls st tgt) : V E M q Z k n ws ls (.int x :: st) pc :=
  fun H locs lv hP hD hS hl => lv_tableIn C.1 C.2.1 d h1 h2 ho ht (kk H locs lv hP hD hS hl)
theorem mr_tabOut (C : CX E M q Z) {dflt lo hi : Int} {offs : Array Int} {len : Nat} {x : Int32} (tgt : Nat) (d : decode M.2.1 pc = .ok (.tableswitch dflt lo hi offs, len)) (h : x.toInt < lo ∨ hi < x.toInt) (ht : (pc : Int) + dflt = (tgt : Int)) (kk : V E M q Z k n ws ls st tgt) : V E M q Z k n ws ls (.int x :: st) pc :=
  fun H locs lv hP hD hS hl => lv_tableOut C.1 C.2.1 d h ht (kk H locs lv hP hD hS hl)
end ROWS4
