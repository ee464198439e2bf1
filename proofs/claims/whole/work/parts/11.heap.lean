/-! the thin layer, 2: fields, arrays, returns, calls -/
section ROWS2
variable {E : EG} {M : MD} {q : RQ} {Z : ZX} {k n pc : Nat} {ws : va_W} {ls : List (Nat × Value)} {st : List Value} {a : Nat}
theorem mr_get (C : CX E M q Z) {i : Nat} {ci kf : Nat} (q0 : Nat) {fs : List Value} {v : Value} (pc' : Nat) (d : decode M.2.1 pc = .ok (.getfield i, 3)) (hp : pc + 3 = pc') (hf : FL M.1.cls i ci kf) (he : ws[q0]? = some (a, .inr (ci, fs))) (hv : fs[kf]? = some v) (kk : V E M q Z k n ws ls (v :: st) pc') : V E M q Z k n ws ls (.ref a :: st) pc := by
  subst hp
  obtain ⟨C0, T, N, h1, h2, h3, h4⟩ := hf
  exact fun H locs lv hP hD hS hl => va_get (D := E.1) C.1 C.2.1 C.2.2.2.2.2.1 h3 C.2.2.2.2.1 C.2.2.2.2.2.2.2.2.1.1 hP q0 he h1 kf h2 (C.2.2.2.2.2.1 _ h4) (fun _ h9 => h9) hv d (kk H locs lv hP hD hS hl)
theorem mr_put (C : CX E M q Z) {i : Nat} {ci kf : Nat} {ty : FieldType} (q0 : Nat) {fs : List Value} {v : Value} (pc' : Nat) (d : decode M.2.1 pc = .ok (.putfield i, 3)) (hp : pc + 3 = pc') (hf : FS M.1.cls i ci kf ty) (he : ws[q0]? = some (a, .inr (ci, fs))) (hn : narrow ty v = v) (hfit : fits ty v = true) (hlen : kf < fs.length) (kk : V E M q Z k n (ws.set q0 (a, .inr (ci, fs.set kf v))) ls st pc') : V E M q Z k n ws ls (v :: .ref a :: st) pc := by
  subst hp
  obtain ⟨C0, T, N, ty0, h1, h2, h3, h4, h5, h6, h7, h8⟩ := hf
  exact fun H locs lv hP hD hS hl => va_put (D := E.1) C.1 C.2.1 C.2.2.2.2.2.1 h3 ty0 h5 h6 C.2.2.2.2.1 C.2.2.2.2.2.2.2.2.1.1 hP hD hS q0 he h1 kf h2 (C.2.2.2.2.2.1 _ h4) (fun _ h9 => h9) h7 ((h5 kf h2).trans (by rw [h8])) hn hfit hlen d (fun H1 locs1 hP hD hS => kk H1 locs1 lv hP hD hS hl)
/-- a final field in its constructor -/
def FF (own : String) (index ci kf : Nat) (ty : FieldType) : Prop := ∃ (C : String) (T : u_T) (N : Nat) (ty0 : Nat → FieldType), clsX[ci]? = some (C, T, N) ∧ kf < N ∧ (∀ w ∈ u_ws C T N, w ∈ gw) ∧ Cond.fieldLink own index (T kf).1 (T kf).2.1 (T kf).2.2.1 ∈ gw ∧
  (∀ k, k < N → parseFieldDescriptor (T k).2.2.1 = some (ty0 k)) ∧ (∀ a, a < N → ∀ b, b < N → a ≠ b → (T a).2.1 ≠ (T b).2.1) ∧ (T kf).2.2.2 = true ∧ (T kf).1 = own ∧ ty0 kf = ty
theorem mr_putF (C : CX E M q Z) (hin : M.1.name = "<init>") {i : Nat} {ci kf : Nat} {ty : FieldType} (q0 : Nat) {fs : List Value} {v : Value} (pc' : Nat) (d : decode M.2.1 pc = .ok (.putfield i, 3)) (hp : pc + 3 = pc') (hf : FF M.1.cls i ci kf ty) (he : ws[q0]? = some (a, .inr (ci, fs))) (hn : narrow ty v = v) (hfit : fits ty v = true) (hlen : kf < fs.length) (kk : V E M q Z k n (ws.set q0 (a, .inr (ci, fs.set kf v))) ls st pc') : V E M q Z k n ws ls (v :: .ref a :: st) pc := by
  subst hp
  obtain ⟨C0, T, N, ty0, h1, h2, h3, h4, h5, h6, h7, h9, h8⟩ := hf
  exact fun H locs lv hP hD hS hl => va_putF (D := E.1) C.1 C.2.1 C.2.2.2.2.2.1 h3 ty0 h5 h6 C.2.2.2.2.1 C.2.2.2.2.2.2.2.2.1.1 hP hD hS q0 he h1 kf h2 (C.2.2.2.2.2.1 _ h4) (fun _ h9 => h9) h7 (C.2.2.2.2.2.2.2.2.2 hin) h9 ((h5 kf h2).trans (by rw [h8])) hn hfit hlen d (fun H1 locs1 hP hD hS => kk H1 locs1 lv hP hD hS hl)
theorem nI_cl {j : Nat} {N : Nat} (h : j < N) (hN : N < 2 ^ 31) : (nI j).toNatClampNeg = j := nI_clamp (Nat.lt_trans h hN)
theorem mr_iald (C : CX E M q Z) (q0 j : Nat) {N : Nat} {f : Nat → Int32} {x : Int32} (pc' : Nat) (d : decode M.2.1 pc = .ok (.iaload, 1)) (hp : pc + 1 = pc') (he : ws[q0]? = some (a, .inl (E.1.1 100, N, .inl f))) (hx : x = nI j) (hj : j < N) (hN : N < 2 ^ 31) (kk : V E M q Z k n ws ls (.int (f j) :: st) pc') : V E M q Z k n ws ls (.int x :: .ref a :: st) pc := by
  subst hp; subst hx
  intro H locs lv hP hD hS hl
  refine va_iald (D := E.1) C.1 C.2.1 C.2.2.2.2.2.2.2.2.1.1 hP q0 0 he rfl (vp_in_nI hj hN) d ?_
  rw [nI_cl hj hN]
  exact kk H locs lv hP hD hS hl
theorem mr_iast (C : CX E M q Z) (q0 j : Nat) {N : Nat} {f : Nat → Int32} {x y : Int32} (pc' : Nat) (d : decode M.2.1 pc = .ok (.iastore, 1)) (hp : pc + 1 = pc') (he : ws[q0]? = some (a, .inl (E.1.1 100, N, .inl f))) (hx : x = nI j) (hj : j < N) (hN : N < 2 ^ 31) (kk : V E M q Z k n (ws.set q0 (a, .inl (E.1.1 100, N, .inl (upd f j y)))) ls st pc') : V E M q Z k n ws ls (.int y :: .int x :: .ref a :: st) pc := by
  subst hp; subst hx
  intro H locs lv hP hD hS hl
  refine va_iast (D := E.1) C.1 C.2.1 C.2.2.2.2.2.2.2.2.1.1 hP hD hS q0 0 he rfl (vp_in_nI hj hN) d ?_
  rw [nI_cl hj hN]
  exact fun H1 locs1 hP hD hS => kk H1 locs1 lv hP hD hS hl
theorem mr_zald (C : CX E M q Z) (q0 j : Nat) {N : Nat} {f : Nat → Int32} {x : Int32} (pc' : Nat) (d : decode M.2.1 pc = .ok (.baload, 1)) (hp : pc + 1 = pc') (he : ws[q0]? = some (a, .inl (E.1.1 103, N, .inl f))) (hx : x = nI j) (hj : j < N) (hN : N < 2 ^ 31) (kk : V E M q Z k n ws ls (.int (f j) :: st) pc') : V E M q Z k n ws ls (.int x :: .ref a :: st) pc := by
  subst hp; subst hx
  intro H locs lv hP hD hS hl
  refine va_zald (D := E.1) C.1 C.2.1 C.2.2.2.2.2.2.2.2.1.1 hP q0 3 he rfl (vp_in_nI hj hN) d ?_
  rw [nI_cl hj hN]
  exact kk H locs lv hP hD hS hl
theorem mr_zast (C : CX E M q Z) (q0 j : Nat) {N : Nat} {f : Nat → Int32} {x y : Int32} (pc' : Nat) (d : decode M.2.1 pc = .ok (.bastore, 1)) (hp : pc + 1 = pc') (he : ws[q0]? = some (a, .inl (E.1.1 103, N, .inl f))) (hx : x = nI j) (hj : j < N) (hN : N < 2 ^ 31) (kk : V E M q Z k n (ws.set q0 (a, .inl (E.1.1 103, N, .inl (upd f j (vp_nar .boolean y))))) ls st pc') : V E M q Z k n ws ls (.int y :: .int x :: .ref a :: st) pc := by
  subst hp; subst hx
  intro H locs lv hP hD hS hl
  refine va_zast (D := E.1) C.1 C.2.1 C.2.2.2.2.2.2.2.2.1.1 hP hD hS q0 3 he rfl (vp_in_nI hj hN) d ?_
  rw [nI_cl hj hN]
  exact fun H1 locs1 hP hD hS => kk H1 locs1 lv hP hD hS hl
theorem mr_aald (C : CX E M q Z) (q0 j t0 : Nat) {N : Nat} {cA : ClassId} {C0 : String} {f : Nat → Option Nat} {x : Int32} (v : Nat) (pc' : Nat) (d : decode M.2.1 pc = .ok (.aaload, 1)) (hp : pc + 1 = pc') (he : ws[q0]? = some (a, .inl (cA, N, .inr (.inr (.inr (.inr f)))))) (ht : (tysX E)[t0]? = some (cA, .object C0)) (hx : x = nI j) (hj : j < N) (hN : N < 2 ^ 31) (hv : f j = some v) (kk : V E M q Z k n ws ls (.ref v :: st) pc') : V E M q Z k n ws ls (.int x :: .ref a :: st) pc := by
  subst hp; subst hx
  intro H locs lv hP hD hS hl
  refine va_aldq (D := E.1) C.1 C.2.1 C.2.2.2.2.2.2.2.2.1.1 hP q0 t0 he ht (vp_in_nI hj hN) d ?_
  rw [nI_cl hj hN, hv]
  exact kk H locs lv hP hD hS hl
theorem mr_aast (C : CX E M q Z) (q0 j t0 qk ci : Nat) {N v : Nat} {cA : ClassId} {r : vw_C} {vs : List Value} {f : Nat → Option Nat} {x : Int32} (pc' : Nat) (d : decode M.2.1 pc = .ok (.aastore, 1)) (hp : pc + 1 = pc') (he : ws[q0]? = some (a, .inl (cA, N, .inr (.inr (.inr (.inr f)))))) (ht : (tysX E)[t0]? = some (cA, .object r.1)) (hv : ws[qk]? = some (v, .inr (ci, vs))) (hc : clsX[ci]? = some r) (hx : x = nI j) (hj : j < N) (hN : N < 2 ^ 31) (kk : V E M q Z k n (ws.set q0 (a, .inl (cA, N, .inr (.inr (.inr (.inr (va_up f j (some v)))))))) ls st pc') : V E M q Z k n ws ls (.ref v :: .int x :: .ref a :: st) pc := by
  subst hp; subst hx
  intro H locs lv hP hD hS hl
  refine va_astq (D := E.1) C.1 C.2.1 C.2.2.2.2.2.2.2.2.1.1 hP hD hS q0 t0 qk ci he ht hv hc (vp_in_nI hj hN) d ?_
  rw [nI_cl hj hN]
  exact fun H1 locs1 hP hD hS => kk H1 locs1 lv hP hD hS hl
theorem mr_alen (C : CX E M q Z) (q0 : Nat) {N : Nat} {f : Nat → Int32} (pc' : Nat) (d : decode M.2.1 pc = .ok (.arraylength, 1)) (hp : pc + 1 = pc') (he : ws[q0]? = some (a, .inl (E.1.1 100, N, .inl f))) (kk : V E M q Z k n ws ls (.int (nI N) :: st) pc') : V E M q Z k n ws ls (.ref a :: st) pc := by
  subst hp
  exact fun H locs lv hP hD hS hl => va_alen (D := E.1) C.1 C.2.1 C.2.2.2.2.2.2.2.2.1.1 hP q0 0 he (ty := .int) rfl rfl d (kk H locs lv hP hD hS hl)
/-- another look at the same place: the world, the locals (some of them), the stack -/
theorem mr_at {ws' : va_W} {ls' : List (Nat × Value)} {st' : List Value} (kk : V E M q Z k n ws' ls' st' pc) (h1 : ws = ws') (h2 : ls'.map (fun q => ls.lookup q.1) = ls'.map (fun q => some q.2)) (h3 : st = st') : V E M q Z k n ws ls st pc := by
  subst h1; subst h3
  intro H locs lv hP hD hS hl
  refine kk H locs lv hP hD hS ⟨hl.1, hl.2.1, fun x hx => ?_⟩
  obtain ⟨i, hi⟩ := List.getElem?_of_mem hx
  have e1 : (ls'.map (fun q => ls.lookup q.1))[i]? = some (ls.lookup x.1) := by rw [List.getElem?_map, hi]; rfl
  rw [h2, List.getElem?_map, hi] at e1
  exact lk_at hl (Option.some.inj e1).symm
/-- returns -/
theorem mr_iret (C : CX E M q Z) {v : Int32} (d : decode M.2.1 pc = .ok (.ireturn, 1)) {ty : FieldType} (hr : M.2.2.2 = some ty) (hn : narrow ty (.int v) = .int v) (hk : k ≤ q.2.1) (hn2 : n ≤ q.2.2) (hlen : zn Z ≤ ws.length) (hq : zO Z (some (.int v)) ws) : V E M q Z k n ws ls [.int v] pc := by
  intro H locs lv hP hD hS hl
  refine W.widen (k := q.2.1) (n := q.2.2) hk hn2 ?_
  exact W.zret C.1 C.2.1 (C.2.2.2.1.trans hr) hn (fun t ht hW => ⟨⟨_, ws, rfl, hq, hlen, by rw [ht]; exact hP, hD⟩, hS.F ht⟩) hS.2.2 d C.2.2.2.2.2.2.1
theorem mr_lret (C : CX E M q Z) {v : Int64} (d : decode M.2.1 pc = .ok (.lreturn, 1)) (hr : M.2.2.2 = some .long) (hk : k ≤ q.2.1) (hn2 : n ≤ q.2.2) (hlen : zn Z ≤ ws.length) (hq : zO Z (some (.long v)) ws) : V E M q Z k n ws ls [.long v] pc := by
  intro H locs lv hP hD hS hl
  refine W.widen (k := q.2.1) (n := q.2.2) hk hn2 ?_
  exact W.lret C.1 C.2.1 (C.2.2.2.1.trans hr) (fun t ht hW => ⟨⟨_, ws, rfl, hq, hlen, by rw [ht]; exact hP, hD⟩, hS.F ht⟩) hS.2.2 d C.2.2.2.2.2.2.1
theorem mr_vret (C : CX E M q Z) (d : decode M.2.1 pc = .ok (.return_, 1)) (hr : M.2.2.2 = none) (hk : k ≤ q.2.1) (hn2 : n ≤ q.2.2) (hlen : zn Z ≤ ws.length) (hq : zO Z none ws) : V E M q Z k n ws ls [] pc := by
  intro H locs lv hP hD hS hl
  refine W.widen (k := q.2.1) (n := q.2.2) hk hn2 ?_
  exact W.vret C.1 C.2.1 (C.2.2.2.1.trans hr) (fun t ht hW => ⟨⟨_, ws, rfl, hq, hlen, by rw [ht]; exact hP, hD⟩, hS.F ht⟩) hS.2.2 d C.2.2.2.2.2.2.1
end ROWS2
/-! a callee's world put back -/
def wput (ws : va_W) : List Nat → va_W → va_W
  | i :: is, c :: w1 => wput (ws.set i c) is w1
  | [], w1 => ws ++ w1
  | _, [] => ws
theorem wput_get : ∀ (is : List Nat) (ws w1 : va_W), va_nd is = true → (∀ i ∈ is, i < ws.length) → is.length ≤ w1.length → ∀ (x : Nat) (c : Nat × va_E), (wput ws is w1)[x]? = some c →
    (∃ t : Nat, is[t]? = some x ∧ w1[t]? = some c) ∨ (x ∉ is ∧ x < ws.length ∧ ws[x]? = some c) ∨ (ws.length ≤ x ∧ w1[is.length + (x - ws.length)]? = some c)
  | [], ws, w1, _, _, _, x, c, h => by
    unfold wput at h
    by_cases hx : x < ws.length
    · rw [List.getElem?_append_left hx] at h
      exact Or.inr (Or.inl ⟨by simp, hx, h⟩)
    · rw [List.getElem?_append_right (by omega)] at h
      exact Or.inr (Or.inr ⟨by omega, by simpa using h⟩)
  | i :: is, ws, [], _, _, hl, _, _, _ => by simp at hl
  | i :: is, ws, c1 :: w1, hn, hi, hl, x, c, h => by
    unfold wput at h
    simp only [va_nd, Bool.and_eq_true, decide_eq_true_eq] at hn
    have hi0 : i < ws.length := hi i List.mem_cons_self
    rcases wput_get is (ws.set i c1) w1 hn.2 (fun j hj => by rw [List.length_set]; exact hi j (List.mem_cons_of_mem _ hj)) (by simp only [List.length_cons] at hl; omega) x c h with ⟨t, h1, h2⟩ | ⟨h1, h2, h3⟩ | ⟨h1, h2⟩
    · exact Or.inl ⟨t + 1, by simpa using h1, by simpa using h2⟩
    · rw [List.length_set] at h2
      by_cases hx : x = i
      · subst hx
        rw [List.getElem?_set_self hi0] at h3
        exact Or.inl ⟨0, by simp, by simpa using h3⟩
      · rw [List.getElem?_set_ne (Ne.symm hx)] at h3
        exact Or.inr (Or.inl ⟨by simp [h1, hx], h2, h3⟩)
    · rw [List.length_set] at h1 h2
      exact Or.inr (Or.inr ⟨h1, by rw [List.length_cons, show is.length + 1 + (x - ws.length) = is.length + (x - ws.length) + 1 by omega, List.getElem?_cons_succ]; exact h2⟩)
theorem nd_inj {is : List Nat} (h : va_nd is = true) {i j x : Nat} (h1 : is[i]? = some x) (h2 : is[j]? = some x) : i = j := va_nd_inj is h i j x h1 h2
theorem wput_join {A0 : Nat → Prop} {D : va_G} {cl : List vw_C} {ws wc w1 : va_W} {H H1 : Heap} (hP : va_P D cl ws H) (hD : va_D A0 ws) (isC : List Nat) (hC : isC.map (fun i => ws[i]?) = wc.map some) (hn : va_nd isC = true)
    (hk : ∀ q : Nat, q < H.size → ¬ va_A wc H.size q → H1[q]? = H[q]?) (hF : ∀ q, va_A wc H.size q → A0 q) (hlen : wc.length ≤ w1.length) (hP1 : va_P D cl w1 H1) (hD1 : va_D (va_A wc H.size) w1) : va_P D cl (wput ws isC w1) H1 ∧ va_D A0 (wput ws isC w1) := by
  have hle : isC.length = wc.length := by have := congrArg List.length hC; simpa using this
  have hin : ∀ i ∈ isC, i < ws.length := by
    intro i hi
    obtain ⟨t, ht⟩ := List.getElem?_of_mem hi
    have h1 : (isC.map (fun i => ws[i]?))[t]? = some (ws[i]?) := by rw [List.getElem?_map, ht]; rfl
    rw [hC, List.getElem?_map] at h1
    cases hw : wc[t]? with
    | none => rw [hw] at h1; cases h1
    | some c => rw [hw] at h1; exact (List.getElem?_eq_some_iff.mp (Option.some.inj h1).symm).1
  have hget := wput_get isC ws w1 hn hin (by omega)
  have apart : ∀ (x : Nat) (c : Nat × va_E), x ∉ isC → ws[x]? = some c → c.1 < H.size ∧ ¬ va_A wc H.size c.1 := by
    intro x c hx hc
    have hl := (hP x c hc).lt
    refine ⟨hl, fun h => ?_⟩
    rcases h with ⟨t, e, h⟩ | h
    · have h1 : (isC.map (fun i => ws[i]?))[t]? = some (some (c.1, e)) := by rw [hC, List.getElem?_map, h]; rfl
      rw [List.getElem?_map] at h1
      cases hi : isC[t]? with
      | none => rw [hi] at h1; cases h1
      | some j =>
        rw [hi] at h1
        have hj : ws[j]? = some (c.1, e) := Option.some.inj h1
        have := hD.1 x j c (c.1, e) hc hj rfl
        subst this
        exact hx (List.mem_of_getElem? hi)
    · omega
  refine ⟨fun x c hx => ?_, fun x y p r hx hy he => ?_, fun x c hx => ?_⟩
  · rcases hget x c hx with ⟨t, h1, h2⟩ | ⟨h1, h2, h3⟩ | ⟨h1, h2⟩
    · exact hP1 _ _ h2
    · obtain ⟨g1, g2⟩ := apart x c h1 h3
      exact (hP x c h3).kept (hk _ g1 g2)
    · exact hP1 _ _ h2
  · rcases hget x p hx with ⟨t, h1, h2⟩ | ⟨h1, h2, h3⟩ | ⟨h1, h2⟩ <;> rcases hget y r hy with ⟨u, g1, g2⟩ | ⟨g1, g2, g3⟩ | ⟨g1, g2⟩
    · have := hD1.1 t u p r h2 g2 he
      subst this
      exact Option.some.inj (h1.symm.trans g1)
    · exact absurd (by rw [← he]; exact hD1.2 t p h2) (apart y r g1 g3).2
    · have := hD1.1 t _ p r h2 g2 he
      have ht := (List.getElem?_eq_some_iff.mp h1).1
      omega
    · exact absurd (by rw [he]; exact hD1.2 u r g2) (apart x p h1 h3).2
    · exact hD.1 x y p r h3 g3 he
    · exact absurd (by rw [he]; exact hD1.2 _ r g2) (apart x p h1 h3).2
    · have := hD1.1 _ u p r h2 g2 he
      have ht := (List.getElem?_eq_some_iff.mp g1).1
      omega
    · exact absurd (by rw [← he]; exact hD1.2 _ p h2) (apart y r g1 g3).2
    · have := hD1.1 _ _ p r h2 g2 he
      omega
  · rcases hget x c hx with ⟨t, h1, h2⟩ | ⟨h1, h2, h3⟩ | ⟨h1, h2⟩
    · exact hF _ (hD1.2 t c h2)
    · exact hD.2 x c h3
    · exact hF _ (hD1.2 _ c h2)
