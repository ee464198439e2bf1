/-! the thin layer, 3: calls -/
def MK (M : MD) (np : Nat) : Prop := Cond.code M.1 M.2.1 M.2.2.1 M.2.2.2 ∈ gw ∧ Cond.initialized M.1.cls ∈ gw ∧ M.1.cls ≠ "java/lang/invoke/MethodHandle" ∧ M.1.cls ≠ "java/lang/invoke/VarHandle" ∧ (parseMethodDescriptor M.1.desc).map (fun d => d.parameters.length) = some np
def MKi (M : MD) : Prop := Cond.instanceMethod M.1 ∈ gw ∧ Cond.selects M.1.cls M.1 M.1 ∈ gw
theorem PP_blind {E : EG} {sz : Nat} {ws : va_W} {av : List Value} : FrameBlind (va_Pc av (PP E sz ws)) := fun _ _ _ _ h => ⟨h.1, h.2.1, h.2.2.1, h.2.2.2.1, GS.same h.2.2.2.2 rfl⟩
section ROWS3
variable {E : EG} {M : MD} {q : RQ} {Z : ZX} {k n pc : Nat} {ws : va_W} {ls : List (Nat × Value)} {st : List Value}
/-- a callee's world, cut out of ours -/
abbrev CUT (ws : va_W) (isC : List Nat) (wc : va_W) : Prop := isC.map (fun i => ws[i]?) = wc.map some
theorem cut_P {D : va_G} {cl : List vw_C} {ws wc : va_W} {H : Heap} {isC : List Nat} (hC : CUT ws isC wc) (h : va_P D cl ws H) : va_P D cl wc H := by
  intro t c hc
  have h1 : (isC.map (fun i => ws[i]?))[t]? = some (some c) := by rw [hC, List.getElem?_map, hc]; rfl
  rw [List.getElem?_map] at h1
  cases hi : isC[t]? with
  | none => rw [hi] at h1; cases h1
  | some i => rw [hi] at h1; exact h i c (Option.some.inj h1)
theorem call_pre (C : CX E M q Z) {av : List Value} {wc : va_W} {isC : List Nat} (hC : CUT ws isC wc) (hnd : va_nd isC = true) {H : Heap} {locs : List Loc} (hP : va_P E.1 clsX ws H) (hD : va_D (zA Z) ws) (hS : va_S (zA Z) (zs Z).heap H locs) :
    (∀ x, va_A wc H.size x → zA Z x) ∧ ∀ U : State, U.heap = H → (zs Z).WarmedH U.vm → va_Pc av (PP E H.size wc) av.toArray U := by
  have hF := va_free hD hS C.2.2.2.2.2.2.2.1 isC hC
  refine ⟨hF, fun U hU hW => ⟨rfl, by rw [hU], by rw [hU]; exact cut_P hC hP, (hD.sub isC hnd hC).weaken (fun _ _ _ _ => trivial), ?_⟩⟩
  rw [hU]
  exact C.2.2.2.2.2.2.2.2.1.go hS hW hF
theorem call_go {q' : RQ} {wc : va_W} {post : PO} {a : Array Value} {isC : List Nat} {rest : List Value} {H : Heap} {locs : List Loc} {lv : Array Slot} (hC : CUT ws isC wc) (hnd : va_nd isC = true) (hP : va_P E.1 clsX ws H) (hD : va_D (zA Z) ws) (hS : va_S (zA Z) (zs Z).heap H locs) (hl : lv_has lv M.2.2.1 ls) (hF : ∀ x, va_A wc H.size x → zA Z x)
    (hr : va_Run (zp Z) E.2.2 (ze Z) (rmQ q) (zs Z) (zm Z) (za Z) (zb Z) (zh Z) (zc Z) H locs k n q'.2.1 q'.2.2 (F0 (zm Z) pc lv st) rest (QQ E wc.length post (va_A wc H.size) a) (va_A wc H.size))
    (kk : ∀ (r : Option Value) (w1 : va_W), post r w1 → V E M q Z (k + q'.2.1) (n + q'.2.2) (wput ws isC w1) ls (r.toList ++ rest) (pc + 3)) :
    W (zp Z) E.2.2 (ze Z) (rmQ q) (zs Z) (zm Z) (za Z) (zb Z) (zh Z) (zc Z) H locs k n (MQ (zb Z) (QQ E (zn Z) (zO Z) (zA Z)) (za Z) (zs Z) q.2.1 q.2.2 (zA Z)) (F0 (zm Z) pc lv st) := by
  intro T hT X
  obtain ⟨v, st₀, t, T', L, h0, X', hL, e1, e2, ⟨⟨r, w, hv, hp, hlen, hP1, hD1⟩, hz, hk⟩, hst⟩ := hr T hT X
  cases hv
  rw [h0] at hz hk
  rw [← e1] at hz hk hP1
  obtain ⟨j1, j2⟩ := wput_join hP hD isC hC hnd (fun x h1 h2 => hk x h1 h2) hF hlen hP1 hD1
  obtain ⟨t2, a1, b1⟩ := kk v w hp T'.heap (locs ++ L) lv j1 j2 ⟨Nat.le_trans hS.1 hz, fun x h1 h2 => by rw [hk x (Nat.lt_of_lt_of_le h1 hS.1) (fun z => h2 (hF x z))]; exact hS.2.1 x h1 h2, fun x hx => by
      rcases List.mem_append.mp hx with h | h
      · exact hS.2.2 x h
      · exact hF _ (hL x h)⟩ hl T' rfl X'
  exact ⟨t2, hst t2 a1, b1⟩
theorem call_B (C : CX E M q Z) {M' : MD} {q' : RQ} {i np : Nat} (hmk : MK M' np) (hlk : Cond.methodLink M.1.cls i M'.1 ∈ gw) (hfr : q'.1 + 1 ≤ q.1) (hloc : 8 + (M'.2.2.1 + 11) + 64 * q'.1 ≤ 64 * q.1) :
    CallB (rmQ q) (zs Z) (za Z) M.1.cls i M'.1 M'.2.1 M'.2.2.1 M'.2.2.2 (.code M'.1 M'.2.1 M'.2.2.1 M'.2.2.2 :: gw) (rmQ q') q'.2.1 q'.2.2 np :=
  callB_of np C.2.2.2.2.2.1 (gw_good hmk.1) rfl rfl rfl (C.2.2.2.2.2.1 _ hmk.2.1) (C.2.2.2.2.2.1 _ hlk) ⟨hmk.2.2.1, hmk.2.2.2.1, hmk.2.2.2.2⟩ ⟨hfr, hloc⟩
theorem mr_callV (C : CX E M q Z) {M' : MD} {q' : RQ} {av : List Value} {wc : va_W} {post : PO} (hM : Ctr E M' q' av wc post) {i np : Nat} (isC : List Nat) (q0 ci : Nat) {b : Addr} {As rest fs : List Value} {T : u_T} {N : Nat} (pc' : Nat) (d : decode M.2.1 pc = .ok (.invokevirtual i, 3)) (hp : pc + 3 = pc') (hmk : MK M' np) (hmi : MKi M') (hlk : Cond.methodLink M.1.cls i M'.1 ∈ gw)
    (hav : av = .ref b :: As) (hst : st = As.reverse ++ .ref b :: rest) (hnp : As.length = np) (hC : CUT ws isC wc) (hnd : va_nd isC = true) (hrest : (rest.map fun v => v.category).sum ≤ 8) (hfr : q'.1 + 1 ≤ q.1) (hloc : 8 + (M'.2.2.1 + 11) + 64 * q'.1 ≤ 64 * q.1) (hcl : k + q'.2.1 ≤ q.2.1 ∧ n + q'.2.2 ≤ q.2.2)
    (hre : ws[q0]? = some (b, .inr (ci, fs))) (hci : clsX[ci]? = some (M'.1.cls, T, N))
    (kk : ∀ (r : Option Value) (w1 : va_W), post r w1 → V E M q Z (k + q'.2.1) (n + q'.2.2) (wput ws isC w1) ls (r.toList ++ rest) pc') : V E M q Z k n ws ls st pc := by
  subst hp; subst hav; subst hst
  intro H locs lv hP hD hS hl
  obtain ⟨hF, hPc⟩ := call_pre (av := .ref b :: As) C hC hnd hP hD hS
  refine call_go hC hnd hP hD hS hl hF (va_runV (own := M.1.cls) (As := As) (rest := rest) ⟨C.1, C.2.1, C.2.2.1, C.2.2.2.2.1, C.2.2.2.2.2.1⟩ (hM H.size) ⟨call_B C hmk hlk hfr hloc, C.2.2.2.2.2.1 _ hmi.1, C.2.2.2.2.2.1 _ hmi.2⟩ ⟨PP_blind, va_recv C.2.2.2.2.2.2.2.2.1.1 hP (ci := ci) (q0 := q0) hci hre, hPc⟩ rfl hnp hl.1 rfl (lv_room hrest) d hcl) kk
theorem mr_callS (C : CX E M q Z) {M' : MD} {q' : RQ} {av : List Value} {wc : va_W} {post : PO} (hM : Ctr E M' q' av wc post) {i np : Nat} (isC : List Nat) {rest : List Value} (pc' : Nat) (d : decode M.2.1 pc = .ok (.invokestatic i, 3)) (hp : pc + 3 = pc') (hmk : MK M' np) (hms : Cond.static M'.1 ∈ gw) (hlk : Cond.methodLink M.1.cls i M'.1 ∈ gw)
    (hst : st = av.reverse ++ rest) (hnp : av.length = np) (hC : CUT ws isC wc) (hnd : va_nd isC = true) (hrest : (rest.map fun v => v.category).sum ≤ 8) (hfr : q'.1 + 1 ≤ q.1) (hloc : 8 + (M'.2.2.1 + 11) + 64 * q'.1 ≤ 64 * q.1) (hcl : k + q'.2.1 ≤ q.2.1 ∧ n + q'.2.2 ≤ q.2.2)
    (kk : ∀ (r : Option Value) (w1 : va_W), post r w1 → V E M q Z (k + q'.2.1) (n + q'.2.2) (wput ws isC w1) ls (r.toList ++ rest) pc') : V E M q Z k n ws ls st pc := by
  subst hp; subst hst
  intro H locs lv hP hD hS hl
  obtain ⟨hF, hPc⟩ := call_pre (av := av) C hC hnd hP hD hS
  refine call_go hC hnd hP hD hS hl hF (va_runS (own := M.1.cls) (As := av) (rest := rest) ⟨C.1, C.2.1, C.2.2.1, C.2.2.2.2.1, C.2.2.2.2.2.1⟩ (hM H.size) ⟨call_B C hmk hlk hfr hloc, C.2.2.2.2.2.1 _ hms⟩ ⟨PP_blind, hPc⟩ rfl hnp hl.1 rfl (lv_room hrest) d hcl) kk
theorem mr_callI (C : CX E M q Z) {M' : MD} {q' : RQ} {av : List Value} {wc : va_W} {post : PO} (hM : Ctr E M' q' av wc post) {i np : Nat} (isC : List Nat) {b : Addr} {As rest : List Value} (pc' : Nat) (d : decode M.2.1 pc = .ok (.invokespecial i, 3)) (hp : pc + 3 = pc') (hmk : MK M' np) (hret : M'.2.2.2 = none) (hy1 : M'.1.name = "<init>") (hmi : Cond.instanceMethod M'.1 ∈ gw) (hlk : Cond.methodLink M.1.cls i M'.1 ∈ gw)
    (hav : av = .ref b :: As) (hst : st = As.reverse ++ .ref b :: rest) (hnp : As.length = np) (hC : CUT ws isC wc) (hnd : va_nd isC = true) (hrest : (rest.map fun v => v.category).sum ≤ 8) (hfr : q'.1 + 1 ≤ q.1) (hloc : 8 + (M'.2.2.1 + 11) + 64 * q'.1 ≤ 64 * q.1) (hcl : k + q'.2.1 ≤ q.2.1 ∧ n + q'.2.2 ≤ q.2.2)
    (kk : ∀ (r : Option Value) (w1 : va_W), post r w1 → V E M q Z (k + q'.2.1) (n + q'.2.2) (wput ws isC w1) ls (r.toList ++ rest) pc') : V E M q Z k n ws ls st pc := by
  subst hp; subst hav; subst hst
  intro H locs lv hP hD hS hl
  obtain ⟨hF, hPc⟩ := call_pre (av := .ref b :: As) C hC hnd hP hD hS
  have hB := call_B (q' := q') C hmk hlk hfr hloc
  have hM2 := hM H.size
  rw [hret] at hB hM2
  refine call_go hC hnd hP hD hS hl hF (va_runI (own := M.1.cls) (As := As) (rest := rest) ⟨C.1, C.2.1, C.2.2.1, C.2.2.2.2.1, C.2.2.2.2.2.1⟩ hM2 ⟨hB, hy1, C.2.2.2.2.2.1 _ hmi⟩ ⟨PP_blind, hPc⟩ rfl hnp hl.1 rfl (lv_room hrest) d hcl) kk
/-- a private constructor of a nest mate -/
theorem mr_callIN (C : CX E M q Z) {M' : MD} {q' : RQ} {av : List Value} {wc : va_W} {post : PO} (hM : Ctr E M' q' av wc post) {i np : Nat} {host : String} (isC : List Nat) {b : Addr} {As rest : List Value} (pc' : Nat) (d : decode M.2.1 pc = .ok (.invokespecial i, 3)) (hp : pc + 3 = pc') (hmk : MK M' np) (hret : M'.2.2.2 = none) (hy1 : M'.1.name = "<init>") (hmi : Cond.instanceMethod M'.1 ∈ gw) (hlk : Cond.methodLinkNest M.1.cls i M'.1 host ∈ lw_tbl)
    (hav : av = .ref b :: As) (hst : st = As.reverse ++ .ref b :: rest) (hnp : As.length = np) (hC : CUT ws isC wc) (hnd : va_nd isC = true) (hrest : (rest.map fun v => v.category).sum ≤ 8) (hfr : q'.1 + 1 ≤ q.1) (hloc : 8 + (M'.2.2.1 + 11) + 64 * q'.1 ≤ 64 * q.1) (hcl : k + q'.2.1 ≤ q.2.1 ∧ n + q'.2.2 ≤ q.2.2)
    (kk : ∀ (r : Option Value) (w1 : va_W), post r w1 → V E M q Z (k + q'.2.1) (n + q'.2.2) (wput ws isC w1) ls (r.toList ++ rest) pc') : V E M q Z k n ws ls st pc := by
  subst hp; subst hav; subst hst
  intro H locs lv hP hD hS hl
  obtain ⟨hF, hPc⟩ := call_pre (av := .ref b :: As) C hC hnd hP hD hS
  have hM2 := hM H.size
  have hK := hmk.1
  rw [hret] at hM2 hK
  refine call_go hC hnd hP hD hS hl hF (va_runIN (own := M.1.cls) (host := host) (As := As) (rest := rest) ⟨C.1, C.2.1, C.2.2.1, C.2.2.2.2.1, C.2.2.2.2.2.1⟩ hM2 ⟨va_cnB np C.2.2.2.2.2.1 (gw_good hK) rfl rfl rfl (C.2.2.2.2.2.2.2.2.1.2.1 _ hlk rfl) (C.2.2.2.2.2.1 _ hmk.2.1) ⟨hmk.2.2.1, hmk.2.2.2.1, hmk.2.2.2.2⟩ ⟨hfr, hloc⟩, hy1, C.2.2.2.2.2.1 _ hmi⟩ ⟨PP_blind, hPc⟩ rfl hnp hl.1 rfl (lv_room hrest) d hcl) kk
/-- Object() -/
theorem mr_objI (C : CX E M q Z) {i : Nat} {a : Addr} (pc' : Nat) (d : decode M.2.1 pc = .ok (.invokespecial i, 3)) (hp : pc + 3 = pc') (hlk : Cond.methodLink M.1.cls i objectInit ∈ gw) (hin : Cond.instanceMethod objectInit ∈ gw) (hco : Cond.code objectInit ⟨#[0xb1]⟩ 1 none ∈ gw) (hrest : (st.map fun v => v.category).sum ≤ 8) (hq : 1 ≤ q.1) (kk : V E M q Z k n ws ls st pc') : V E M q Z k n ws ls (.ref a :: st) pc := by
  subst hp
  intro H locs lv hP hD hS hl
  refine W.objInit C.1 C.2.1 C.2.2.2.2.1 (C.2.2.2.2.2.1 _ hlk) (C.2.2.2.2.2.1 _ hin) (C.2.2.2.2.2.1 _ hco) rfl (by rw [C.2.2.1]; exact hl.1) rfl d hq ?_ (kk H locs lv hP hD hS hl)
  have h1 := lv_room (m := zm Z) (pc := pc) (ls := lv) (rest := Value.ref a :: st) hrest
  show _ + 12 ≤ 64 * q.1
  omega
end ROWS3
