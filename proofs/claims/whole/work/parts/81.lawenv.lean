/-! THE CLAIM OUT OF ONE WALK OF THE LAW'S BODY. Your part is whole_start (and what it stands on); all else here is the same for every law, but numbers. -/
def lw_P (b : Addr) (xs : List Int32) (args : Array Value) (s : State) : Prop := args = #[.ref b] ∧ s.IntsAt b xs ∧ xs.length ≤ 3072 ∧ (Jvm.Cond.and given_1 narrow_1).before args s = true
def lw_Q (_ : Array Value) (s : State) (o : Outcome) (t : State) : Prop := o = .returned (some (.int 1)) ∧ Framed s o t [] 600000 7302250
def lw_Z (below : List Frame) (a : Array Value) (s : State) : State → Prop := fun t => ∃ o, t.status = .running ∧ Ended t below o ∧ lw_Q a s o t
/-- the law's own end, with 1 on the stack, nothing written that was there before, its room as the claim has it -/
theorem lw_ret {p : Program} {l : Launch} {e : Env} {s : State} {m : MethodId} {below : List Frame} {meth : Method} {c : Code} {b : Nat} (hx : p.tables.exec = Jvm.exec) (hb : c.code = code) (hr : meth.sig.returnType = ret) (hlocks : meth.locks = false) {pc : Nat} {H : Heap} {ls : Array Slot} (hdg : decode code pc = .ok (.ireturn, 1)) : W p l e room_1 s m #[Value.ref b] below meth c H [] 600000 7302250 (lw_Z below #[Value.ref b] s) (F0 m pc ls [.int 1]) := by
  intro T hT X
  obtain ⟨fs, hret, hrun, hended, hW, hframe⟩ := X.leave (v := some (.int 1)) (hlocks := hlocks) (fun h => by rw [hr] at h; cases h)
  have hmeth' : T.vm.method? m = some meth := X.method'
  refine ⟨T.setFrames fs, ?_, .returned (some (.int 1)), hrun, hended, rfl, ⟨_, rfl⟩, hW, hframe⟩
  jvm_step X.here [X.here.top, hx, hb, hdg, hmeth', hr, ret, narrow_b1]
  (try refine ⟨rfl, ?_⟩); (try refine ⟨rfl, ?_⟩)
  first | (intro acts; rw [hret _ acts rfl rfl rfl]) | rw [hret _ _ rfl rfl rfl]
  exact Steps.refl _
/-- what holds at the law's entry: the machine, the code, the tables' words (any of lw_tbl by 'hts w (by decide +kernel)'), the script of L ints xs at the cell b, what the Statement gives of the start (any of its parts by flat_of_before) -/
def lw_At (p : Program) (s : State) (m : MethodId) (meth : Method) (c : Code) (b L : Nat) (xs : Nat → Int32) : Prop :=
  p.tables.exec = Jvm.exec ∧ c.code = code ∧ meth.sig.returnType = ret ∧ c.maxLocals = 4 ∧ s.vm.findClass R_law = some m.cls ∧ (∀ w ∈ lw_tbl, w.before #[Value.ref b] s = true) ∧ va_X b L xs s s.heap ∧ b < s.heap.size ∧ meth.locks = false ∧ (Jvm.Cond.and given_1 narrow_1).before #[Value.ref b] s = true
/-! the law: what is given at its start -/
set_option maxRecDepth 100000 in
theorem lw_T0 {s : State} {b : Nat} (hts : ∀ w ∈ lw_tbl, w.before #[Value.ref b] s = true) (hgv : (Jvm.Cond.and given_1 narrow_1).before #[Value.ref b] s = true) : ∃ t : Nat, va_Z RX7 (namP 0) "[I" (.ref t) (fun q => s.heap.size ≤ q) s s.heap ∧ va_T .int t 6 (fun j => .int (tabP 0 j)) (fun q => s.heap.size ≤ q) s s.heap := by
  have hs := flat_of_before _ hgv
  have hA : ∀ a : Nat, a < s.heap.size → ¬ s.heap.size ≤ a := fun a h1 h2 => absurd h1 (Nat.not_lt.mpr h2)
  obtain ⟨t, ht, hT⟩ := va_Tof (tm := Term.static "MostRooms" "PARENT" "[I") (ty := .int) (N := 6) (f := fun j => .int (tabP 0 j)) (A := fun q => s.heap.size ≤ q) (by decide) (hs (Cond.arrayOf (Term.static "MostRooms" "PARENT" "[I") .int) (by decide +kernel)) (va_eqt (hs (Cond.eq (Term.length (Term.static "MostRooms" "PARENT" "[I")) (Term.int 6)) (by decide +kernel))) (fun j hj => by
    have h : j = 0 ∨ j = 1 ∨ j = 2 ∨ j = 3 ∨ j = 4 ∨ j = 5 := by omega
    rcases h with rfl | rfl | rfl | rfl | rfl | rfl
    · exact va_eqt (hs (Cond.eq (Term.elem (Term.static "MostRooms" "PARENT" "[I") (Term.int 0)) (Term.int 0)) (by decide +kernel))
    · exact va_eqt (hs (Cond.eq (Term.elem (Term.static "MostRooms" "PARENT" "[I") (Term.int 1)) (Term.int 0)) (by decide +kernel))
    · exact va_eqt (hs (Cond.eq (Term.elem (Term.static "MostRooms" "PARENT" "[I") (Term.int 2)) (Term.int 1)) (by decide +kernel))
    · exact va_eqt (hs (Cond.eq (Term.elem (Term.static "MostRooms" "PARENT" "[I") (Term.int 3)) (Term.int 1)) (by decide +kernel))
    · exact va_eqt (hs (Cond.eq (Term.elem (Term.static "MostRooms" "PARENT" "[I") (Term.int 4)) (Term.int 0)) (by decide +kernel))
    · exact va_eqt (hs (Cond.eq (Term.elem (Term.static "MostRooms" "PARENT" "[I") (Term.int 5)) (Term.int 4)) (by decide +kernel))) hA
  exact ⟨t, va_Zref (hts (Cond.laysStatic "MostRooms" "PARENT" "[I") (by decide +kernel)) (hts (Cond.initialized "MostRooms") (by decide +kernel)) ht hA, hT⟩
set_option maxRecDepth 100000 in
theorem lw_T1 {s : State} {b : Nat} (hts : ∀ w ∈ lw_tbl, w.before #[Value.ref b] s = true) (hgv : (Jvm.Cond.and given_1 narrow_1).before #[Value.ref b] s = true) : ∃ t : Nat, va_Z RX7 (namP 1) "[I" (.ref t) (fun q => s.heap.size ≤ q) s s.heap ∧ va_T .int t 6 (fun j => .int (tabP 1 j)) (fun q => s.heap.size ≤ q) s s.heap := by
  have hs := flat_of_before _ hgv
  have hA : ∀ a : Nat, a < s.heap.size → ¬ s.heap.size ≤ a := fun a h1 h2 => absurd h1 (Nat.not_lt.mpr h2)
  obtain ⟨t, ht, hT⟩ := va_Tof (tm := Term.static "MostRooms" "SIZE_BODY" "[I") (ty := .int) (N := 6) (f := fun j => .int (tabP 1 j)) (A := fun q => s.heap.size ≤ q) (by decide) (hs (Cond.arrayOf (Term.static "MostRooms" "SIZE_BODY" "[I") .int) (by decide +kernel)) (va_eqt (hs (Cond.eq (Term.length (Term.static "MostRooms" "SIZE_BODY" "[I")) (Term.int 6)) (by decide +kernel))) (fun j hj => by
    have h : j = 0 ∨ j = 1 ∨ j = 2 ∨ j = 3 ∨ j = 4 ∨ j = 5 := by omega
    rcases h with rfl | rfl | rfl | rfl | rfl | rfl
    · exact va_eqt (hs (Cond.eq (Term.elem (Term.static "MostRooms" "SIZE_BODY" "[I") (Term.int 0)) (Term.int 10)) (by decide +kernel))
    · exact va_eqt (hs (Cond.eq (Term.elem (Term.static "MostRooms" "SIZE_BODY" "[I") (Term.int 1)) (Term.int 11)) (by decide +kernel))
    · exact va_eqt (hs (Cond.eq (Term.elem (Term.static "MostRooms" "SIZE_BODY" "[I") (Term.int 2)) (Term.int 12)) (by decide +kernel))
    · exact va_eqt (hs (Cond.eq (Term.elem (Term.static "MostRooms" "SIZE_BODY" "[I") (Term.int 3)) (Term.int 0)) (by decide +kernel))
    · exact va_eqt (hs (Cond.eq (Term.elem (Term.static "MostRooms" "SIZE_BODY" "[I") (Term.int 4)) (Term.int 13)) (by decide +kernel))
    · exact va_eqt (hs (Cond.eq (Term.elem (Term.static "MostRooms" "SIZE_BODY" "[I") (Term.int 5)) (Term.int 14)) (by decide +kernel))) hA
  exact ⟨t, va_Zref (hts (Cond.laysStatic "MostRooms" "SIZE_BODY" "[I") (by decide +kernel)) (hts (Cond.initialized "MostRooms") (by decide +kernel)) ht hA, hT⟩
set_option maxRecDepth 100000 in
theorem lw_T2 {s : State} {b : Nat} (hts : ∀ w ∈ lw_tbl, w.before #[Value.ref b] s = true) (hgv : (Jvm.Cond.and given_1 narrow_1).before #[Value.ref b] s = true) : ∃ t : Nat, va_Z RX7 (namP 2) "[I" (.ref t) (fun q => s.heap.size ≤ q) s s.heap ∧ va_T .int t 6 (fun j => .int (tabP 2 j)) (fun q => s.heap.size ≤ q) s s.heap := by
  have hs := flat_of_before _ hgv
  have hA : ∀ a : Nat, a < s.heap.size → ¬ s.heap.size ≤ a := fun a h1 h2 => absurd h1 (Nat.not_lt.mpr h2)
  obtain ⟨t, ht, hT⟩ := va_Tof (tm := Term.static "MostRooms" "MARK_BODY" "[I") (ty := .int) (N := 6) (f := fun j => .int (tabP 2 j)) (A := fun q => s.heap.size ≤ q) (by decide) (hs (Cond.arrayOf (Term.static "MostRooms" "MARK_BODY" "[I") .int) (by decide +kernel)) (va_eqt (hs (Cond.eq (Term.length (Term.static "MostRooms" "MARK_BODY" "[I")) (Term.int 6)) (by decide +kernel))) (fun j hj => by
    have h : j = 0 ∨ j = 1 ∨ j = 2 ∨ j = 3 ∨ j = 4 ∨ j = 5 := by omega
    rcases h with rfl | rfl | rfl | rfl | rfl | rfl
    · exact va_eqt (hs (Cond.eq (Term.elem (Term.static "MostRooms" "MARK_BODY" "[I") (Term.int 0)) (Term.int 20)) (by decide +kernel))
    · exact va_eqt (hs (Cond.eq (Term.elem (Term.static "MostRooms" "MARK_BODY" "[I") (Term.int 1)) (Term.int 21)) (by decide +kernel))
    · exact va_eqt (hs (Cond.eq (Term.elem (Term.static "MostRooms" "MARK_BODY" "[I") (Term.int 2)) (Term.int 24)) (by decide +kernel))
    · exact va_eqt (hs (Cond.eq (Term.elem (Term.static "MostRooms" "MARK_BODY" "[I") (Term.int 3)) (Term.int 22)) (by decide +kernel))
    · exact va_eqt (hs (Cond.eq (Term.elem (Term.static "MostRooms" "MARK_BODY" "[I") (Term.int 4)) (Term.int 23)) (by decide +kernel))
    · exact va_eqt (hs (Cond.eq (Term.elem (Term.static "MostRooms" "MARK_BODY" "[I") (Term.int 5)) (Term.int 0)) (by decide +kernel))) hA
  exact ⟨t, va_Zref (hts (Cond.laysStatic "MostRooms" "MARK_BODY" "[I") (by decide +kernel)) (hts (Cond.initialized "MostRooms") (by decide +kernel)) ht hA, hT⟩
def tmS (i : Nat) : Term := Term.string "MostRooms$Reader" (idxS.getD i 0)
set_option maxRecDepth 100000 in
theorem lw_S {s : State} {b : Nat} (hgv : (Jvm.Cond.and given_1 narrow_1).before #[Value.ref b] s = true) : ∃ adK adV : Nat → Nat, vk_S 8 lenS bytS adK adV (fun q => s.heap.size ≤ q) s s.heap ∧ ∀ i : Nat, i < 8 → (tmS i).eval #[Value.ref b] s none [] s = some (.ref (adK i)) := by
  have hs := flat_of_before _ hgv
  have hA : ∀ a : Nat, a < s.heap.size → ¬ s.heap.size ≤ a := fun a h1 h2 => absurd h1 (Nat.not_lt.mpr h2)
  refine vk_Sof (tm := tmS) (A := fun q => s.heap.size ≤ q) (by decide +kernel) (fun i hi => ?_) (fun i hi => ?_) (fun i hi => ?_) (fun i hi => ?_) (fun i hi j hj => ?_) (fun i j hi hj hne => ?_) hA
  · have h : i = 0 ∨ i = 1 ∨ i = 2 ∨ i = 3 ∨ i = 4 ∨ i = 5 ∨ i = 6 ∨ i = 7 := by omega
    rcases h with rfl | rfl | rfl | rfl | rfl | rfl | rfl | rfl <;> exact hs _ (by decide +kernel)
  · have h : i = 0 ∨ i = 1 ∨ i = 2 ∨ i = 3 ∨ i = 4 ∨ i = 5 ∨ i = 6 ∨ i = 7 := by omega
    rcases h with rfl | rfl | rfl | rfl | rfl | rfl | rfl | rfl <;> exact hs _ (by decide +kernel)
  · have h : i = 0 ∨ i = 1 ∨ i = 2 ∨ i = 3 ∨ i = 4 ∨ i = 5 ∨ i = 6 ∨ i = 7 := by omega
    rcases h with rfl | rfl | rfl | rfl | rfl | rfl | rfl | rfl <;> exact hs _ (by decide +kernel)
  · have h : i = 0 ∨ i = 1 ∨ i = 2 ∨ i = 3 ∨ i = 4 ∨ i = 5 ∨ i = 6 ∨ i = 7 := by omega
    rcases h with rfl | rfl | rfl | rfl | rfl | rfl | rfl | rfl <;> exact hs _ (by decide +kernel)
  · have h : i = 0 ∨ i = 1 ∨ i = 2 ∨ i = 3 ∨ i = 4 ∨ i = 5 ∨ i = 6 ∨ i = 7 := by omega
    rcases h with rfl | rfl | rfl | rfl | rfl | rfl | rfl | rfl
    · have hj : j < 4 := hj
      have h2 : j = 0 ∨ j = 1 ∨ j = 2 ∨ j = 3 := by omega
      rcases h2 with rfl | rfl | rfl | rfl <;> exact hs _ (by decide +kernel)
    · have hj : j < 4 := hj
      have h2 : j = 0 ∨ j = 1 ∨ j = 2 ∨ j = 3 := by omega
      rcases h2 with rfl | rfl | rfl | rfl <;> exact hs _ (by decide +kernel)
    · have hj : j < 5 := hj
      have h2 : j = 0 ∨ j = 1 ∨ j = 2 ∨ j = 3 ∨ j = 4 := by omega
      rcases h2 with rfl | rfl | rfl | rfl | rfl <;> exact hs _ (by decide +kernel)
    · have hj : j < 4 := hj
      have h2 : j = 0 ∨ j = 1 ∨ j = 2 ∨ j = 3 := by omega
      rcases h2 with rfl | rfl | rfl | rfl <;> exact hs _ (by decide +kernel)
    · have hj : j < 4 := hj
      have h2 : j = 0 ∨ j = 1 ∨ j = 2 ∨ j = 3 := by omega
      rcases h2 with rfl | rfl | rfl | rfl <;> exact hs _ (by decide +kernel)
    · have hj : j < 4 := hj
      have h2 : j = 0 ∨ j = 1 ∨ j = 2 ∨ j = 3 := by omega
      rcases h2 with rfl | rfl | rfl | rfl <;> exact hs _ (by decide +kernel)
    · have hj : j < 4 := hj
      have h2 : j = 0 ∨ j = 1 ∨ j = 2 ∨ j = 3 := by omega
      rcases h2 with rfl | rfl | rfl | rfl <;> exact hs _ (by decide +kernel)
    · have hj : j < 3 := hj
      have h2 : j = 0 ∨ j = 1 ∨ j = 2 := by omega
      rcases h2 with rfl | rfl | rfl <;> exact hs _ (by decide +kernel)
  · have h : i = 0 ∨ i = 1 ∨ i = 2 ∨ i = 3 ∨ i = 4 ∨ i = 5 ∨ i = 6 ∨ i = 7 := by omega
    have h2 : j = 0 ∨ j = 1 ∨ j = 2 ∨ j = 3 ∨ j = 4 ∨ j = 5 ∨ j = 6 ∨ j = 7 := by omega
    rcases h with rfl | rfl | rfl | rfl | rfl | rfl | rfl | rfl <;> rcases h2 with rfl | rfl | rfl | rfl | rfl | rfl | rfl | rfl <;> first | exact absurd rfl hne | exact Or.inl (hs _ (by decide +kernel)) | exact Or.inr (hs _ (by decide +kernel))
theorem gw_tbl {w : Cond} (h : w ∈ gw) : w ∈ lw_tbl := (List.mem_filter.mp h).1
/-- the classes of a start -/
def dcS (f : Nat → ClassId) (x y z u : ClassId) : Nat → ClassId := fun i => if i = 100 then x else if i = 101 then y else if i = 102 then z else if i = 103 then u else f i
theorem lw_K {s : State} {b : Nat} (hts : ∀ w ∈ lw_tbl, w.before #[Value.ref b] s = true) : ∃ D : va_G, ∀ (ad : Nat → Nat) (l : Launch), va_K D clsX (tysX (D, ad, l)) s := by
  have htg : ∀ w ∈ gw, w.before #[Value.ref b] s = true := fun w hw => hts w (gw_tbl hw)
  obtain ⟨c0, i0, k0⟩ := u_known (C := RX0) (T := TX0) (N := 3) htg iw0 (htg _ ins_0)
  obtain ⟨c1, i1, k1⟩ := u_known (C := RX1) (T := TX1) (N := 3) htg iw1 (htg _ ins_1)
  obtain ⟨c2, i2, k2⟩ := u_known (C := RX2) (T := TX2) (N := 7) htg iw2 (htg _ ins_2)
  obtain ⟨c3, i3, k3⟩ := u_known (C := RX3) (T := TX3) (N := 14) htg iw3 (htg _ ins_3)
  obtain ⟨c4, i4, k4⟩ := u_known (C := RX4) (T := TX4) (N := 5) htg iw4 (htg _ ins_4)
  obtain ⟨c5, i5, k5⟩ := u_known (C := RX5) (T := TX5) (N := 4) htg iw5 (htg _ ins_5)
  obtain ⟨c6, i6, k6⟩ := u_known (C := RX6) (T := TX6) (N := 6) htg iw6 (htg _ ins_6)
  obtain ⟨c7, i7, k7⟩ := u_known (C := RX7) (T := TX7) (N := 10) htg iw7 (htg _ ins_7)
  obtain ⟨c8, i8, k8⟩ := u_known (C := RX8) (T := TX8) (N := 32) htg iw8 (htg _ ins_8)
  obtain ⟨cI, kI, mI, a1, a2, a3⟩ := Cond.arrayClass_spec (htg _ gw_ai)
  obtain ⟨cZ, kZ, mZ, b1, b2, b3⟩ := Cond.arrayClass_spec (htg _ gw_az)
  obtain ⟨mR, cR, kR, r1, r2, r3, r4, r5⟩ := Cond.arrayOver_spec (hts _ gw_aoR)
  obtain ⟨mH, cH, kH, h1, h2, h3, h4, h5⟩ := Cond.arrayOver_spec (hts _ gw_aoH)
  refine ⟨(dcS (fun i => [c0, c1, c2, c3, c4, c5, c6, c7, c8].getD i c0) cI cR cH cZ, fun i => [i0, i1, i2, i3, i4, i5, i6, i7, i8].getD i i0), fun ad l => ⟨fun c q hq => ?_, fun k q hq => ?_⟩⟩
  · have hc : c < 9 := (List.getElem?_eq_some_iff.mp hq).1
    have hc2 : c = 0 ∨ c = 1 ∨ c = 2 ∨ c = 3 ∨ c = 4 ∨ c = 5 ∨ c = 6 ∨ c = 7 ∨ c = 8 := by omega
    rcases hc2 with rfl | rfl | rfl | rfl | rfl | rfl | rfl | rfl | rfl <;> cases hq
    · exact k0
    · exact k1
    · exact k2
    · exact k3
    · exact k4
    · exact k5
    · exact k6
    · exact k7
    · exact k8
  · have hc : k < 4 := (List.getElem?_eq_some_iff.mp hq).1
    have hc2 : k = 0 ∨ k = 1 ∨ k = 2 ∨ k = 3 := by omega
    rcases hc2 with rfl | rfl | rfl | rfl <;> cases hq
    · exact ⟨fun n z => ⟨fun k h => (by cases h), kI, a2, mI, a3⟩, a1⟩
    · exact ⟨fun n z => ⟨fun k h => (by cases h), kR, r3, mR, r4⟩, kR, mR, r3, r4, r1, r5⟩
    · exact ⟨fun n z => ⟨fun k h => (by cases h), kH, h3, mH, h4⟩, kH, mH, h3, h4, h1, h5⟩
    · exact ⟨fun n z => ⟨fun k h => (by cases h), kZ, b2, mZ, b3⟩, b1⟩
theorem lw_Nw {s : State} {b : Nat} {w : Cond} (hw : isNest w = true) (h : w.before #[Value.ref b] s = true) : va_Nw w s := by
  cases w with
  | methodLinkNest a i x h2 => exact va_tabs rfl rfl h
  | fieldLinkNest a i c n d h2 => exact va_tabs rfl rfl h
  | arrayOver ty =>
    cases ty with
    | object c => exact va_AO.of h
    | _ => cases hw
  | _ => cases hw
set_option maxRecDepth 100000 in
theorem lw_R {s : State} {b : Nat} (hts : ∀ w ∈ lw_tbl, w.before #[Value.ref b] s = true) (i : Nat) (hi : i < 8) : (Cond.stringRef RX4 (idxS.getD i 0) (txtS.getD i "")).before #[Value.ref b] s = true := by
  have h : i = 0 ∨ i = 1 ∨ i = 2 ∨ i = 3 ∨ i = 4 ∨ i = 5 ∨ i = 6 ∨ i = 7 := by omega
  rcases h with rfl | rfl | rfl | rfl | rfl | rfl | rfl | rfl <;> exact hts _ (by decide +kernel)
set_option maxRecDepth 100000 in
theorem lw_env (l : Launch) {s : State} {b : Nat} (hts : ∀ w ∈ lw_tbl, w.before #[Value.ref b] s = true) (hgv : (Jvm.Cond.and given_1 narrow_1).before #[Value.ref b] s = true) : ∃ (D : va_G) (ad : Nat → Nat), GS (D, ad, l) (fun q => s.heap.size ≤ q) s s.heap := by
  have hs := flat_of_before _ hgv
  have hA : ∀ a : Nat, a < s.heap.size → ¬ s.heap.size ≤ a := fun a h1 h2 => absurd h1 (Nat.not_lt.mpr h2)
  obtain ⟨D, hK⟩ := lw_K hts
  obtain ⟨t0, z0, u0⟩ := lw_T0 hts hgv
  obtain ⟨t1, z1, u1⟩ := lw_T1 hts hgv
  obtain ⟨t2, z2, u2⟩ := lw_T2 hts hgv
  obtain ⟨adK, adV, hS, hE⟩ := lw_S hgv
  have eK : (fun i => (fun i => if i < 3 then [t0, t1, t2].getD i 0 else if i < 20 then adK (i - 10) else adV (i - 20)) (10 + i)) = fun i => if i < 10 then adK i else adV (i - 10) := by
    funext i
    show (if 10 + i < 3 then _ else if 10 + i < 20 then adK (10 + i - 10) else adV (10 + i - 20)) = _
    rw [if_neg (by omega)]
    by_cases h : i < 10
    · rw [if_pos (by omega), if_pos h]; congr 1; omega
    · rw [if_neg (by omega), if_neg h]; congr 1; omega
  have eV : (fun i => (fun i => if i < 3 then [t0, t1, t2].getD i 0 else if i < 20 then adK (i - 10) else adV (i - 20)) (20 + i)) = adV := by
    funext i
    show (if 20 + i < 3 then _ else if 20 + i < 20 then adK (20 + i - 10) else adV (20 + i - 20)) = _
    rw [if_neg (by omega), if_neg (by omega)]; congr 1; omega
  refine ⟨D, fun i => if i < 3 then [t0, t1, t2].getD i 0 else if i < 20 then adK (i - 10) else adV (i - 20), hK _ l, fun w hw hn => lw_Nw hn (hts w hw), fun i hi => ?_, ?_, fun i hi => ?_, va_Zof (hts (Cond.laysStatic "java/lang/String" "COMPACT_STRINGS" "Z") (by decide +kernel)) (hts (Cond.initialized "java/lang/String") (by decide +kernel)) (va_eqi (hs (Cond.eq (Term.static "java/lang/String" "COMPACT_STRINGS" "Z") (Term.int 1)) (by decide +kernel))) hA,
    va_Zqof (hts (Cond.laysStatic "jdk/internal/util/Preconditions" "SIOOBE_FORMATTER" "Ljava/util/function/BiFunction;") (by decide +kernel)) (hts (Cond.initialized "jdk/internal/util/Preconditions") (by decide +kernel)) (hs (Cond.isRef (Term.static "jdk/internal/util/Preconditions" "SIOOBE_FORMATTER" "Ljava/util/function/BiFunction;")) (by decide +kernel)) hA⟩
  · have h : i = 0 ∨ i = 1 ∨ i = 2 := by omega
    rcases h with rfl | rfl | rfl
    · exact ⟨z0, u0⟩
    · exact ⟨z1, u1⟩
    · exact ⟨z2, u2⟩
  · show vk_S 8 lenS bytS (fun i => (fun i => if i < 3 then [t0, t1, t2].getD i 0 else if i < 20 then adK (i - 10) else adV (i - 20)) (10 + i)) (fun i => (fun i => if i < 3 then [t0, t1, t2].getD i 0 else if i < 20 then adK (i - 10) else adV (i - 20)) (20 + i)) _ _ _
    rw [eK, eV]
    obtain ⟨g1, g2⟩ := hS
    refine ⟨fun i hi => ?_, fun i j hi hj e => ?_⟩
    · rw [show (fun i => if i < 10 then adK i else adV (i - 10)) i = adK i from if_pos (by omega)]; exact g1 i hi
    · rw [show (fun i => if i < 10 then adK i else adV (i - 10)) i = adK i from if_pos (by omega), show (fun i => if i < 10 then adK i else adV (i - 10)) j = adK j from if_pos (by omega)] at e; exact g2 i j hi hj e
  · have e := congrFun eK i
    rw [if_pos (show i < 10 by omega)] at e
    refine vk_R.of (A := #[Value.ref b]) (lw_R hts i hi) ?_
    show (tmS i).eval #[Value.ref b] s none [] s = some (.ref ((fun i => if i < 3 then [t0, t1, t2].getD i 0 else if i < 20 then adK (i - 10) else adV (i - 20)) (10 + i)))
    rw [e]; exact hE i hi
/-! the law: its own rows -/
abbrev mLw : MD := (x, code, 4, ret)
abbrev qLw : RQ := (100, 600000, 7302250)
def SX (Z : ZX) (b L : Nat) (xs : Nat → Int32) : Prop := va_X b L xs (zs Z) (zs Z).heap ∧ b < (zs Z).heap.size ∧ ¬ zA Z b
section ROWSL
variable {E : EG} {M : MD} {q : RQ} {Z : ZX} {k n pc : Nat} {ws : va_W} {ls : List (Nat × Value)} {st : List Value}
theorem mr_sld (C : CX E M q Z) {b L : Nat} {xs : Nat → Int32} (hX : SX Z b L xs) (j : Nat) {x : Int32} (pc' : Nat) (d : decode M.2.1 pc = .ok (.iaload, 1)) (hp : pc + 1 = pc') (hx : x = nI j) (hj : j < L) (hL : L < 2 ^ 31) (kk : V E M q Z k n ws ls (.int (xs j) :: st) pc') : V E M q Z k n ws ls (.int x :: .ref b :: st) pc := by
  subst hp; subst hx
  intro H locs lv hP hD hS hl
  refine va_sld C.1 C.2.1 hX.1 hX.2.1 hX.2.2 hS (vp_in_nI hj hL) d ?_
  rw [nI_cl hj hL]
  exact kk H locs lv hP hD hS hl
theorem mr_slen (C : CX E M q Z) {b L : Nat} {xs : Nat → Int32} (hX : SX Z b L xs) (pc' : Nat) (d : decode M.2.1 pc = .ok (.arraylength, 1)) (hp : pc + 1 = pc') (kk : V E M q Z k n ws ls (.int (nI L) :: st) pc') : V E M q Z k n ws ls (.ref b :: st) pc := by
  subst hp
  exact fun H locs lv hP hD hS hl => va_slen C.1 C.2.1 hX.1 hX.2.1 hX.2.2 hS d (kk H locs lv hP hD hS hl)
end ROWSL
theorem cut_X {w1 w2 : va_W} (h : w1.length = 79) : CUT (w1 ++ w2) (List.range' 0 79) w1 := by
  have e := cut_mid [] w1 w2
  rw [h] at e; exact e
theorem cut_Y {w1 w2 : va_W} (h : w1.length = 79) (h2 : w2.length = 17) : CUT (w1 ++ w2) (List.range' 79 17) w2 := by
  have e := cut_mid w1 w2 []
  rw [h, h2, List.append_nil] at e; exact e
theorem put_X {w1 w2 w : va_W} (h : w1.length = 79) (h2 : w.length = 79) : wput (w1 ++ w2) (List.range' 0 79) w = w ++ w2 := by
  have e := wput_mid w1 [] w2 w (h2.trans h.symm)
  rw [h] at e; exact e
theorem put_Y {w1 w2 w : va_W} (h : w1.length = 79) (h2 : w2.length = 17) (h3 : w.length = 17) : wput (w1 ++ w2) (List.range' 79 17) w = w1 ++ w := by
  have e := wput_mid w2 w1 [] w (h3.trans h2.symm)
  rw [h, h2, List.append_nil, List.append_nil] at e; exact e
theorem get_X {w1 w2 : va_W} {c : Nat × va_E} (h : w1[0]? = some c) : (w1 ++ w2)[0]? = some c := by
  rw [List.getElem?_append_left (List.getElem?_eq_some_iff.mp h).1]; exact h
theorem get_Y {w1 w2 : va_W} {c : Nat × va_E} (h : w1.length = 79) (h2 : w2[0]? = some c) : (w1 ++ w2)[79]? = some c := by
  rw [List.getElem?_append_right (by omega), h]; exact h2
theorem put_1 (c : Nat × va_E) : ∀ w : va_W, w.length ≠ 0 → wput [c] [0] w = w
  | [], h => absurd rfl h
  | d :: w, _ => by
    unfold wput
    show wput [d] [] w = d :: w
    unfold wput; rfl
theorem put_2 {A : va_W} {c : Nat × va_E} {n : Nat} (h : A.length = n) : ∀ w : va_W, w.length ≠ 0 → wput (A ++ [c]) [n] w = A ++ w
  | [], h => absurd rfl h
  | d :: w, _ => by
    subst h
    unfold wput
    rw [set_mid A c d []]
    unfold wput; simp
theorem cut_1 {A : va_W} {c : Nat × va_E} {n : Nat} (h : A.length = n) : CUT (A ++ [c]) [n] [c] := by
  subst h
  show [(A ++ [c])[A.length]?] = [some c]
  rw [List.getElem?_append_right (Nat.le_refl _), Nat.sub_self]; rfl
theorem and31 (x : Int32) : ∃ b, b < 32 ∧ x &&& nI 31 = nI b := by
  have h : (x &&& nI 31).toInt = ((x.toInt % 32).toNat : Int) := by
    have e1 : (x &&& nI 31).toBitVec.toNat = x.toBitVec.toNat % 32 := by
      rw [Int32.toBitVec_and, BitVec.toNat_and]
      exact Nat.and_two_pow_sub_one_eq_mod x.toBitVec.toNat 5
    have e2 : (x &&& nI 31).toInt = ((x &&& nI 31).toBitVec.toNat : Int) := by
      show (x &&& nI 31).toBitVec.toInt = _
      rw [BitVec.toInt_eq_toNat_of_lt]
      rw [e1]; omega
    have e3 : x.toInt % 32 = (x.toBitVec.toNat : Int) % 32 := by
      show x.toBitVec.toInt % 32 = _
      rw [BitVec.toInt_eq_toNat_cond]
      split <;> omega
    rw [e2, e1, e3]; omega
  refine ⟨(x.toInt % 32).toNat, by omega, ?_⟩
  rw [← Int32.toInt_inj, h, tI_n (by omega)]
/-- a walk in less room is one in more -/
theorem lw_more {p : Program} {l : Launch} {e : Env} {R R' : Room} {s : State} {m : MethodId} {args : Array Value} {below : List Frame} {meth : Method} {c : Code} {H : Heap} {locs : List Loc} {cells slots : Nat} {Q Q' : State → Prop} {g : JFrame} (hf : R.frames ≤ R'.frames) (hl : R.locals ≤ R'.locals) (hc : R.cells ≤ R'.cells) (hs : R.slots ≤ R'.slots) (hQ : ∀ t, Q t → Q' t)
    (k : W p l e R s m args below meth c H locs cells slots Q g) : W p l e R' s m args below meth c H locs cells slots Q' g := by
  intro T hT X
  have hr : s.hasRoom e.platform R = true := by
    have h := X.room
    simp only [State.hasRoom, Bool.and_eq_true, decide_eq_true_eq] at h ⊢
    obtain ⟨⟨⟨⟨y, a, b, c, d, e⟩, f⟩, g⟩, i⟩ := h
    exact ⟨⟨⟨⟨by omega, by omega, by omega, by omega, by omega, e⟩, by omega⟩, by omega⟩, i⟩
  obtain ⟨t, a, b⟩ := k T hT ⟨X.admits, X.cas, X.clock, X.frames, hr, X.hears, X.method, X.code, X.here, X.tail, X.warmed, X.limits, X.bytes, X.same⟩
  exact ⟨t, a, hQ t b⟩
theorem lw_end {E : EG} {n : Nat} {post : PO} {below : List Frame} {a : Array Value} {s : State} (hp : ∀ v w, post v w → v = some (.int 1)) (t : State) (h : MQ below (QQ E n post (fun q => s.heap.size ≤ q)) a s 600000 7302250 (fun q => s.heap.size ≤ q) t) : lw_Z below a s t := by
  obtain ⟨o, h1, h2, ⟨⟨r, w, ho, hr, -⟩, -⟩, L, hF, hL⟩ := h
  refine ⟨o, h1, h2, ho.trans (congrArg Outcome.returned (hp r w hr)), hF.1, hF.2.1, hF.2.2.weaken (fun y hy hlt => absurd hlt (Nat.not_lt.mpr (hL y hy))) (Nat.le_refl _) (Nat.le_refl _)⟩
