/-! the thin layer, 5: new objects and arrays, other orders of a world -/
section ROWS5
variable {E : EG} {M : MD} {q : RQ} {Z : ZX} {k n pc : Nat} {ws : va_W} {ls : List (Nat × Value)} {st : List Value}
theorem mr_sub {ws' : va_W} (is : List Nat) (kk : V E M q Z k n ws' ls st pc) (hs : CUT ws is ws') (hnd : va_nd is = true) : V E M q Z k n ws ls st pc :=
  fun H locs lv hP hD hS hl => kk H locs lv (cut_P hs hP) (hD.sub is hnd hs) hS hl
theorem mr_new (C : CX E M q Z) {i ci N : Nat} {C0 : String} {T : u_T} {ty0 : Nat → FieldType} (fs : List Value) (pc' : Nat) (d : decode M.2.1 pc = .ok (.new i, 3)) (hp : pc + 3 = pc') (hc : clsX[ci]? = some (C0, T, N)) (iw : ∀ w ∈ u_ws C0 T N, w ∈ gw) (hty : ∀ k, k < N → parseFieldDescriptor (T k).2.2.1 = some (ty0 k))
    (hlk : Cond.classLink M.1.cls i C0 ∈ gw) (hins : Cond.instantiable C0 N ∈ gw) (hini : Cond.initialized C0 ∈ gw) (hfs : (List.range N).all (fun j => decide (defaultValue (ty0 j) = vp_V fs j)) = true) (hcl : k + 1 ≤ q.2.1 ∧ n + N ≤ q.2.2)
    (kk : ∀ x : Nat, V E M q Z (k + 1) (n + N) (ws ++ [(x, .inr (ci, fs))]) ls (.ref x :: st) pc') : V E M q Z k n ws ls st pc := by
  subst hp
  intro H locs lv hP hD hS hl
  refine va_new (D := E.1) C.1 C.2.1 C.2.2.2.2.2.1 iw ty0 hty C.2.2.2.2.1 (C.2.2.2.2.2.1 _ hlk) (C.2.2.2.2.2.1 _ hins) (C.2.2.2.2.2.1 _ hini) C.2.2.2.2.2.2.2.2.1.1 hP hD hS C.2.2.2.2.2.2.2.1 hc (fs := fs) (fun j hj => ?_) hcl.1 hcl.2 d (fun x H1 hP hD hS => kk x H1 locs lv hP hD hS hl)
  have h1 := List.all_eq_true.mp hfs j (List.mem_range.mpr hj)
  exact of_decide_eq_true h1
theorem gw_ai : Cond.arrayClass .int ∈ gw := gw_mem (by decide +kernel) rfl
theorem gw_az : Cond.arrayClass .boolean ∈ gw := gw_mem (by decide +kernel) rfl
theorem mr_newi (C : CX E M q Z) (N : Nat) {z : Int32} (pc' : Nat) (d : decode M.2.1 pc = .ok (.newarray .int, 2)) (hp : pc + 2 = pc') (hz : z = nI N) (hN : N < 100000) (hcl : k + 1 ≤ q.2.1 ∧ n + N ≤ q.2.2)
    (kk : ∀ x : Nat, V E M q Z (k + 1) (n + N) (ws ++ [(x, .inl (E.1.1 100, N, .inl (fun _ => 0)))]) ls (.ref x :: st) pc') : V E M q Z k n ws ls (.int z :: st) pc := by
  subst hp; subst hz
  intro H locs lv hP hD hS hl
  refine va_newa (D := E.1) (atype := .int) (ty := .int) (a0 := (N, .inl (fun _ => 0))) C.1 C.2.1 (C.2.2.2.2.2.1 _ gw_ai) rfl C.2.2.2.2.2.2.2.2.1.1 hP hD hS C.2.2.2.2.2.2.2.1 (N' := N) (fun _ => rfl) (nI_pos (by omega)) (nI_clamp (by omega)) (by show N * 4 ≤ _; omega) hcl.1 hcl.2 d (fun x cA H1 hK hP hD hS => ?_)
  have h1 : (zs Z).vm.findClass ("[" ++ FieldType.int.toString) = some cA := (hK.2 4 (cA, .int) rfl).2
  have h2 : (zs Z).vm.findClass ("[" ++ FieldType.int.toString) = some (E.1.1 100) := (C.2.2.2.2.2.2.2.2.1.1.2 0 _ rfl).2
  obtain rfl : cA = E.1.1 100 := Option.some.inj (h1.symm.trans h2)
  exact kk x H1 locs lv hP hD hS hl
theorem mr_newz (C : CX E M q Z) (N : Nat) {z : Int32} (pc' : Nat) (d : decode M.2.1 pc = .ok (.newarray .boolean, 2)) (hp : pc + 2 = pc') (hz : z = nI N) (hN : N < 100000) (hcl : k + 1 ≤ q.2.1 ∧ n + N ≤ q.2.2)
    (kk : ∀ x : Nat, V E M q Z (k + 1) (n + N) (ws ++ [(x, .inl (E.1.1 103, N, .inl (fun _ => 0)))]) ls (.ref x :: st) pc') : V E M q Z k n ws ls (.int z :: st) pc := by
  subst hp; subst hz
  intro H locs lv hP hD hS hl
  refine va_newa (D := E.1) (atype := .boolean) (ty := .boolean) (a0 := (N, .inl (fun _ => 0))) C.1 C.2.1 (C.2.2.2.2.2.1 _ gw_az) rfl C.2.2.2.2.2.2.2.2.1.1 hP hD hS C.2.2.2.2.2.2.2.1 (N' := N) (fun _ => rfl) (nI_pos (by omega)) (nI_clamp (by omega)) (by show N * 1 ≤ _; omega) hcl.1 hcl.2 d (fun x cA H1 hK hP hD hS => ?_)
  have h1 : (zs Z).vm.findClass ("[" ++ FieldType.boolean.toString) = some cA := (hK.2 4 (cA, .boolean) rfl).2
  have h2 : (zs Z).vm.findClass ("[" ++ FieldType.boolean.toString) = some (E.1.1 103) := (C.2.2.2.2.2.2.2.2.1.1.2 3 _ rfl).2
  obtain rfl : cA = E.1.1 103 := Option.some.inj (h1.symm.trans h2)
  exact kk x H1 locs lv hP hD hS hl
theorem gw_aoR : Cond.arrayOver (.object RX5) ∈ lw_tbl := by decide +kernel
theorem gw_aoH : Cond.arrayOver (.object RX3) ∈ lw_tbl := by decide +kernel
end ROWS5
