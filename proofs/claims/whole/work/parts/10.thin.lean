/-! THE THIN LAYER: one judgement V of an activation (its world, locals, stack, place in the code), contracts Ctr of methods, over the kit's W and Met. -/
abbrev MX : Type := Program × Env × State × MethodId × Array Value × List Frame × Method × Code × (Nat → Prop)
abbrev PO : Type := Option Value → va_W → Prop
abbrev RQ : Type := Nat × Nat × Nat
abbrev ZX : Type := PO × Nat × MX
abbrev zO (Z : ZX) : PO := Z.1
abbrev zn (Z : ZX) : Nat := Z.2.1
abbrev zp (Z : ZX) : Program := Z.2.2.1
abbrev ze (Z : ZX) : Env := Z.2.2.2.1
abbrev zs (Z : ZX) : State := Z.2.2.2.2.1
abbrev zm (Z : ZX) : MethodId := Z.2.2.2.2.2.1
abbrev za (Z : ZX) : Array Value := Z.2.2.2.2.2.2.1
abbrev zb (Z : ZX) : List Frame := Z.2.2.2.2.2.2.2.1
abbrev zh (Z : ZX) : Method := Z.2.2.2.2.2.2.2.2.1
abbrev zc (Z : ZX) : Code := Z.2.2.2.2.2.2.2.2.2.1
abbrev zA (Z : ZX) : Nat → Prop := Z.2.2.2.2.2.2.2.2.2.2
def isNest : Cond → Bool
  | .methodLinkNest .. => true
  | .fieldLinkNest .. => true
  | .arrayOver (.object _) => true
  | _ => false
def gw : List Cond := lw_tbl.filter goodWord
def rmQ (q : RQ) : Room := { frames := q.1, cells := q.2.1, slots := q.2.2, locals := 64 * q.1 }
abbrev clsX : List vw_C := [(RX0, TX0, 3), (RX1, TX1, 3), (RX2, TX2, 7), (RX3, TX3, 14), (RX4, TX4, 5), (RX5, TX5, 4), (RX6, TX6, 6), (RX7, TX7, 10), (RX8, TX8, 32)]
abbrev tysX (E : EG) : List (ClassId × FieldType) := [(E.1.1 100, .int), (E.1.1 101, .object RX5), (E.1.1 102, .object RX3), (E.1.1 103, .boolean)]
def namP (k : Nat) : String := match k with
  | 0 => "PARENT"
  | 1 => "SIZE_BODY"
  | _ => "MARK_BODY"
def tabP (k : Nat) : Nat → Int32 := fun j => (([[0, 0, 1, 1, 0, 4], [10, 11, 12, 0, 13, 14], [20, 21, 24, 22, 23, 0]] : List (List Int32)).getD k []).getD j 0
def idxS : List Nat := [47, 53, 86, 111, 113, 115, 117, 119]
def txtS : List String := ["room", "door", "crowd", "most", "like", "late", "stay", "few"]
def lenS : List Nat := [4, 4, 5, 4, 4, 4, 4, 3]
def bytS : List (List Int32) := [[114, 111, 111, 109], [100, 111, 111, 114], [99, 114, 111, 119, 100], [109, 111, 115, 116], [108, 105, 107, 101], [108, 97, 116, 101], [115, 116, 97, 121], [102, 101, 119]]
/-- what stays all the time: the classes, the nest words, the constant arrays, the constant texts -/
def GS (E : EG) (A : Nat → Prop) (U : State) (H : Heap) : Prop :=
  va_K E.1 clsX (tysX E) U ∧ (∀ w ∈ lw_tbl, isNest w = true → va_Nw w U) ∧ (∀ i, i < 3 → va_Z RX7 (namP i) "[I" (.ref (E.2.1 i)) A U H ∧ va_T .int (E.2.1 i) 6 (fun j => .int (tabP i j)) A U H) ∧
  vk_S 8 lenS bytS (fun i => E.2.1 (10 + i)) (fun i => E.2.1 (20 + i)) A U H ∧ (∀ i, i < 8 → vk_R RX4 (idxS.getD i 0) (txtS.getD i "") (E.2.1 (10 + i)) U) ∧
  va_Z "java/lang/String" "COMPACT_STRINGS" "Z" (.int 1) A U H ∧ va_Zq "jdk/internal/util/Preconditions" "SIOOBE_FORMATTER" "Ljava/util/function/BiFunction;" A U H
theorem nestWarm {s U : State} (hW : s.WarmedH U.vm) {w : Cond} (hw : isNest w = true) (h : va_Nw w s) : va_Nw w U := by
  cases w with
  | methodLinkNest a i x h2 => exact va_Nw.warmM hW h
  | fieldLinkNest a i b n d h2 => exact va_Nw.warmF hW h
  | arrayOver ty =>
    cases ty with
    | object c => exact va_AO.moved hW.alike h
    | _ => cases hw
  | _ => cases hw
theorem nestSame {s U : State} (hv : s.vm = U.vm) {w : Cond} (hw : isNest w = true) (h : va_Nw w s) : va_Nw w U := by
  cases w with
  | methodLinkNest a i x h2 => exact va_Nw.same rfl hv h
  | fieldLinkNest a i b n d h2 => exact va_Nw.same rfl hv h
  | arrayOver ty =>
    cases ty with
    | object c => exact va_AO.moved (by rw [hv]; exact Vm.Alike.refl _) h
    | _ => cases hw
  | _ => cases hw
theorem GS.go {E : EG} {A A' : Nat → Prop} {s U : State} {H0 H : Heap} {locs : List Loc} (h : GS E A s H0) (hS : va_S A H0 H locs) (hW : s.WarmedH U.vm) (hA : ∀ q, A' q → A q) : GS E A' U H := by
  obtain ⟨h1, h2, h3, h4, h5, h6, h7⟩ := h
  refine ⟨va_K.moved hW.alike h1, fun w hw hn => nestWarm hW hn (h2 w hw hn), fun i hi => ?_, ?_, fun i hi => (h5 i hi).warm hW, ((h6.kept hS.2.1).moved hW.alike).narrow hA, ((h7.kept hS.2.1).moved hW.alike).narrow hA⟩
  · obtain ⟨q1, q2⟩ := h3 i hi
    exact ⟨((q1.kept hS.2.1).moved hW.alike).narrow hA, ((q2.kept hS.2.1).moved hW.alike).narrow hA⟩
  · exact ((h4.kept hS.2.1).moved hW.alike).narrow hA
theorem GS.same {E : EG} {A : Nat → Prop} {s U : State} {H : Heap} (h : GS E A s H) (hv : s.vm = U.vm) : GS E A U H := by
  have hal : s.vm.Alike U.vm := by rw [hv]; exact Vm.Alike.refl _
  obtain ⟨h1, h2, h3, h4, h5, h6, h7⟩ := h
  refine ⟨va_K.moved hal h1, fun w hw hn => nestSame hv hn (h2 w hw hn), fun i hi => ?_, h4.moved hal, fun i hi => vk_R.same hv.symm (h5 i hi), h6.moved hal, h7.moved hal⟩
  obtain ⟨q1, q2⟩ := h3 i hi
  exact ⟨q1.moved hal, q2.moved hal⟩
/-- a method's end -/
def QQ (E : EG) (n : Nat) (post : PO) (A : Nat → Prop) : Array Value → State → Outcome → State → Prop := fun _ st oc t => (∃ (r : Option Value) (w : va_W), oc = .returned r ∧ post r w ∧ n ≤ w.length ∧ va_P E.1 clsX w t.heap ∧ va_D A w) ∧ va_F A st t
def PP (E : EG) (sz : Nat) (ws : va_W) : State → Prop := fun U => U.heap.size = sz ∧ va_P E.1 clsX ws U.heap ∧ va_D (fun _ => True) ws ∧ GS E (va_A ws sz) U U.heap
/-- a method's contract -/
def Ctr (E : EG) (M : MD) (q : RQ) (av : List Value) (ws : va_W) (post : PO) : Prop :=
  ∀ sz : Nat, Met E.2.2 M.1 (.code M.1 M.2.1 M.2.2.1 M.2.2.2 :: gw) (rmQ q) (va_Pc av (PP E sz ws)) (QQ E ws.length post (va_A ws sz)) q.2.1 q.2.2 (va_A ws sz)
/-- what is known in an activation -/
def CX (E : EG) (M : MD) (q : RQ) (Z : ZX) : Prop :=
  (zp Z).tables.exec = Jvm.exec ∧ (zc Z).code = M.2.1 ∧ (zc Z).maxLocals = M.2.2.1 ∧ (zh Z).sig.returnType = M.2.2.2 ∧ (zs Z).vm.findClass M.1.cls = some (zm Z).cls ∧ (∀ w ∈ gw, w.before (za Z) (zs Z) = true) ∧ (zh Z).locks = false ∧
  (∀ q, (zs Z).heap.size ≤ q → zA Z q) ∧ GS E (zA Z) (zs Z) (zs Z).heap ∧ (M.1.name = "<init>" → (zh Z).name = "<init>")
def V (E : EG) (M : MD) (q : RQ) (Z : ZX) (k n : Nat) (ws : va_W) (ls : List (Nat × Value)) (st : List Value) (pc : Nat) : Prop :=
  ∀ (H : Heap) (locs : List Loc) (lv : Array Slot), va_P E.1 clsX ws H → va_D (zA Z) ws → va_S (zA Z) (zs Z).heap H locs → lv_has lv M.2.2.1 ls →
    W (zp Z) E.2.2 (ze Z) (rmQ q) (zs Z) (zm Z) (za Z) (zb Z) (zh Z) (zc Z) H locs k n (MQ (zb Z) (QQ E (zn Z) (zO Z) (zA Z)) (za Z) (zs Z) q.2.1 q.2.2 (zA Z)) (F0 (zm Z) pc lv st)
theorem Ctr.of {E : EG} {M : MD} {q : RQ} {av : List Value} {ws : va_W} {post : PO} (hy : plainName M.1.cls = true) (hn : (lg_sl av).length ≤ M.2.2.1)
    (body : ∀ Z : ZX, zO Z = post → zn Z = ws.length → CX E M q Z → V E M q Z 0 0 ws (lv_args 0 av) [] 0) : Ctr E M q av ws post := by
  intro sz
  refine Met.ofW (cc := M.2.1) (maxL := M.2.2.1) (ret := M.2.2.2) hy rfl ?_
  intro p e s m args below meth c s₁ B hml hv
  obtain ⟨rfl, hsz, hP, hD0, hG⟩ := hv
  subst hsz
  have hts := atoms_spec (ws := .code M.1 M.2.1 M.2.2.1 M.2.2.2 :: gw) B.pre
  have hD := hD0.self (sz := s.heap.size)
  have K := body (post, ws.length, (p, e, s, m, av.toArray, below, meth, c, va_A ws s.heap.size)) rfl rfl ⟨B.exec, B.bytes, hml, B.returns, findClass_of_methodNamed B.named, fun w hw => hts w (List.mem_cons_of_mem _ hw), B.notSynchronized, fun q h => Or.inr h, hG, fun h => (name_of_methodNamed B.named B.method).1.trans h⟩ s.heap [] _ hP hD va_S.rf (lv_entry av hn)
  rw [lg_entry_eq]
  exact K
theorem gw_mem {w : Cond} (h : w ∈ lw_tbl) (hg : goodWord w = true) : w ∈ gw := List.mem_filter.mpr ⟨h, hg⟩
theorem gw_good {y : MethodName} {b : ByteArray} {n : Nat} {r : Option FieldType} (h : Cond.code y b n r ∈ gw) : GoodIn gw (.code y b n r :: gw) := by
  intro w hw
  rcases List.mem_cons.mp hw with rfl | hw
  · exact ⟨h, good_of_word (List.mem_filter.mp h).2⟩
  · exact ⟨hw, good_of_word (List.mem_filter.mp hw).2⟩
theorem lk_mem {l : List (Nat × Value)} {i : Nat} {v : Value} (hk : l.lookup i = some v) : (i, v) ∈ l := by
  induction l with
  | nil => cases hk
  | cons a l ih =>
    obtain ⟨a1, a2⟩ := a
    simp only [List.lookup] at hk
    split at hk
    · rename_i e
      cases hk
      rw [eq_of_beq e]
      exact List.mem_cons_self
    · exact List.mem_cons_of_mem _ (ih hk)
theorem lk_at {lv : Array Slot} {nL : Nat} {l : List (Nat × Value)} (h : lv_has lv nL l) {i : Nat} {v : Value} (hk : l.lookup i = some v) : lv[i]? = some (.val v) := h.2.2 (i, v) (lk_mem hk)
/-- a field's link in a class: slot kf of class ci -/
def FL (own : String) (index ci kf : Nat) : Prop := ∃ (C : String) (T : u_T) (N : Nat), clsX[ci]? = some (C, T, N) ∧ kf < N ∧ (∀ w ∈ u_ws C T N, w ∈ gw) ∧ Cond.fieldLink own index (T kf).1 (T kf).2.1 (T kf).2.2.1 ∈ gw
/-- the same with what a store needs: it isn't final, its type -/
def FS (own : String) (index ci kf : Nat) (ty : FieldType) : Prop := ∃ (C : String) (T : u_T) (N : Nat) (ty0 : Nat → FieldType), clsX[ci]? = some (C, T, N) ∧ kf < N ∧ (∀ w ∈ u_ws C T N, w ∈ gw) ∧ Cond.fieldLink own index (T kf).1 (T kf).2.1 (T kf).2.2.1 ∈ gw ∧
  (∀ k, k < N → parseFieldDescriptor (T k).2.2.1 = some (ty0 k)) ∧ (∀ a, a < N → ∀ b, b < N → a ≠ b → (T a).2.1 ≠ (T b).2.1) ∧ (T kf).2.2.2 = false ∧ ty0 kf = ty
section ROWS
variable {E : EG} {M : MD} {q : RQ} {Z : ZX} {k n pc : Nat} {ws : va_W} {ls : List (Nat × Value)} {st : List Value}
theorem mr_iconst (C : CX E M q Z) {i : Int} (v : Int32) (pc' : Nat) (d : decode M.2.1 pc = .ok (.iconst i, 1)) (hp : pc + 1 = pc') (hv : Int32.ofInt i = v) (kk : V E M q Z k n ws ls (.int v :: st) pc') : V E M q Z k n ws ls st pc := by
  subst hp
  exact fun H locs lv hP hD hS hl => lv_iconst C.1 C.2.1 d hv (kk H locs lv hP hD hS hl)
theorem mr_bipush (C : CX E M q Z) {i : Int} (v : Int32) (pc' : Nat) (d : decode M.2.1 pc = .ok (.bipush i, 2)) (hp : pc + 2 = pc') (hv : (Int8.ofInt i).toInt32 = v) (kk : V E M q Z k n ws ls (.int v :: st) pc') : V E M q Z k n ws ls st pc := by
  subst hp
  exact fun H locs lv hP hD hS hl => lv_bipush C.1 C.2.1 d hv (kk H locs lv hP hD hS hl)
theorem mr_sipush (C : CX E M q Z) {i : Int} (v : Int32) (pc' : Nat) (d : decode M.2.1 pc = .ok (.sipush i, 3)) (hp : pc + 3 = pc') (hv : (Int16.ofInt i).toInt32 = v) (kk : V E M q Z k n ws ls (.int v :: st) pc') : V E M q Z k n ws ls st pc := by
  subst hp
  exact fun H locs lv hP hD hS hl => lv_sipush C.1 C.2.1 d hv (kk H locs lv hP hD hS hl)
theorem mr_lconst (C : CX E M q Z) {i : Fin 2} (v : Int64) (pc' : Nat) (d : decode M.2.1 pc = .ok (.lconst i, 1)) (hp : pc + 1 = pc') (hv : Int64.ofNat (i : Nat) = v) (kk : V E M q Z k n ws ls (.long v :: st) pc') : V E M q Z k n ws ls st pc := by
  subst hp
  exact fun H locs lv hP hD hS hl => lv_lconst C.1 C.2.1 d hv (kk H locs lv hP hD hS hl)
theorem mr_ldc (C : CX E M q Z) {i : Nat} {v : Int32} (pc' : Nat) (d : decode M.2.1 pc = .ok (.ldc i, 2)) (hp : pc + 2 = pc') (hw : Cond.constant M.1.cls i v ∈ gw) (kk : V E M q Z k n ws ls (.int v :: st) pc') : V E M q Z k n ws ls st pc := by
  subst hp
  exact fun H locs lv hP hD hS hl => lv_ldc C.1 C.2.1 C.2.2.2.2.1 (C.2.2.2.2.2.1 _ hw) d (kk H locs lv hP hD hS hl)
theorem mr_ldc2 (C : CX E M q Z) {i : Nat} {v : Int64} (pc' : Nat) (d : decode M.2.1 pc = .ok (.ldc2_w i, 3)) (hp : pc + 3 = pc') (hw : Cond.constantLong M.1.cls i v ∈ gw) (kk : V E M q Z k n ws ls (.long v :: st) pc') : V E M q Z k n ws ls st pc := by
  subst hp
  exact fun H locs lv hP hD hS hl => lv_ldc2 C.1 C.2.1 C.2.2.2.2.1 (C.2.2.2.2.2.1 _ hw) d (kk H locs lv hP hD hS hl)
theorem mr_iload_n (C : CX E M q Z) {i : Fin 4} {x : Int32} (pc' : Nat) (d : decode M.2.1 pc = .ok (.iload_n i, 1)) (hp : pc + 1 = pc') (hl0 : ls.lookup (i : Nat) = some (.int x)) (kk : V E M q Z k n ws ls (.int x :: st) pc') : V E M q Z k n ws ls st pc := by
  subst hp
  exact fun H locs lv hP hD hS hl => lv_iload_n C.1 C.2.1 d rfl (lk_at hl hl0) (kk H locs lv hP hD hS hl)
theorem mr_iload (C : CX E M q Z) {i : Nat} {x : Int32} (pc' : Nat) (d : decode M.2.1 pc = .ok (.iload i, 2)) (hp : pc + 2 = pc') (hl0 : ls.lookup i = some (.int x)) (kk : V E M q Z k n ws ls (.int x :: st) pc') : V E M q Z k n ws ls st pc := by
  subst hp
  exact fun H locs lv hP hD hS hl => lv_iload C.1 C.2.1 d (lk_at hl hl0) (kk H locs lv hP hD hS hl)
theorem mr_aload_n (C : CX E M q Z) {i : Fin 4} {x : Nat} (pc' : Nat) (d : decode M.2.1 pc = .ok (.aload_n i, 1)) (hp : pc + 1 = pc') (hl0 : ls.lookup (i : Nat) = some (.ref x)) (kk : V E M q Z k n ws ls (.ref x :: st) pc') : V E M q Z k n ws ls st pc := by
  subst hp
  exact fun H locs lv hP hD hS hl => lv_aload_n C.1 C.2.1 d rfl (lk_at hl hl0) (kk H locs lv hP hD hS hl)
theorem mr_aload (C : CX E M q Z) {i : Nat} {x : Nat} (pc' : Nat) (d : decode M.2.1 pc = .ok (.aload i, 2)) (hp : pc + 2 = pc') (hl0 : ls.lookup i = some (.ref x)) (kk : V E M q Z k n ws ls (.ref x :: st) pc') : V E M q Z k n ws ls st pc := by
  subst hp
  exact fun H locs lv hP hD hS hl => lv_aload C.1 C.2.1 d (lk_at hl hl0) (kk H locs lv hP hD hS hl)
theorem mr_lload_n (C : CX E M q Z) {i : Fin 4} {x : Int64} (pc' : Nat) (d : decode M.2.1 pc = .ok (.lload_n i, 1)) (hp : pc + 1 = pc') (hl0 : ls.lookup (i : Nat) = some (.long x)) (kk : V E M q Z k n ws ls (.long x :: st) pc') : V E M q Z k n ws ls st pc := by
  subst hp
  exact fun H locs lv hP hD hS hl => lv_lload_n C.1 C.2.1 d rfl (lk_at hl hl0) (kk H locs lv hP hD hS hl)
theorem mr_lload (C : CX E M q Z) {i : Nat} {x : Int64} (pc' : Nat) (d : decode M.2.1 pc = .ok (.lload i, 2)) (hp : pc + 2 = pc') (hl0 : ls.lookup i = some (.long x)) (kk : V E M q Z k n ws ls (.long x :: st) pc') : V E M q Z k n ws ls st pc := by
  subst hp
  exact fun H locs lv hP hD hS hl => lv_lload C.1 C.2.1 d (lk_at hl hl0) (kk H locs lv hP hD hS hl)
theorem mr_istore_n (C : CX E M q Z) {j : Fin 4} {i : Nat} {x : Int32} (pc' : Nat) (d : decode M.2.1 pc = .ok (.istore_n j, 1)) (hp : pc + 1 = pc') (hi : (j : Nat) = i) (hb : i < M.2.2.1) (kk : V E M q Z k n ws ((i, .int x) :: ls.filter (fun q => !(q.1 == i) && !(q.1 + 1 == i && q.2.category == 2))) st pc') : V E M q Z k n ws ls (.int x :: st) pc := by
  subst hp
  exact fun H locs lv hP hD hS hl => lv_istore_n C.1 C.2.1 d hi hl hb rfl (fun lv hl => kk H locs lv hP hD hS hl)
theorem mr_istore (C : CX E M q Z) {i : Nat} {x : Int32} (pc' : Nat) (d : decode M.2.1 pc = .ok (.istore i, 2)) (hp : pc + 2 = pc') (hb : i < M.2.2.1) (kk : V E M q Z k n ws ((i, .int x) :: ls.filter (fun q => !(q.1 == i) && !(q.1 + 1 == i && q.2.category == 2))) st pc') : V E M q Z k n ws ls (.int x :: st) pc := by
  subst hp
  exact fun H locs lv hP hD hS hl => lv_istore C.1 C.2.1 d hl hb rfl (fun lv hl => kk H locs lv hP hD hS hl)
theorem mr_astore_n (C : CX E M q Z) {j : Fin 4} {i : Nat} {x : Nat} (pc' : Nat) (d : decode M.2.1 pc = .ok (.astore_n j, 1)) (hp : pc + 1 = pc') (hi : (j : Nat) = i) (hb : i < M.2.2.1) (kk : V E M q Z k n ws ((i, .ref x) :: ls.filter (fun q => !(q.1 == i) && !(q.1 + 1 == i && q.2.category == 2))) st pc') : V E M q Z k n ws ls (.ref x :: st) pc := by
  subst hp
  exact fun H locs lv hP hD hS hl => lv_astore_n C.1 C.2.1 d hi hl hb rfl (fun lv hl => kk H locs lv hP hD hS hl)
theorem mr_astore (C : CX E M q Z) {i : Nat} {x : Nat} (pc' : Nat) (d : decode M.2.1 pc = .ok (.astore i, 2)) (hp : pc + 2 = pc') (hb : i < M.2.2.1) (kk : V E M q Z k n ws ((i, .ref x) :: ls.filter (fun q => !(q.1 == i) && !(q.1 + 1 == i && q.2.category == 2))) st pc') : V E M q Z k n ws ls (.ref x :: st) pc := by
  subst hp
  exact fun H locs lv hP hD hS hl => lv_astore C.1 C.2.1 d hl hb rfl (fun lv hl => kk H locs lv hP hD hS hl)
theorem mr_lstore_n (C : CX E M q Z) {j : Fin 4} {i : Nat} {x : Int64} (pc' : Nat) (d : decode M.2.1 pc = .ok (.lstore_n j, 1)) (hp : pc + 1 = pc') (hi : (j : Nat) = i) (hb : i + 1 < M.2.2.1) (kk : V E M q Z k n ws ((i, .long x) :: ls.filter (fun q => !(q.1 == i) && (!(q.1 == i + 1) && !(q.1 + 1 == i && q.2.category == 2)))) st pc') : V E M q Z k n ws ls (.long x :: st) pc := by
  subst hp
  exact fun H locs lv hP hD hS hl => lv_lstore_n C.1 C.2.1 d hi hl hb rfl (fun lv hl => kk H locs lv hP hD hS hl)
theorem mr_lstore (C : CX E M q Z) {i : Nat} {x : Int64} (pc' : Nat) (d : decode M.2.1 pc = .ok (.lstore i, 2)) (hp : pc + 2 = pc') (hb : i + 1 < M.2.2.1) (kk : V E M q Z k n ws ((i, .long x) :: ls.filter (fun q => !(q.1 == i) && (!(q.1 == i + 1) && !(q.1 + 1 == i && q.2.category == 2)))) st pc') : V E M q Z k n ws ls (.long x :: st) pc := by
  subst hp
  exact fun H locs lv hP hD hS hl => lv_lstore C.1 C.2.1 d hl hb rfl (fun lv hl => kk H locs lv hP hD hS hl)
theorem mr_iadd (C : CX E M q Z) {x y : Int32} (v : Int32) (pc' : Nat) (d : decode M.2.1 pc = .ok (.iadd, 1)) (hp : pc + 1 = pc') (hv : x + y = v) (kk : V E M q Z k n ws ls (.int v :: st) pc') : V E M q Z k n ws ls (.int y :: .int x :: st) pc := by
  subst hp; subst hv
  exact fun H locs lv hP hD hS hl => lv_iadd C.1 C.2.1 d (kk H locs lv hP hD hS hl)
theorem mr_isub (C : CX E M q Z) {x y : Int32} (v : Int32) (pc' : Nat) (d : decode M.2.1 pc = .ok (.isub, 1)) (hp : pc + 1 = pc') (hv : x - y = v) (kk : V E M q Z k n ws ls (.int v :: st) pc') : V E M q Z k n ws ls (.int y :: .int x :: st) pc := by
  subst hp; subst hv
  exact fun H locs lv hP hD hS hl => lv_isub C.1 C.2.1 d (kk H locs lv hP hD hS hl)
theorem mr_imul (C : CX E M q Z) {x y : Int32} (v : Int32) (pc' : Nat) (d : decode M.2.1 pc = .ok (.imul, 1)) (hp : pc + 1 = pc') (hv : x * y = v) (kk : V E M q Z k n ws ls (.int v :: st) pc') : V E M q Z k n ws ls (.int y :: .int x :: st) pc := by
  subst hp; subst hv
  exact fun H locs lv hP hD hS hl => lv_imul C.1 C.2.1 d (kk H locs lv hP hD hS hl)
theorem mr_iand (C : CX E M q Z) {x y : Int32} (v : Int32) (pc' : Nat) (d : decode M.2.1 pc = .ok (.iand, 1)) (hp : pc + 1 = pc') (hv : x &&& y = v) (kk : V E M q Z k n ws ls (.int v :: st) pc') : V E M q Z k n ws ls (.int y :: .int x :: st) pc := by
  subst hp; subst hv
  exact fun H locs lv hP hD hS hl => lv_iand C.1 C.2.1 d (kk H locs lv hP hD hS hl)
theorem mr_ior (C : CX E M q Z) {x y : Int32} (v : Int32) (pc' : Nat) (d : decode M.2.1 pc = .ok (.ior, 1)) (hp : pc + 1 = pc') (hv : x ||| y = v) (kk : V E M q Z k n ws ls (.int v :: st) pc') : V E M q Z k n ws ls (.int y :: .int x :: st) pc := by
  subst hp; subst hv
  exact fun H locs lv hP hD hS hl => lv_ior C.1 C.2.1 d (kk H locs lv hP hD hS hl)
theorem mr_ixor (C : CX E M q Z) {x y : Int32} (v : Int32) (pc' : Nat) (d : decode M.2.1 pc = .ok (.ixor, 1)) (hp : pc + 1 = pc') (hv : x ^^^ y = v) (kk : V E M q Z k n ws ls (.int v :: st) pc') : V E M q Z k n ws ls (.int y :: .int x :: st) pc := by
  subst hp; subst hv
  exact fun H locs lv hP hD hS hl => lv_ixor C.1 C.2.1 d (kk H locs lv hP hD hS hl)
theorem mr_ishl (C : CX E M q Z) {x y : Int32} (v : Int32) (pc' : Nat) (d : decode M.2.1 pc = .ok (.ishl, 1)) (hp : pc + 1 = pc') (hv : x <<< (y &&& 31) = v) (kk : V E M q Z k n ws ls (.int v :: st) pc') : V E M q Z k n ws ls (.int y :: .int x :: st) pc := by
  subst hp; subst hv
  exact fun H locs lv hP hD hS hl => lv_ishl C.1 C.2.1 d (kk H locs lv hP hD hS hl)
theorem mr_ishr (C : CX E M q Z) {x y : Int32} (v : Int32) (pc' : Nat) (d : decode M.2.1 pc = .ok (.ishr, 1)) (hp : pc + 1 = pc') (hv : x >>> (y &&& 31) = v) (kk : V E M q Z k n ws ls (.int v :: st) pc') : V E M q Z k n ws ls (.int y :: .int x :: st) pc := by
  subst hp; subst hv
  exact fun H locs lv hP hD hS hl => lv_ishr C.1 C.2.1 d (kk H locs lv hP hD hS hl)
theorem mr_irem (C : CX E M q Z) {x y : Int32} (v : Int32) (pc' : Nat) (d : decode M.2.1 pc = .ok (.irem, 1)) (hp : pc + 1 = pc') (hy : ¬ y = 0) (hv : x - x / y * y = v) (kk : V E M q Z k n ws ls (.int v :: st) pc') : V E M q Z k n ws ls (.int y :: .int x :: st) pc := by
  subst hp; subst hv
  exact fun H locs lv hP hD hS hl => lv_irem C.1 C.2.1 d hy (kk H locs lv hP hD hS hl)
theorem mr_idiv (C : CX E M q Z) {x y : Int32} (v : Int32) (pc' : Nat) (d : decode M.2.1 pc = .ok (.idiv, 1)) (hp : pc + 1 = pc') (hy : ¬ y = 0) (hv : x / y = v) (kk : V E M q Z k n ws ls (.int v :: st) pc') : V E M q Z k n ws ls (.int y :: .int x :: st) pc := by
  subst hp; subst hv
  exact fun H locs lv hP hD hS hl => lv_idiv C.1 C.2.1 d hy (kk H locs lv hP hD hS hl)
theorem mr_ladd (C : CX E M q Z) {x y : Int64} (v : Int64) (pc' : Nat) (d : decode M.2.1 pc = .ok (.ladd, 1)) (hp : pc + 1 = pc') (hv : x + y = v) (kk : V E M q Z k n ws ls (.long v :: st) pc') : V E M q Z k n ws ls (.long y :: .long x :: st) pc := by
  subst hp; subst hv
  exact fun H locs lv hP hD hS hl => lv_ladd C.1 C.2.1 d (kk H locs lv hP hD hS hl)
theorem mr_land (C : CX E M q Z) {x y : Int64} (v : Int64) (pc' : Nat) (d : decode M.2.1 pc = .ok (.land, 1)) (hp : pc + 1 = pc') (hv : x &&& y = v) (kk : V E M q Z k n ws ls (.long v :: st) pc') : V E M q Z k n ws ls (.long y :: .long x :: st) pc := by
  subst hp; subst hv
  exact fun H locs lv hP hD hS hl => lv_land C.1 C.2.1 d (kk H locs lv hP hD hS hl)
theorem mr_lor (C : CX E M q Z) {x y : Int64} (v : Int64) (pc' : Nat) (d : decode M.2.1 pc = .ok (.lor, 1)) (hp : pc + 1 = pc') (hv : x ||| y = v) (kk : V E M q Z k n ws ls (.long v :: st) pc') : V E M q Z k n ws ls (.long y :: .long x :: st) pc := by
  subst hp; subst hv
  exact fun H locs lv hP hD hS hl => lv_lor C.1 C.2.1 d (kk H locs lv hP hD hS hl)
theorem mr_lshl (C : CX E M q Z) {x : Int64} {y : Int32} (v : Int64) (pc' : Nat) (d : decode M.2.1 pc = .ok (.lshl, 1)) (hp : pc + 1 = pc') (hv : x <<< (y.toInt64 &&& 63) = v) (kk : V E M q Z k n ws ls (.long v :: st) pc') : V E M q Z k n ws ls (.int y :: .long x :: st) pc := by
  subst hp
  exact fun H locs lv hP hD hS hl => lv_lshl C.1 C.2.1 d hv (kk H locs lv hP hD hS hl)
theorem mr_lshr (C : CX E M q Z) {x : Int64} {y : Int32} (v : Int64) (pc' : Nat) (d : decode M.2.1 pc = .ok (.lshr, 1)) (hp : pc + 1 = pc') (hv : x >>> (y.toInt64 &&& 63) = v) (kk : V E M q Z k n ws ls (.long v :: st) pc') : V E M q Z k n ws ls (.int y :: .long x :: st) pc := by
  subst hp
  exact fun H locs lv hP hD hS hl => lv_lshr C.1 C.2.1 d hv (kk H locs lv hP hD hS hl)
theorem mr_lushr (C : CX E M q Z) {x : Int64} {y : Int32} (v : Int64) (pc' : Nat) (d : decode M.2.1 pc = .ok (.lushr, 1)) (hp : pc + 1 = pc') (hv : (x.toUInt64 >>> (y.toInt64.toUInt64 &&& Int64.toUInt64 63)).toInt64 = v) (kk : V E M q Z k n ws ls (.long v :: st) pc') : V E M q Z k n ws ls (.int y :: .long x :: st) pc := by
  subst hp
  exact fun H locs lv hP hD hS hl => lv_lushr C.1 C.2.1 d hv (kk H locs lv hP hD hS hl)
theorem mr_ineg (C : CX E M q Z) {x : Int32} (pc' : Nat) (d : decode M.2.1 pc = .ok (.ineg, 1)) (hp : pc + 1 = pc')  (kk : V E M q Z k n ws ls (.int (-x) :: st) pc') : V E M q Z k n ws ls (.int x :: st) pc := by
  subst hp
  exact fun H locs lv hP hD hS hl => lv_ineg C.1 C.2.1 d  (kk H locs lv hP hD hS hl)
theorem mr_i2l (C : CX E M q Z) {x : Int32} (v : Int64) (pc' : Nat) (d : decode M.2.1 pc = .ok (.i2l, 1)) (hp : pc + 1 = pc') (hv : x.toInt64 = v) (kk : V E M q Z k n ws ls (.long v :: st) pc') : V E M q Z k n ws ls (.int x :: st) pc := by
  subst hp
  exact fun H locs lv hP hD hS hl => lv_i2l C.1 C.2.1 d hv (kk H locs lv hP hD hS hl)
theorem mr_l2i (C : CX E M q Z) {x : Int64} (v : Int32) (pc' : Nat) (d : decode M.2.1 pc = .ok (.l2i, 1)) (hp : pc + 1 = pc') (hv : x.toInt32 = v) (kk : V E M q Z k n ws ls (.int v :: st) pc') : V E M q Z k n ws ls (.long x :: st) pc := by
  subst hp
  exact fun H locs lv hP hD hS hl => lv_l2i C.1 C.2.1 d hv (kk H locs lv hP hD hS hl)
theorem mr_i2b (C : CX E M q Z) {x : Int32} (v : Int32) (pc' : Nat) (d : decode M.2.1 pc = .ok (.i2b, 1)) (hp : pc + 1 = pc') (hv : x.toInt8.toInt32 = v) (kk : V E M q Z k n ws ls (.int v :: st) pc') : V E M q Z k n ws ls (.int x :: st) pc := by
  subst hp
  exact fun H locs lv hP hD hS hl => lv_i2b C.1 C.2.1 d hv (kk H locs lv hP hD hS hl)
theorem mr_i2s (C : CX E M q Z) {x : Int32} (v : Int32) (pc' : Nat) (d : decode M.2.1 pc = .ok (.i2s, 1)) (hp : pc + 1 = pc') (hv : x.toInt16.toInt32 = v) (kk : V E M q Z k n ws ls (.int v :: st) pc') : V E M q Z k n ws ls (.int x :: st) pc := by
  subst hp
  exact fun H locs lv hP hD hS hl => lv_i2s C.1 C.2.1 d hv (kk H locs lv hP hD hS hl)
theorem mr_dup (C : CX E M q Z) {va : Value} (pc' : Nat) (d : decode M.2.1 pc = .ok (.dup, 1)) (hp : pc + 1 = pc') (h1 : va.category = 1) (kk : V E M q Z k n ws ls (va :: va :: st) pc') : V E M q Z k n ws ls (va :: st) pc := by
  subst hp
  exact fun H locs lv hP hD hS hl => lv_dup C.1 C.2.1 d h1 (kk H locs lv hP hD hS hl)
theorem mr_pop (C : CX E M q Z) {va : Value} (pc' : Nat) (d : decode M.2.1 pc = .ok (.pop, 1)) (hp : pc + 1 = pc') (h1 : va.category = 1) (kk : V E M q Z k n ws ls st pc') : V E M q Z k n ws ls (va :: st) pc := by
  subst hp
  exact fun H locs lv hP hD hS hl => lv_pop C.1 C.2.1 d h1 (kk H locs lv hP hD hS hl)
theorem mr_dup2 (C : CX E M q Z) {va vb : Value} (pc' : Nat) (d : decode M.2.1 pc = .ok (.dup2, 1)) (hp : pc + 1 = pc') (h1 : va.category = 1) (h2 : vb.category = 1) (kk : V E M q Z k n ws ls (va :: vb :: va :: vb :: st) pc') : V E M q Z k n ws ls (va :: vb :: st) pc := by
  subst hp
  exact fun H locs lv hP hD hS hl => lv_dup2_11 C.1 C.2.1 d h1 h2 (kk H locs lv hP hD hS hl)
theorem mr_dup_x1 (C : CX E M q Z) {va vb : Value} (pc' : Nat) (d : decode M.2.1 pc = .ok (.dup_x1, 1)) (hp : pc + 1 = pc') (h1 : va.category = 1) (h2 : vb.category = 1) (kk : V E M q Z k n ws ls (va :: vb :: va :: st) pc') : V E M q Z k n ws ls (va :: vb :: st) pc := by
  subst hp
  exact fun H locs lv hP hD hS hl => lv_dup_x1 C.1 C.2.1 d h1 h2 (kk H locs lv hP hD hS hl)
theorem mr_dup_x2 (C : CX E M q Z) {va vb vd : Value} (pc' : Nat) (d : decode M.2.1 pc = .ok (.dup_x2, 1)) (hp : pc + 1 = pc') (h1 : va.category = 1) (h2 : vb.category = 1) (h3 : vd.category = 1) (kk : V E M q Z k n ws ls (va :: vb :: vd :: va :: st) pc') : V E M q Z k n ws ls (va :: vb :: vd :: st) pc := by
  subst hp
  exact fun H locs lv hP hD hS hl => lv_dup_x2 C.1 C.2.1 d h1 h2 h3 (kk H locs lv hP hD hS hl)
theorem mr_ifeq (C : CX E M q Z) {x : Int32} {off : Int} (tgt pc' : Nat) (d : decode M.2.1 pc = .ok (.ifCond .eq off, 3)) (ht : (pc : Int) + off = (tgt : Int)) (hp : pc + 3 = pc') (kt : x = 0 → V E M q Z k n ws ls st tgt) (kf : ¬ (x = 0) → V E M q Z k n ws ls st pc') : V E M q Z k n ws ls (.int x :: st) pc := by
  subst hp
  exact fun H locs lv hP hD hS hl => lv_if_eq C.1 C.2.1 d ht (fun h => kt h H locs lv hP hD hS hl) (fun h => kf h H locs lv hP hD hS hl)
theorem mr_icmpeq (C : CX E M q Z) {x y : Int32} {off : Int} (tgt pc' : Nat) (d : decode M.2.1 pc = .ok (.if_icmp .eq off, 3)) (ht : (pc : Int) + off = (tgt : Int)) (hp : pc + 3 = pc') (kt : x = y → V E M q Z k n ws ls st tgt) (kf : ¬ (x = y) → V E M q Z k n ws ls st pc') : V E M q Z k n ws ls (.int y :: .int x :: st) pc := by
  subst hp
  exact fun H locs lv hP hD hS hl => lv_icmp_eq C.1 C.2.1 d ht (fun h => kt h H locs lv hP hD hS hl) (fun h => kf h H locs lv hP hD hS hl)
theorem mr_ifne (C : CX E M q Z) {x : Int32} {off : Int} (tgt pc' : Nat) (d : decode M.2.1 pc = .ok (.ifCond .ne off, 3)) (ht : (pc : Int) + off = (tgt : Int)) (hp : pc + 3 = pc') (kt : x ≠ 0 → V E M q Z k n ws ls st tgt) (kf : x = 0 → V E M q Z k n ws ls st pc') : V E M q Z k n ws ls (.int x :: st) pc := by
  subst hp
  exact fun H locs lv hP hD hS hl => lv_if_ne C.1 C.2.1 d ht (fun h => kt h H locs lv hP hD hS hl) (fun h => kf h H locs lv hP hD hS hl)
theorem mr_icmpne (C : CX E M q Z) {x y : Int32} {off : Int} (tgt pc' : Nat) (d : decode M.2.1 pc = .ok (.if_icmp .ne off, 3)) (ht : (pc : Int) + off = (tgt : Int)) (hp : pc + 3 = pc') (kt : x ≠ y → V E M q Z k n ws ls st tgt) (kf : x = y → V E M q Z k n ws ls st pc') : V E M q Z k n ws ls (.int y :: .int x :: st) pc := by
  subst hp
  exact fun H locs lv hP hD hS hl => lv_icmp_ne C.1 C.2.1 d ht (fun h => kt h H locs lv hP hD hS hl) (fun h => kf h H locs lv hP hD hS hl)
theorem mr_iflt (C : CX E M q Z) {x : Int32} {off : Int} (tgt pc' : Nat) (d : decode M.2.1 pc = .ok (.ifCond .lt off, 3)) (ht : (pc : Int) + off = (tgt : Int)) (hp : pc + 3 = pc') (kt : x < 0 → V E M q Z k n ws ls st tgt) (kf : ¬ (x < 0) → V E M q Z k n ws ls st pc') : V E M q Z k n ws ls (.int x :: st) pc := by
  subst hp
  exact fun H locs lv hP hD hS hl => lv_if_lt C.1 C.2.1 d ht (fun h => kt h H locs lv hP hD hS hl) (fun h => kf h H locs lv hP hD hS hl)
theorem mr_icmplt (C : CX E M q Z) {x y : Int32} {off : Int} (tgt pc' : Nat) (d : decode M.2.1 pc = .ok (.if_icmp .lt off, 3)) (ht : (pc : Int) + off = (tgt : Int)) (hp : pc + 3 = pc') (kt : x < y → V E M q Z k n ws ls st tgt) (kf : ¬ (x < y) → V E M q Z k n ws ls st pc') : V E M q Z k n ws ls (.int y :: .int x :: st) pc := by
  subst hp
  exact fun H locs lv hP hD hS hl => lv_icmp_lt C.1 C.2.1 d ht (fun h => kt h H locs lv hP hD hS hl) (fun h => kf h H locs lv hP hD hS hl)
theorem mr_ifge (C : CX E M q Z) {x : Int32} {off : Int} (tgt pc' : Nat) (d : decode M.2.1 pc = .ok (.ifCond .ge off, 3)) (ht : (pc : Int) + off = (tgt : Int)) (hp : pc + 3 = pc') (kt : 0 ≤ x → V E M q Z k n ws ls st tgt) (kf : ¬ (0 ≤ x) → V E M q Z k n ws ls st pc') : V E M q Z k n ws ls (.int x :: st) pc := by
  subst hp
  exact fun H locs lv hP hD hS hl => lv_if_ge C.1 C.2.1 d ht (fun h => kt h H locs lv hP hD hS hl) (fun h => kf h H locs lv hP hD hS hl)
theorem mr_icmpge (C : CX E M q Z) {x y : Int32} {off : Int} (tgt pc' : Nat) (d : decode M.2.1 pc = .ok (.if_icmp .ge off, 3)) (ht : (pc : Int) + off = (tgt : Int)) (hp : pc + 3 = pc') (kt : y ≤ x → V E M q Z k n ws ls st tgt) (kf : ¬ (y ≤ x) → V E M q Z k n ws ls st pc') : V E M q Z k n ws ls (.int y :: .int x :: st) pc := by
  subst hp
  exact fun H locs lv hP hD hS hl => lv_icmp_ge C.1 C.2.1 d ht (fun h => kt h H locs lv hP hD hS hl) (fun h => kf h H locs lv hP hD hS hl)
theorem mr_ifgt (C : CX E M q Z) {x : Int32} {off : Int} (tgt pc' : Nat) (d : decode M.2.1 pc = .ok (.ifCond .gt off, 3)) (ht : (pc : Int) + off = (tgt : Int)) (hp : pc + 3 = pc') (kt : 0 < x → V E M q Z k n ws ls st tgt) (kf : ¬ (0 < x) → V E M q Z k n ws ls st pc') : V E M q Z k n ws ls (.int x :: st) pc := by
  subst hp
  exact fun H locs lv hP hD hS hl => lv_if_gt C.1 C.2.1 d ht (fun h => kt h H locs lv hP hD hS hl) (fun h => kf h H locs lv hP hD hS hl)
theorem mr_icmpgt (C : CX E M q Z) {x y : Int32} {off : Int} (tgt pc' : Nat) (d : decode M.2.1 pc = .ok (.if_icmp .gt off, 3)) (ht : (pc : Int) + off = (tgt : Int)) (hp : pc + 3 = pc') (kt : y < x → V E M q Z k n ws ls st tgt) (kf : ¬ (y < x) → V E M q Z k n ws ls st pc') : V E M q Z k n ws ls (.int y :: .int x :: st) pc := by
  subst hp
  exact fun H locs lv hP hD hS hl => lv_icmp_gt C.1 C.2.1 d ht (fun h => kt h H locs lv hP hD hS hl) (fun h => kf h H locs lv hP hD hS hl)
theorem mr_ifle (C : CX E M q Z) {x : Int32} {off : Int} (tgt pc' : Nat) (d : decode M.2.1 pc = .ok (.ifCond .le off, 3)) (ht : (pc : Int) + off = (tgt : Int)) (hp : pc + 3 = pc') (kt : x ≤ 0 → V E M q Z k n ws ls st tgt) (kf : ¬ (x ≤ 0) → V E M q Z k n ws ls st pc') : V E M q Z k n ws ls (.int x :: st) pc := by
  subst hp
  exact fun H locs lv hP hD hS hl => lv_if_le C.1 C.2.1 d ht (fun h => kt h H locs lv hP hD hS hl) (fun h => kf h H locs lv hP hD hS hl)
theorem mr_icmple (C : CX E M q Z) {x y : Int32} {off : Int} (tgt pc' : Nat) (d : decode M.2.1 pc = .ok (.if_icmp .le off, 3)) (ht : (pc : Int) + off = (tgt : Int)) (hp : pc + 3 = pc') (kt : x ≤ y → V E M q Z k n ws ls st tgt) (kf : ¬ (x ≤ y) → V E M q Z k n ws ls st pc') : V E M q Z k n ws ls (.int y :: .int x :: st) pc := by
  subst hp
  exact fun H locs lv hP hD hS hl => lv_icmp_le C.1 C.2.1 d ht (fun h => kt h H locs lv hP hD hS hl) (fun h => kf h H locs lv hP hD hS hl)
theorem mr_goto (C : CX E M q Z) {off : Int} (tgt : Nat) (d : decode M.2.1 pc = .ok (.goto off, 3)) (ht : (pc : Int) + off = (tgt : Int)) (kk : V E M q Z k n ws ls st tgt) : V E M q Z k n ws ls st pc := fun H locs lv hP hD hS hl => lv_goto C.1 C.2.1 d ht (kk H locs lv hP hD hS hl)
theorem mr_iinc (C : CX E M q Z) {i : Nat} {z : Int} {x : Int32} (v : Int32) (pc' : Nat) (d : decode M.2.1 pc = .ok (.iinc i z, 3)) (hp : pc + 3 = pc') (hl0 : ls.lookup i = some (.int x)) (hb : i < M.2.2.1) (hv : x + Int32.ofInt z = v) (kk : V E M q Z k n ws ((i, .int v) :: ls.filter (fun q => !(q.1 == i) && !(q.1 + 1 == i && q.2.category == 2))) st pc') : V E M q Z k n ws ls st pc := by
  subst hp
  intro H locs lv hP hD hS hl
  obtain ⟨j, hj⟩ := List.getElem?_of_mem (lk_mem hl0)
  exact lv_iinc C.1 C.2.1 d hl (k := j) hj hv hb rfl (fun lv hl => kk H locs lv hP hD hS hl)
end ROWS
