/-! the reference: its world -/
def wM (E : EG) (a : Nat → Nat) (tn : Int32) (st : Int32) (la : FN) (mn : FN) (im : FN) (ho : FN) (fr : FN) (wa : FN) (ac : Int32) (tp : FN) (td : Int32) (lt : Int32) (lg : Int32) (cu : Int32) (tk : Int32) (sr : Int32) (tl : Int32) (fa : Int32) (fp : Int32) (wh : FN) (go : FN) (se : FN) (no : FN) (al : FN) (be : FN) (gn : Int32) (gi : Int32) (gm : Int32) (ik : FN) (ke : FN) (tc : FN) (tr : Int32) : va_W := [(a 0, .inr (8, [.int tn, .int st, .ref (a 1), .ref (a 2), .ref (a 3), .ref (a 4), .ref (a 5), .ref (a 6), .int ac, .ref (a 7), .int td, .int lt, .int lg, .int cu, .int tk, .int sr, .int tl, .int fa, .int fp, .ref (a 8), .ref (a 9), .ref (a 10), .ref (a 11), .ref (a 12), .ref (a 13), .int gn, .int gi, .int gm, .ref (a 14), .ref (a 15), .ref (a 16), .int tr])), (a 1, iA E 8 la), (a 2, iA E 8 mn), (a 3, iA E 320 im), (a 4, iA E 37 ho), (a 5, iA E 37 fr), (a 6, iA E 888 wa), (a 7, iA E 400 tp), (a 8, iA E 5 wh), (a 9, iA E 5 go), (a 10, iA E 6 se), (a 11, iA E 6 no), (a 12, iA E 6 al), (a 13, iA E 6 be), (a 14, .inl (E.1.1 103, 2, .inl ik)), (a 15, iA E 74 ke), (a 16, iA E 16 tc)]
theorem tL (x : Int32) : x.toInt64.toInt = x.toInt := Int32.toInt_toInt64 x
theorem lcmp_c (x y : Int64) : lg_cmp x y = if y.toInt < x.toInt then 1 else if x.toInt = y.toInt then 0 else -1 := by
  simp only [lg_cmp, GT.gt, Int64.lt_iff_toInt_lt, ← Int64.toInt_inj]
theorem lcmp_lt (x y : Int64) : lg_cmp x y < 0 ↔ x.toInt < y.toInt := by
  rw [lcmp_c]
  split
  · exact ⟨fun k => absurd k (by decide), fun k => by omega⟩
  · split
    · exact ⟨fun k => absurd k (by decide), fun k => by omega⟩
    · exact ⟨fun _ => by omega, fun _ => by decide⟩
theorem lcmp_gt (x y : Int64) : 0 < lg_cmp x y ↔ y.toInt < x.toInt := by
  rw [lcmp_c]
  split
  · exact ⟨fun _ => by omega, fun _ => by decide⟩
  · split
    · exact ⟨fun k => absurd k (by decide), fun k => by omega⟩
    · exact ⟨fun k => absurd k (by decide), fun k => by omega⟩
theorem lcmp_le (x y : Int64) : lg_cmp x y ≤ 0 ↔ x.toInt ≤ y.toInt := by
  rw [← Int32.not_lt, lcmp_gt, Int.not_lt]
theorem lcmp_0 (x y : Int64) : lg_cmp x y = 0 ↔ x = y := by
  rw [lcmp_c, ← Int64.toInt_inj]
  split
  · exact ⟨fun k => absurd k (by decide), fun k => by omega⟩
  · split
    · exact ⟨fun _ => by omega, fun _ => rfl⟩
    · exact ⟨fun k => absurd k (by decide), fun k => by omega⟩
theorem mr_iale {E : EG} {M : MD} {q : RQ} {Z : ZX} {k n pc : Nat} {ws : va_W} {ls : List (Nat × Value)} {st : List Value} {a : Nat} (C : CX E M q Z) (q0 j : Nat) (v : Int32) {N : Nat} {f : Nat → Int32} {x : Int32} (pc' : Nat) (d : decode M.2.1 pc = .ok (.iaload, 1)) (hp : pc + 1 = pc') (he : ws[q0]? = some (a, .inl (E.1.1 100, N, .inl f))) (hx : x = nI j) (hj : j < N) (hN : N < 2 ^ 31) (hv : f j = v) (kk : V E M q Z k n ws ls (.int v :: st) pc') : V E M q Z k n ws ls (.int x :: .ref a :: st) pc := by
  subst hv
  exact mr_iald C q0 j pc' d hp he hx hj hN kk
/-- the house that the reference holds -/
def RH (ho : FN) (R K G : Nat) (se sn be so lo he : FN) : Prop :=
  ho 0 = nI R ∧ ho 2 = nI K ∧ ho 3 = nI G ∧ (∀ r, r < R → ho (4 + r) = se r ∧ ho (10 + r) = sn r ∧ ho (16 + r) = be r) ∧ (∀ r, R ≤ r → r < 6 → ho (10 + r) = nI 0) ∧ ∀ c, c < K → ho (22 + 3 * c) = so c ∧ ho (22 + 3 * c + 1) = lo c ∧ ho (22 + 3 * c + 2) = he c
