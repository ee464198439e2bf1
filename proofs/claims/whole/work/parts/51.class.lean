/-! the class' whole world -/
theorem wput_id : ∀ {is : List Nat} {ws wc : va_W}, CUT ws is wc → wput ws is wc = ws
  | [], ws, wc, h => by
    have h2 : wc.map some = ([] : List (Option (Nat × va_E))) := h.symm
    obtain rfl : wc = [] := by simpa using h2
    unfold wput; exact List.append_nil _
  | i :: is, ws, [], h => by
    have h2 : (ws[i]? :: is.map (fun i => ws[i]?)) = ([] : List (Option (Nat × va_E))) := h
    cases h2
  | i :: is, ws, c :: wc, h => by
    have h1 : ws[i]? = some c := (List.cons.inj h).1
    have h2 : is.map (fun i => ws[i]?) = wc.map some := (List.cons.inj h).2
    have e : ws.set i c = ws := by
      apply List.ext_getElem?
      intro j
      by_cases k : i = j
      · subst k
        rw [List.getElem?_set_self (List.getElem?_eq_some_iff.mp h1).1, h1]
      · rw [List.getElem?_set_ne k]
    show wput (ws.set i c) is wc = ws
    rw [e]
    exact wput_id h2
theorem tI_n {n : Nat} (h : n < 2 ^ 31) : (nI n).toInt = n := nI_toInt h
theorem tI_lt {x : Int32} {n : Nat} (h : n < 2 ^ 31) : x < nI n ↔ x.toInt < n := by rw [Int32.lt_iff_toInt_lt, tI_n h]
theorem tI_le {x : Int32} {n : Nat} (h : n < 2 ^ 31) : x ≤ nI n ↔ x.toInt ≤ n := by rw [Int32.le_iff_toInt_le, tI_n h]
theorem tI_gt {x : Int32} {n : Nat} (h : n < 2 ^ 31) : nI n < x ↔ (n : Int) < x.toInt := by rw [Int32.lt_iff_toInt_lt, tI_n h]
theorem tI_ge {x : Int32} {n : Nat} (h : n < 2 ^ 31) : nI n ≤ x ↔ (n : Int) ≤ x.toInt := by rw [Int32.le_iff_toInt_le, tI_n h]
theorem tI_eq {x : Int32} {n : Nat} (h : n < 2 ^ 31) : x = nI n ↔ x.toInt = n := by rw [← Int32.toInt_inj, tI_n h]
theorem tI_lt0 {x : Int32} : x < 0 ↔ x.toInt < 0 := Int32.lt_iff_toInt_lt
theorem tI_le0 {x : Int32} : x ≤ 0 ↔ x.toInt ≤ 0 := Int32.le_iff_toInt_le
theorem tI_gt0 {x : Int32} : 0 < x ↔ 0 < x.toInt := Int32.lt_iff_toInt_lt
theorem tI_ge0 {x : Int32} : 0 ≤ x ↔ 0 ≤ x.toInt := Int32.le_iff_toInt_le
theorem tI_eq0 {x : Int32} : x = 0 ↔ x.toInt = 0 := by rw [← Int32.toInt_inj]; rfl
theorem tI_m1 {x : Int32} : x = -1 ↔ x.toInt = -1 := by rw [← Int32.toInt_inj]; rfl
theorem tI_xx {x y : Int32} : x = y ↔ x.toInt = y.toInt := Int32.toInt_inj.symm
theorem tI_of {x : Int32} {n : Nat} (h0 : 0 ≤ x.toInt) (h : x.toInt < n) : ∃ k, k < n ∧ x = nI k := by
  obtain ⟨j, hj, rfl⟩ := nI_of (x := x) (fun h => by have := Int32.lt_iff_toInt_lt.mp h; have e : (0 : Int32).toInt = 0 := rfl; omega)
  rw [tI_n hj] at h
  exact ⟨j, by omega, rfl⟩
/-- the class' own object -/
def w0 (E : EG) (a : Nat → Nat) (fn fd : Int32) : va_W := [(a 0, .inr (7, [.ref (a 1), .ref (a 18), .ref (a 20), .ref (a 31), .ref (a 41), .ref (a 62), .ref (a 64), .ref (a 77), .int fn, .int fd]))]
def rwA (a : Nat → Nat) : Nat → Option Nat := fun k => if k < 8 then some (a (2 + 2 * k)) else none
def imA (a : Nat → Nat) : Nat → Option Nat := fun k => if k < 2 then some (a (42 + 10 * k)) else none
def wRS (E : EG) (a : Nat → Nat) (it : Nat → FN) (th ln sz : FN) : va_W := [(a 2, .inr (5, [.ref (a 3), .int (th 0), .int (ln 0), .int (sz 0)])), (a 3, iA E 40 (it 0)), (a 4, .inr (5, [.ref (a 5), .int (th 1), .int (ln 1), .int (sz 1)])), (a 5, iA E 40 (it 1)), (a 6, .inr (5, [.ref (a 7), .int (th 2), .int (ln 2), .int (sz 2)])), (a 7, iA E 40 (it 2)), (a 8, .inr (5, [.ref (a 9), .int (th 3), .int (ln 3), .int (sz 3)])), (a 9, iA E 40 (it 3)), (a 10, .inr (5, [.ref (a 11), .int (th 4), .int (ln 4), .int (sz 4)])), (a 11, iA E 40 (it 4)), (a 12, .inr (5, [.ref (a 13), .int (th 5), .int (ln 5), .int (sz 5)])), (a 13, iA E 40 (it 5)), (a 14, .inr (5, [.ref (a 15), .int (th 6), .int (ln 6), .int (sz 6)])), (a 15, iA E 40 (it 6)), (a 16, .inr (5, [.ref (a 17), .int (th 7), .int (ln 7), .int (sz 7)])), (a 17, iA E 40 (it 7))]
def wX (E : EG) (a : Nat → Nat) (fn fd : Int32) (it : Nat → FN) (th ln sz t : FN) (S : Nat) (tI rI : FN) (pF : Nat → FN) (pI se sn be so lo he n1 n2 n3 : FN) (R K G : Nat) (iF : Nat → Nat → FN) (iR iK iG : Nat → Nat) (iu ig kp : FN) (h x : Nat) (uI : FN) (cF : Nat → FN) (cI : FN) (cg : Nat) (fi sr : FN) (s : TRC) : va_W := jn [w0 E a fn fd, [(a 1, .inl (E.1.1 101, 8, .inr (.inr (.inr (.inr (rwA a))))))], wRS E a it th ln sz, wT E a 18 t (nI S) (tI 0) (tI 1) (tI 2) (tI 3), [(a 20, .inr (4, [.ref (a 18), .ref (a 21), .int (rI 0), .int (rI 1), .int (rI 2)]))], wH E a 21 (pF 0) (pF 1) (pF 2) (pF 3) (pF 4) (pF 5) (pF 6) (pF 7) (pF 8) (pI 0) (pI 1) (pI 2) (pI 3) (pI 4), wH E a 31 se sn be so lo he n1 n2 n3 (nI R) (nI K) (nI G) (nI 0) (nI 0), [(a 41, .inl (E.1.1 102, 2, .inr (.inr (.inr (.inr (imA a))))))], wH E a 42 (iF 0 0) (iF 0 1) (iF 0 2) (iF 0 3) (iF 0 4) (iF 0 5) (iF 0 6) (iF 0 7) (iF 0 8) (nI (iR 0)) (nI (iK 0)) (nI (iG 0)) (iu 0) (ig 0), wH E a 52 (iF 1 0) (iF 1 1) (iF 1 2) (iF 1 3) (iF 1 4) (iF 1 5) (iF 1 6) (iF 1 7) (iF 1 8) (nI (iR 1)) (nI (iK 1)) (nI (iG 1)) (iu 1) (ig 1), wA E a 62 kp (nI h) (nI x), wF E a 64 31 65 75 (uI 0) (uI 1) (uI 2), wH E a 65 (cF 0) (cF 1) (cF 2) (cF 3) (cF 4) (cF 5) (cF 6) (cF 7) (cF 8) (cI 0) (cI 1) (cI 2) (cI 3) (nI cg), [(a 75, iA E 5 fi), (a 76, iA E 5 sr)], wQ E a 77 31 s]

def cutR (r : Nat) : List Nat := [2 + 2 * r, 2 + 2 * r + 1]
theorem wX_row (E : EG) (a : Nat → Nat) (fn fd : Int32) (it : Nat → FN) (th ln sz t : FN) (S : Nat) (tI rI : FN) (pF : Nat → FN) (pI se sn be so lo he n1 n2 n3 : FN) (R K G : Nat) (iF : Nat → Nat → FN) (iR iK iG : Nat → Nat) (iu ig kp : FN) (h x : Nat) (uI : FN) (cF : Nat → FN) (cI : FN) (cg : Nat) (fi sr : FN) (s : TRC) (r : Nat) (hr : r < 8) : (wX E a fn fd it th ln sz t S tI rI pF pI se sn be so lo he n1 n2 n3 R K G iF iR iK iG iu ig kp h x uI cF cI cg fi sr s)[2 + 2 * r]? = some (a (2 + 2 * r), .inr (5, [.ref (a (2 + 2 * r + 1)), .int (th r), .int (ln r), .int (sz r)])) ∧ (wX E a fn fd it th ln sz t S tI rI pF pI se sn be so lo he n1 n2 n3 R K G iF iR iK iG iu ig kp h x uI cF cI cg fi sr s)[2 + 2 * r + 1]? = some (a (2 + 2 * r + 1), iA E 40 (it r)) := by
  have h : r = 0 ∨ r = 1 ∨ r = 2 ∨ r = 3 ∨ r = 4 ∨ r = 5 ∨ r = 6 ∨ r = 7 := by omega
  rcases h with rfl | rfl | rfl | rfl | rfl | rfl | rfl | rfl <;> exact ⟨rfl, rfl⟩
theorem wX_cutR (E : EG) (a : Nat → Nat) (fn fd : Int32) (it : Nat → FN) (th ln sz t : FN) (S : Nat) (tI rI : FN) (pF : Nat → FN) (pI se sn be so lo he n1 n2 n3 : FN) (R K G : Nat) (iF : Nat → Nat → FN) (iR iK iG : Nat → Nat) (iu ig kp : FN) (h x : Nat) (uI : FN) (cF : Nat → FN) (cI : FN) (cg : Nat) (fi sr : FN) (s : TRC) (r : Nat) (hr : r < 8) : CUT (wX E a fn fd it th ln sz t S tI rI pF pI se sn be so lo he n1 n2 n3 R K G iF iR iK iG iu ig kp h x uI cF cI cg fi sr s) (cutR r) (wR E a (2 + 2 * r) (it r) (th r) (ln r) (sz r)) := by
  obtain ⟨e1, e2⟩ := wX_row E a fn fd it th ln sz t S tI rI pF pI se sn be so lo he n1 n2 n3 R K G iF iR iK iG iu ig kp h x uI cF cI cg fi sr s r hr
  exact congr (congrArg List.cons e1) (congrArg (fun z => [z]) e2)
theorem cutR_nd (r : Nat) : va_nd (cutR r) = true := by
  unfold cutR va_nd va_nd va_nd
  simp
theorem wX_setR (E : EG) (a : Nat → Nat) (fn fd : Int32) (it : Nat → FN) (th ln sz t : FN) (S : Nat) (tI rI : FN) (pF : Nat → FN) (pI se sn be so lo he n1 n2 n3 : FN) (R K G : Nat) (iF : Nat → Nat → FN) (iR iK iG : Nat → Nat) (iu ig kp : FN) (h x : Nat) (uI : FN) (cF : Nat → FN) (cI : FN) (cg : Nat) (fi sr : FN) (s : TRC) (r : Nat) (hr : r < 8) (f : FN) (y0 y z : Int32) : wput (wX E a fn fd it th ln sz t S tI rI pF pI se sn be so lo he n1 n2 n3 R K G iF iR iK iG iu ig kp h x uI cF cI cg fi sr s) (cutR r) (wR E a (2 + 2 * r) f y0 y z) = wX E a fn fd (va_up it r f) (va_up th r y0) (va_up ln r y) (va_up sz r z) t S tI rI pF pI se sn be so lo he n1 n2 n3 R K G iF iR iK iG iu ig kp h x uI cF cI cg fi sr s := by
  have h : r = 0 ∨ r = 1 ∨ r = 2 ∨ r = 3 ∨ r = 4 ∨ r = 5 ∨ r = 6 ∨ r = 7 := by omega
  rcases h with rfl | rfl | rfl | rfl | rfl | rfl | rfl | rfl <;> rfl
theorem wX_setF (E : EG) (a : Nat → Nat) (fn fd : Int32) (it : Nat → FN) (th ln sz t : FN) (S : Nat) (tI rI : FN) (pF : Nat → FN) (pI se sn be so lo he n1 n2 n3 : FN) (R K G : Nat) (iF : Nat → Nat → FN) (iR iK iG : Nat → Nat) (iu ig kp : FN) (h x : Nat) (uI : FN) (cF : Nat → FN) (cI : FN) (cg : Nat) (fi sr : FN) (s : TRC) (r : Nat) (hr : r < 8) (y0 : Int32) : (wX E a fn fd it th ln sz t S tI rI pF pI se sn be so lo he n1 n2 n3 R K G iF iR iK iG iu ig kp h x uI cF cI cg fi sr s).set (2 + 2 * r) (a (2 + 2 * r), .inr (5, [.ref (a (2 + 2 * r + 1)), .int y0, .int (ln r), .int (sz r)])) = wX E a fn fd it (va_up th r y0) ln sz t S tI rI pF pI se sn be so lo he n1 n2 n3 R K G iF iR iK iG iu ig kp h x uI cF cI cg fi sr s := by
  have h : r = 0 ∨ r = 1 ∨ r = 2 ∨ r = 3 ∨ r = 4 ∨ r = 5 ∨ r = 6 ∨ r = 7 := by omega
  rcases h with rfl | rfl | rfl | rfl | rfl | rfl | rfl | rfl <;> rfl
theorem wX_setI (E : EG) (a : Nat → Nat) (fn fd : Int32) (it : Nat → FN) (th ln sz t : FN) (S : Nat) (tI rI : FN) (pF : Nat → FN) (pI se sn be so lo he n1 n2 n3 : FN) (R K G : Nat) (iF : Nat → Nat → FN) (iR iK iG : Nat → Nat) (iu ig kp : FN) (h x : Nat) (uI : FN) (cF : Nat → FN) (cI : FN) (cg : Nat) (fi sr : FN) (s : TRC) (r : Nat) (hr : r < 8) (f : FN) : (wX E a fn fd it th ln sz t S tI rI pF pI se sn be so lo he n1 n2 n3 R K G iF iR iK iG iu ig kp h x uI cF cI cg fi sr s).set (2 + 2 * r + 1) (a (2 + 2 * r + 1), iA E 40 f) = wX E a fn fd (va_up it r f) th ln sz t S tI rI pF pI se sn be so lo he n1 n2 n3 R K G iF iR iK iG iu ig kp h x uI cF cI cg fi sr s := by
  have h : r = 0 ∨ r = 1 ∨ r = 2 ∨ r = 3 ∨ r = 4 ∨ r = 5 ∨ r = 6 ∨ r = 7 := by omega
  rcases h with rfl | rfl | rfl | rfl | rfl | rfl | rfl | rfl <;> rfl
theorem vu_id {α : Type} (f : Nat → α) (k : Nat) : va_up f k (f k) = f := by
  funext j
  unfold va_up
  split
  · rename_i h; rw [h]
  · rfl
theorem vu_s {α : Type} {f : Nat → α} {k : Nat} {x : α} : va_up f k x k = x := if_pos rfl
theorem vu_n {α : Type} {f : Nat → α} {k j : Nat} {x : α} (h : j ≠ k) : va_up f k x j = f j := if_neg h
/-- short functions -/
def f3 {α : Type} (x y z : α) : Nat → α := fun i => match i with | 0 => x | 1 => y | _ => z
def f4 {α : Type} (x y z u : α) : Nat → α := fun i => match i with | 0 => x | 1 => y | 2 => z | _ => u
def f5 {α : Type} (x y z u v : α) : Nat → α := fun i => match i with | 0 => x | 1 => y | 2 => z | 3 => u | _ => v
def f9 {α : Type} (x y z u v p q r s : α) : Nat → α := fun i => match i with | 0 => x | 1 => y | 2 => z | 3 => u | 4 => v | 5 => p | 6 => q | 7 => r | _ => s
theorem AnyH.fn {E : EG} {a : Nat → Nat} {b : Nat} {w : va_W} (h : AnyH E a b w) : ∃ (cF : Nat → FN) (cI : FN) (cg : Nat), cg < 6 ∧ w = wH E a b (cF 0) (cF 1) (cF 2) (cF 3) (cF 4) (cF 5) (cF 6) (cF 7) (cF 8) (cI 0) (cI 1) (cI 2) (cI 3) (nI cg) := by
  obtain ⟨se, sn, be, so, lo, he, f1, f2, f3_, ro, cr, gn, gu, g, hg, rfl⟩ := h
  exact ⟨f9 se sn be so lo he f1 f2 f3_, f4 ro cr gn gu, g, hg, rfl⟩
/-- a number as it is counted -/
def iN (x : Int32) : Nat := x.toNatClampNeg
theorem iN_n {n : Nat} (h : n < 2 ^ 31) : iN (nI n) = n := nI_clamp h
def lN_ (lo : FN) : Nat → Nat := fun c => iN (lo c)
theorem c_isRoomI (E : EG) (a : Nat → Nat) (b : Nat) (se sn be so lo he inn al go : FN) (cr gn gu gr : Int32) (R : Nat) (hR : R < 2 ^ 31) (x : Int32) : Ctr E mX3_isRoom (1, 0, 0) [.ref (a b), .int x] (wH E a b se sn be so lo he inn al go (nI R) cr gn gu gr) (fun v w => v = some (.int (bI (0 ≤ x.toInt ∧ x.toInt < R))) ∧ w = wH E a b se sn be so lo he inn al go (nI R) cr gn gu gr) := by
  refine Ctr.imp (c_isRoom E a b se sn be so lo he inn al go (nI R) cr gn gu gr x) ?_
  rintro v w ⟨rfl, rfl⟩
  exact ⟨congrArg (fun z => some (Value.int z)) (bI_cong (by rw [tI_lt0, tI_lt hR, Int.not_lt])), rfl⟩
theorem c_isCrowdI (E : EG) (a : Nat → Nat) (b : Nat) (se sn be so lo he inn al go : FN) (ro gn gu gr : Int32) (K : Nat) (hK : K < 2 ^ 31) (x : Int32) : Ctr E mX3_isCrowd (1, 0, 0) [.ref (a b), .int x] (wH E a b se sn be so lo he inn al go ro (nI K) gn gu gr) (fun v w => v = some (.int (bI (0 ≤ x.toInt ∧ x.toInt < K))) ∧ w = wH E a b se sn be so lo he inn al go ro (nI K) gn gu gr) := by
  refine Ctr.imp (c_isCrowd E a b se sn be so lo he inn al go ro (nI K) gn gu gr x) ?_
  rintro v w ⟨rfl, rfl⟩
  exact ⟨congrArg (fun z => some (Value.int z)) (bI_cong (by rw [tI_lt0, tI_lt hK, Int.not_lt])), rfl⟩
