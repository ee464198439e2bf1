/-! worlds -/
abbrev FN : Type := Nat → Int32
/-- an int array of n places -/
abbrev iA (E : EG) (n : Nat) (f : FN) : va_E := .inl (E.1.1 100, n, .inl f)
/-- a House at b .. b+9: itself, seats, seen, before, sort, at (lo), heads, in, alike, goals -/
def wH (E : EG) (a : Nat → Nat) (b : Nat) (se sn be so lo he inn al go : FN) (ro cr gn gu gr : Int32) : va_W :=
  [(a b, .inr (3, [.ref (a (b + 1)), .ref (a (b + 2)), .ref (a (b + 3)), .ref (a (b + 4)), .ref (a (b + 5)), .ref (a (b + 6)), .int ro, .int cr, .int gn, .int gu, .int gr, .ref (a (b + 7)), .ref (a (b + 8)), .ref (a (b + 9))])),
   (a (b + 1), iA E 6 se), (a (b + 2), iA E 6 sn), (a (b + 3), iA E 6 be), (a (b + 4), iA E 5 so), (a (b + 5), iA E 5 lo), (a (b + 6), iA E 5 he), (a (b + 7), iA E 6 inn), (a (b + 8), iA E 6 al), (a (b + 9), iA E 5 go)]
/-- a Row at b, b+1 -/
def wR (E : EG) (a : Nat → Nat) (b : Nat) (it : FN) (th ln sz : Int32) : va_W := [(a b, .inr (5, [.ref (a (b + 1)), .int th, .int ln, .int sz])), (a (b + 1), iA E 40 it)]
/-- a Tape at b, b+1 -/
def wT (E : EG) (a : Nat → Nat) (b : Nat) (by_ : FN) (sz tk sr nx vl : Int32) : va_W := [(a b, .inr (6, [.ref (a (b + 1)), .int sz, .int tk, .int sr, .int nx, .int vl])), (a (b + 1), iA E 400 by_)]
/-- Acts at b, b+1 -/
def wA (E : EG) (a : Nat → Nat) (b : Nat) (kp : FN) (hd nx : Int32) : va_W := [(a b, .inr (0, [.ref (a (b + 1)), .int hd, .int nx])), (a (b + 1), iA E 552 kp)]
/-- two functions agree below n -/
def Ag {α : Type} (n : Nat) (f g : Nat → α) : Prop := ∀ j, j < n → f j = g j
def bI (p : Prop) [Decidable p] : Int32 := if p then 1 else 0
theorem bI_t {p : Prop} [Decidable p] (h : p) : nI 1 = bI p := by simp [bI, h]; rfl
theorem bI_f {p : Prop} [Decidable p] (h : ¬ p) : nI 0 = bI p := by simp [bI, h]; rfl
theorem bI_ne {p : Prop} [Decidable p] : bI p ≠ 0 ↔ p := by unfold bI; split <;> simp_all
theorem bI_eq {p : Prop} [Decidable p] : bI p = 0 ↔ ¬ p := by unfold bI; split <;> simp_all
theorem bI_cong {p q : Prop} [Decidable p] [Decidable q] (h : p ↔ q) : bI p = bI q := by unfold bI; simp only [h]
theorem bI_nar {p : Prop} [Decidable p] : narrow .boolean (.int (bI p)) = .int (bI p) := by unfold bI; split <;> rfl
theorem up_s {f : FN} {j : Nat} {x : Int32} : upd f j x j = x := pk_us
theorem up_n {f : FN} {i j : Nat} {x : Int32} (h : i ≠ j) : upd f j x i = f i := pk_un h
theorem up_at (f : FN) (j : Nat) (x : Int32) (i : Nat) : upd f j x i = if i = j then x else f i := rfl
theorem one_mul32 (x : Int32) : nI 1 * x = x := Int32.one_mul x
theorem neg_one_mul32 (x : Int32) : (-1) * x = - x := by first | (rw [Int32.neg_mul, Int32.one_mul]) | simp | grind
/-- a loop, counted up -/
theorem lp_up {P : Nat → Prop} (N : Nat) (hs : ∀ i, i ≤ N → (i < N → P (i + 1)) → P i) : ∀ i, i ≤ N → P i := by
  have key : ∀ d i, i + d = N → P i := by
    intro d
    induction d with
    | zero => intro i h; exact hs i (by omega) (fun h2 => absurd h2 (by omega))
    | succ d ih => intro i h; exact hs i (by omega) (fun _ => ih (i + 1) (by omega))
  exact fun i h => key (N - i) i (by omega)
theorem nn_01 : ¬ (nI 0 = nI 1) := by decide
theorem nn_02 : ¬ (nI 0 = nI 2) := by decide
theorem nn_03 : ¬ (nI 0 = nI 3) := by decide
theorem nn_04 : ¬ (nI 0 = nI 4) := by decide
theorem nn_05 : ¬ (nI 0 = nI 5) := by decide
theorem nn_10 : ¬ (nI 1 = nI 0) := by decide
theorem nn_12 : ¬ (nI 1 = nI 2) := by decide
theorem nn_13 : ¬ (nI 1 = nI 3) := by decide
theorem nn_14 : ¬ (nI 1 = nI 4) := by decide
theorem nn_15 : ¬ (nI 1 = nI 5) := by decide
theorem nn_20 : ¬ (nI 2 = nI 0) := by decide
theorem nn_21 : ¬ (nI 2 = nI 1) := by decide
theorem nn_23 : ¬ (nI 2 = nI 3) := by decide
theorem nn_24 : ¬ (nI 2 = nI 4) := by decide
theorem nn_25 : ¬ (nI 2 = nI 5) := by decide
theorem nn_30 : ¬ (nI 3 = nI 0) := by decide
theorem nn_31 : ¬ (nI 3 = nI 1) := by decide
theorem nn_32 : ¬ (nI 3 = nI 2) := by decide
theorem nn_34 : ¬ (nI 3 = nI 4) := by decide
theorem nn_35 : ¬ (nI 3 = nI 5) := by decide
theorem nn_40 : ¬ (nI 4 = nI 0) := by decide
theorem nn_41 : ¬ (nI 4 = nI 1) := by decide
theorem nn_42 : ¬ (nI 4 = nI 2) := by decide
theorem nn_43 : ¬ (nI 4 = nI 3) := by decide
theorem nn_45 : ¬ (nI 4 = nI 5) := by decide
theorem nn_50 : ¬ (nI 5 = nI 0) := by decide
theorem nn_51 : ¬ (nI 5 = nI 1) := by decide
theorem nn_52 : ¬ (nI 5 = nI 2) := by decide
theorem nn_53 : ¬ (nI 5 = nI 3) := by decide
theorem nn_54 : ¬ (nI 5 = nI 4) := by decide
/-- sums of heads -/
def sumH (lo he : FN) (r : Int32) : Nat → Int32
  | 0 => nI 0
  | c + 1 => if lo c = r then sumH lo he r c + he c else sumH lo he r c
def sumA (he : FN) : Nat → Int32
  | 0 => nI 0
  | c + 1 => sumA he c + he c
/-- how many are in each room: g at first, then the crowds one by one -/
def cntS (g : FN) (l : Nat → Nat) (h : FN) : Nat → FN
  | 0 => g
  | c + 1 => fun r => if r = l c then cntS g l h c r + h c else cntS g l h c r
theorem cntS_up {g h f : FN} {l : Nat → Nat} {c n : Nat} {y : Int32} (hf : Ag n f (cntS g l h c)) (hy : y = f (l c) + h c) (hl : l c < n) : Ag n (upd f (l c) y) (cntS g l h (c + 1)) := by
  intro r hr
  rw [up_at]
  show _ = if r = l c then _ else _
  by_cases e : r = l c
  · subst e; simp only [if_true]; rw [hy, hf _ hl]
  · simp only [e, if_false]; exact hf r hr
theorem cntS_0 {g h f : FN} {l : Nat → Nat} {c n : Nat} (hf : Ag n f (cntS g l h c)) (hy : h c = 0) : Ag n f (cntS g l h (c + 1)) := by
  intro r hr
  show _ = if r = l c then _ else _
  rw [hf r hr, hy]
  split <;> simp
def gst (gu : Int32) (gr : Nat) : FN := fun r => if r = gr then gu else nI 0
/-- heads of the like ones alone -/
def hLike (so he : FN) : FN := fun c => if so c = nI 2 then he c else 0
/-- what a kind goes by -/
def drawS (inn al be : FN) (gn : Nat) (k : Int32) : FN := fun r => if k = nI 2 then al r else if k = nI 3 ∧ 0 < gn then be r else if k = nI 5 then - inn r else inn r
def bestS (d : FN) (m : Int32) (own : Nat) : Nat → Nat
  | 0 => own
  | r + 1 => if (m >>> (nI r &&& 31)) &&& nI 1 = nI 1 ∧ d (bestS d m own r) < d r then r else bestS d m own r
theorem bestS_lt {d : FN} {m : Int32} {own : Nat} : ∀ r, own < 6 → r ≤ 6 → bestS d m own r < 6
  | 0, h, _ => h
  | r + 1, h, hr => by
    unfold bestS
    split
    · omega
    · exact bestS_lt r h (by omega)
/-- where a crowd goes -/
def goalS (d : FN) (m : Int32) (k : Int32) (own R : Nat) : Nat := if k = nI 4 then own else bestS d m own R
theorem goalS_lt {d : FN} {m k : Int32} {own R : Nat} (h : own < 6) (hR : R ≤ 6) : goalS d m k own R < 6 := by
  unfold goalS
  split
  · exact h
  · exact bestS_lt R h hR
theorem bestS_cong {d d' : FN} {m : Int32} {own : Nat} (h : Ag 6 d d') (ho : own < 6) : ∀ r, r ≤ 6 → bestS d m own r = bestS d' m own r
  | 0, _ => rfl
  | r + 1, hr => by
    unfold bestS
    rw [bestS_cong h ho r (by omega), h r (by omega), h _ (bestS_lt r ho (by omega))]
theorem drawS_ag {f f' g g' be : FN} {G : Nat} {k : Int32} (h1 : Ag 6 f f') (h2 : Ag 6 g g') : Ag 6 (drawS f g be G k) (drawS f' g' be G k) := by
  intro r hr
  unfold drawS
  rw [h1 r hr, h2 r hr]
/-- where crowd c goes at a bell -/
def goS (gu : Int32) (g R K G : Nat) (sn be so : FN) (l : Nat → Nat) (he : FN) (c : Nat) : Nat :=
  goalS (drawS (cntS (gst gu g) l he K) (cntS (fun _ => nI 0) l (hLike so he) K) be G (so c)) (sn (l c)) (so c) (l c) R
theorem goS_of {gu : Int32} {g R K G : Nat} {sn be so he f1 f2 : FN} {l : Nat → Nat} {c : Nat} (h1 : Ag 6 f1 (cntS (gst gu g) l he K)) (h2 : Ag 6 f2 (cntS (fun _ => nI 0) l (hLike so he) K)) (hl : l c < 6) (hR : R ≤ 6) :
    goalS (drawS f1 f2 be G (so c)) (sn (l c)) (so c) (l c) R = goS gu g R K G sn be so l he c := by
  unfold goS goalS
  rw [bestS_cong (drawS_ag h1 h2) hl R hR]
theorem goS_lt {gu : Int32} {g R K G : Nat} {sn be so he : FN} {l : Nat → Nat} {c : Nat} (hl : l c < 6) (hR : R ≤ 6) : goS gu g R K G sn be so l he c < 6 := goalS_lt hl hR
theorem cpy_ag (f g : FN) (n : Nat) : Ag n (va_cpy f g 0 0 n) f := fun j hj => by rw [pk_cpy_in (by omega) (by omega)]; congr 1; omega
/-- the crowds that went -/
def wentS (l g : Nat → Nat) : Nat → Int32
  | 0 => nI 0
  | c + 1 => if g c = l c then wentS l g c else wentS l g c ||| (nI 1 <<< (nI c &&& 31))
