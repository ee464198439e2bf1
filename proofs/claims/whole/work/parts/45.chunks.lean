/-! worlds by chunks -/
def jn : List va_W → va_W
  | [] => []
  | [A] => A
  | A :: B :: L => A ++ jn (B :: L)
theorem jn_cons (A : va_W) : ∀ L, jn (A :: L) = A ++ jn L
  | [] => (List.append_nil A).symm
  | _ :: _ => rfl
theorem jn_app : ∀ X Y : List va_W, jn (X ++ Y) = jn X ++ jn Y
  | [], _ => rfl
  | A :: X, Y => by
    show jn (A :: (X ++ Y)) = _
    rw [jn_cons, jn_cons, jn_app X Y, List.append_assoc]
theorem jn_len : ∀ X : List va_W, (jn X).length = (X.map List.length).sum
  | [] => rfl
  | A :: X => by rw [jn_cons, List.length_append, jn_len X]; rfl
/-- the places of chunks, by the chunks' lengths -/
def ofN (ls : List Nat) (i : Nat) : Nat := (ls.take i).sum
def rgN_ (ls : List Nat) (i : Nat) : List Nat := List.range' (ofN ls i) (ls.getD i 0)
def chN (ls : List Nat) : List Nat → List Nat
  | [] => []
  | i :: is => rgN_ ls i ++ chN ls is
def stC : List va_W → List Nat → List va_W → List va_W
  | L, i :: is, w :: Ws => stC (L.set i w) is Ws
  | L, _, _ => L
theorem ch_split (L : List va_W) (i : Nat) (h : i < L.length) : ∃ X B Y, L = X ++ B :: Y ∧ X.length = i ∧ L.getD i [] = B ∧ ofN (L.map List.length) i = (jn X).length ∧ (L.map List.length).getD i 0 = B.length := by
  refine ⟨L.take i, L[i], L.drop (i + 1), ?_, ?_, ?_, ?_, ?_⟩
  · rw [List.getElem_cons_drop, List.take_append_drop]
  · rw [List.length_take]; omega
  · rw [List.getD_eq_getElem?_getD, List.getElem?_eq_getElem h]; rfl
  · unfold ofN; rw [jn_len, List.map_take]
  · rw [List.getD_eq_getElem?_getD, List.getElem?_map, List.getElem?_eq_getElem h]; rfl
theorem jn_put1 {L : List va_W} {i : Nat} {w : va_W} (h : i < L.length) (hw : w.length = (L.map List.length).getD i 0) : wput (jn L) (rgN_ (L.map List.length) i) w = jn (L.set i w) := by
  obtain ⟨X, B, Y, e1, e2, e3, e4, e5⟩ := ch_split L i h
  unfold rgN_
  rw [e4, e5]
  rw [e5] at hw
  rw [e1, ← e2, List.set_append_right _ _ (Nat.le_refl _), Nat.sub_self, List.set_cons_zero, jn_app, jn_app, jn_cons, jn_cons]
  exact wput_mid B (jn X) (jn Y) w hw
theorem lens_set {L : List va_W} {i : Nat} {w : va_W} (h : i < L.length) (hw : w.length = (L.map List.length).getD i 0) : (L.set i w).map List.length = L.map List.length := by
  rw [List.map_set, hw]
  apply List.ext_getElem?
  intro j
  by_cases e : i = j
  · subst e
    rw [List.getElem?_set_self (by rw [List.length_map]; exact h), List.getD_eq_getElem?_getD, List.getElem?_map, List.getElem?_eq_getElem h]; rfl
  · rw [List.getElem?_set_ne e]
theorem jn_putN : ∀ (is : List Nat) (Ws L : List va_W), (∀ i ∈ is, i < L.length) → Ws.map List.length = is.map (fun i => (L.map List.length).getD i 0) → wput (jn L) (chN (L.map List.length) is) (jn Ws) = jn (stC L is Ws)
  | [], Ws, L, _, h => by
    obtain rfl : Ws = [] := by simpa using h
    show wput (jn L) [] [] = jn L
    unfold wput; exact List.append_nil _
  | i :: is, [], L, _, h => by simp at h
  | i :: is, w :: Ws, L, hi, h => by
    have h1 : w.length = (L.map List.length).getD i 0 := (List.cons.inj h).1
    have h2 := (List.cons.inj h).2
    have hL := hi i List.mem_cons_self
    show wput (jn L) (rgN_ _ i ++ chN _ is) (jn (w :: Ws)) = jn (stC (L.set i w) is Ws)
    rw [jn_cons, wput_two _ _ _ _ _ (by unfold rgN_; rw [List.length_range']; exact h1), jn_put1 hL h1, ← lens_set hL h1]
    refine jn_putN is Ws (L.set i w) (fun j hj => by rw [List.length_set]; exact hi j (List.mem_cons_of_mem _ hj)) ?_
    rw [lens_set hL h1]; exact h2
theorem jn_put (ls : List Nat) (is : List Nat) (L Ws L' : List va_W) {isC : List Nat} (hls : L.map List.length = ls) (hi : ∀ i ∈ is, i < ls.length) (hw : Ws.map List.length = is.map (fun i => ls.getD i 0)) (hC : isC = chN ls is) (hL : stC L is Ws = L') : wput (jn L) isC (jn Ws) = jn L' := by
  subst hls; subst hC; subst hL
  exact jn_putN is Ws L (fun i h => by have := hi i h; rwa [List.length_map] at this) hw
theorem jn_cutN : ∀ (is : List Nat) (L : List va_W), (∀ i ∈ is, i < L.length) → CUT (jn L) (chN (L.map List.length) is) (jn (is.map (fun i => L.getD i [])))
  | [], L, _ => rfl
  | i :: is, L, hi => by
    have ih := jn_cutN is L (fun j hj => hi j (List.mem_cons_of_mem _ hj))
    obtain ⟨X, B, Y, e1, e2, e3, e4, e5⟩ := ch_split L i (hi i List.mem_cons_self)
    unfold CUT at ih ⊢
    show List.map _ (rgN_ _ i ++ chN _ is) = List.map some (jn (L.getD i [] :: is.map (fun i => L.getD i [])))
    rw [jn_cons, List.map_append, List.map_append, ih, e3]
    congr 1
    unfold rgN_
    rw [e4, e5]
    have e := cut_mid (jn X) B (jn Y)
    unfold CUT at e
    rw [← e, e1, jn_app, jn_cons]
theorem jn_cut (ls : List Nat) (is : List Nat) (L Ws : List va_W) {isC : List Nat} (hls : L.map List.length = ls) (hi : ∀ i ∈ is, i < ls.length) (hW : is.map (fun i => L.getD i []) = Ws) (hC : isC = chN ls is) : CUT (jn L) isC (jn Ws) := by
  subst hls; subst hC; subst hW
  exact jn_cutN is L (fun i h => by have := hi i h; rwa [List.length_map] at this)
/-! bits (began as a starting text of the kit's laws) -/
def bt (x : Int32) (i : Nat) : Bool := x.toBitVec.getLsbD i
theorem b_ext {x y : Int32} (h : ∀ i, i < 32 → bt x i = bt y i) : x = y := Int32.toBitVec_inj.mp (BitVec.eq_of_getLsbD_eq (fun i hi => h i hi))
theorem b_or (x y : Int32) (i : Nat) : bt (x ||| y) i = (bt x i || bt y i) := by unfold bt; rw [Int32.toBitVec_or, BitVec.getLsbD_or]
theorem b_and (x y : Int32) (i : Nat) : bt (x &&& y) i = (bt x i && bt y i) := by unfold bt; rw [Int32.toBitVec_and, BitVec.getLsbD_and]
theorem b_xor (x y : Int32) (i : Nat) : bt (x ^^^ y) i = (bt x i ^^ bt y i) := by unfold bt; rw [Int32.toBitVec_xor, BitVec.getLsbD_xor]
theorem b_m1 : ∀ i, i < 32 → bt (-1) i = true := by decide +kernel
theorem s_l : ∀ n, n < 32 → ((nI n &&& 31).toBitVec.smod 32).toNat = n := by decide +kernel
theorem b_shl (n : Nat) (hn : n < 32) (x : Int32) {i : Nat} (hi : i < 32) : bt (x <<< (nI n &&& 31)) i = (decide (n ≤ i) && bt x (i - n)) := by
  unfold bt
  rw [Int32.toBitVec_shiftLeft]
  show (x.toBitVec <<< ((nI n &&& 31).toBitVec.smod 32).toNat).getLsbD i = _
  rw [s_l n hn, BitVec.getLsbD_shiftLeft]
  rcases Nat.lt_or_ge i n with h | h
  · simp [h, Nat.not_le.mpr h]
  · simp [hi, h, Nat.not_lt.mpr h]
theorem b_sshr (n : Nat) (hn : n < 32) (x : Int32) {i : Nat} (hi : i < 32) : bt (x >>> (nI n &&& 31)) i = if n + i < 32 then bt x (n + i) else bt x 31 := by
  unfold bt
  rw [Int32.toBitVec_shiftRight]
  show (x.toBitVec.sshiftRight ((nI n &&& 31).toBitVec.smod 32).toNat).getLsbD i = _
  rw [s_l n hn, BitVec.getLsbD_sshiftRight, BitVec.msb_eq_getLsbD_last]
  simp [hi]
theorem bt_1 : ∀ i, i < 32 → bt (nI 1) i = decide (i = 0) := by decide +kernel
theorem bt_0 : ∀ i, i < 32 → bt (nI 0) i = false := by decide +kernel
theorem bt_get (m : Int32) {j : Nat} (hj : j < 32) : (m >>> (nI j &&& 31)) &&& nI 1 = if bt m j then nI 1 else nI 0 := by
  apply b_ext
  intro i hi
  rw [b_and, b_sshr j hj m hi, bt_1 i hi]
  by_cases e : i = 0
  · subst e
    rw [if_pos (by omega), Nat.add_zero]
    cases bt m j
    · simp only [Bool.false_and, Bool.false_eq_true, if_false]; exact (bt_0 0 (by omega)).symm
    · simp only [if_true]; rw [bt_1 0 (by omega)]; rfl
  · simp only [e, decide_false, Bool.and_false]
    cases bt m j
    · simp only [Bool.false_eq_true, if_false]; exact (bt_0 i hi).symm
    · simp only [if_true]; rw [bt_1 i hi]; simp [e]
theorem bt_is {m : Int32} {j : Nat} (hj : j < 32) : (m >>> (nI j &&& 31)) &&& nI 1 = nI 1 ↔ bt m j = true := by
  rw [bt_get m hj]
  cases bt m j <;> decide
theorem bt_no {m : Int32} {j : Nat} (hj : j < 32) : (m >>> (nI j &&& 31)) &&& nI 1 = 0 ↔ bt m j = false := by
  rw [bt_get m hj]
  cases bt m j <;> decide
theorem bt_one {i j : Nat} (hi : i < 32) (hj : j < 32) : bt (nI 1 <<< (nI j &&& 31)) i = decide (i = j) := by
  rw [b_shl j hj _ hi]
  by_cases h : j ≤ i
  · rw [bt_1 (i - j) (by omega)]
    by_cases e : i = j
    · subst e; simp
    · simp [e]; omega
  · simp [h]; omega
theorem bt_zero {i j : Nat} (hi : i < 32) (hj : j < 32) : bt (nI 0 <<< (nI j &&& 31)) i = false := by
  rw [b_shl j hj _ hi]
  by_cases h : j ≤ i
  · rw [bt_0 (i - j) (by omega)]; simp
  · simp [h]
/-- one bit put -/
theorem bt_put (m : Int32) {y z i : Nat} (hi : i < 32) (hy : y < 32) (hz : z ≤ 1) : bt ((m &&& ((nI 1 <<< (nI y &&& 31)) ^^^ (-1))) ||| (nI z <<< (nI y &&& 31))) i = if i = y then decide (z = 1) else bt m i := by
  rw [b_or, b_and, b_xor, bt_one hi hy, b_m1 i hi]
  have hz2 : z = 0 ∨ z = 1 := by omega
  rcases hz2 with rfl | rfl
  · rw [bt_zero hi hy]
    by_cases e : i = y <;> simp [e]
  · rw [bt_one hi hy]
    by_cases e : i = y <;> simp [e]
theorem bt_dr {sn : FN} {x y z a b : Nat} (hx : x < 6) (hy : y < 6) (hxy : x ≠ y) (hz : z ≤ 1) (ha : a < 6) (hb : b < 6) :
    bt (drS sn x y (nI z) a) b = if (a = x ∧ b = y) ∨ (a = y ∧ b = x) then decide (z = 1) else bt (sn a) b := by
  unfold drS dr1
  simp only [up_at]
  by_cases e1 : a = y
  · subst e1
    rw [if_pos rfl, if_neg (fun h => hxy h.symm), bt_put _ (by omega) (by omega) hz]
    by_cases e2 : b = x
    · rw [if_pos e2, if_pos (Or.inr ⟨rfl, e2⟩)]
    · rw [if_neg e2, if_neg (by omega)]
  · rw [if_neg e1]
    by_cases e3 : a = x
    · subst e3
      rw [if_pos rfl, bt_put _ (by omega) (by omega) hz]
      by_cases e2 : b = y
      · rw [if_pos e2, if_pos (Or.inl ⟨rfl, e2⟩)]
      · rw [if_neg e2, if_neg (by omega)]
    · rw [if_neg e3, if_neg (by omega)]
/-- doors go both ways, and between rooms alone -/
def SY (R : Nat) (sn : FN) : Prop := ∀ x y, x < 6 → y < 6 → (bt (sn x) y = bt (sn y) x) ∧ (R ≤ y → bt (sn x) y = false)
theorem SY.dr {R : Nat} {sn : FN} {x y z : Nat} (h : SY R sn) (hR : R ≤ 6) (hx : x < R) (hy : y < R) (hxy : x ≠ y) (hz : z ≤ 1) : SY R (drS sn x y (nI z)) := by
  intro c d hc hd
  rw [bt_dr (by omega) (by omega) hxy hz hc hd, bt_dr (by omega) (by omega) hxy hz hd hc]
  refine ⟨?_, fun hR2 => ?_⟩
  · by_cases e : (c = x ∧ d = y) ∨ (c = y ∧ d = x)
    · rw [if_pos e, if_pos (by omega)]
    · rw [if_neg e, if_neg (by omega)]; exact (h c d hc hd).1
  · rw [if_neg (by omega)]; exact (h c d hc hd).2 hR2
theorem SY.ag {R : Nat} {sn sn' : FN} (h : SY R sn) (he : Ag 6 sn' sn) : SY R sn' := by
  intro x y hx hy
  rw [he x hx, he y hy]
  exact h x y hx hy
theorem SY.mono {R R' : Nat} {sn : FN} (h : SY R sn) (he : R ≤ R') : SY R' sn := fun x y hx hy => ⟨(h x y hx hy).1, fun k => (h x y hx hy).2 (by omega)⟩
/-- the first of k, k+1 .. k+d-1 of which P holds; k+d -/
noncomputable def fstN (P : Nat → Prop) : Nat → Nat → Nat
  | 0, k => k
  | d + 1, k => ifP (P k) k (fstN P d (k + 1))
theorem fstN_hit {P : Nat → Prop} : ∀ (d k i : Nat), k ≤ i → i < k + d → (∀ j, k ≤ j → j < i → ¬ P j) → P i → fstN P d k = i
  | 0, k, i, h1, h2, _, _ => by omega
  | d + 1, k, i, h1, h2, h3, h4 => by
    unfold fstN
    by_cases e : k = i
    · subst e; exact ifP_t h4
    · rw [ifP_f (h3 k (Nat.le_refl k) (by omega))]
      exact fstN_hit d (k + 1) i (by omega) (by omega) (fun j h5 h6 => h3 j (by omega) h6) h4
theorem fstN_miss {P : Nat → Prop} : ∀ (d k : Nat), (∀ j, k ≤ j → j < k + d → ¬ P j) → fstN P d k = k + d
  | 0, k, _ => rfl
  | d + 1, k, h => by
    unfold fstN
    rw [ifP_f (h k (Nat.le_refl k) (by omega)), fstN_miss d (k + 1) (fun j h1 h2 => h j (by omega) (by omega))]
    omega
theorem fstN_cong {P P' : Nat → Prop} : ∀ (d k : Nat), (∀ j, k ≤ j → j < k + d → (P j ↔ P' j)) → fstN P d k = fstN P' d k
  | 0, k, _ => rfl
  | d + 1, k, h => by
    unfold fstN
    rw [fstN_cong d (k + 1) (fun j h1 h2 => h j (by omega) (by omega)), show P k = P' k from propext (h k (Nat.le_refl k) (by omega))]
/-- how many of 0 .. n-1 P holds of -/
noncomputable def cntP (P : Nat → Prop) : Nat → Nat
  | 0 => 0
  | n + 1 => ifP (P n) (cntP P n + 1) (cntP P n)
theorem cntP_le {P : Nat → Prop} : ∀ n, cntP P n ≤ n
  | 0 => Nat.le_refl 0
  | n + 1 => by
    unfold cntP
    by_cases h : P n
    · rw [ifP_t h]; have := cntP_le (P := P) n; omega
    · rw [ifP_f h]; have := cntP_le (P := P) n; omega
