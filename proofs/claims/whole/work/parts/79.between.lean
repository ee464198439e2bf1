/-! what holds between two calls, of the class and of the reference -/
/-- a house that holds together -/
def HOK (R K G : Nat) (sn so lo : FN) : Prop := R ≤ 6 ∧ K ≤ 5 ∧ G ≤ 9999 ∧ (∀ c, c < K → lo c = nI (lN_ lo c) ∧ lN_ lo c < R) ∧ (∀ c, c < K → ∃ k, 1 ≤ k ∧ k ≤ 5 ∧ so c = nI k) ∧ SY R sn
theorem HOK.cong {R K G : Nat} {sn so lo sn' so' lo' : FN} (h : HOK R K G sn so lo) (h1 : Ag 6 sn' sn) (h2 : Ag 5 so' so) (h3 : Ag 5 lo' lo) : HOK R K G sn' so' lo' := by
  obtain ⟨a1, a2, a3, a4, a5, a6⟩ := h
  refine ⟨a1, a2, a3, fun c hc => ?_, fun c hc => ?_, a6.ag h1⟩
  · unfold lN_; rw [h3 c (by omega)]; exact a4 c hc
  · rw [h2 c (by omega)]; exact a5 c hc
/-- a slot of an act that holds together -/
def SOK (kp : FN) (s R K : Nat) : Prop := SY R (fun j => kp (s * 23 + j)) ∧ (∀ c, c < K → kp (s * 23 + 12 + c) = nI (iN (kp (s * 23 + 12 + c))) ∧ iN (kp (s * 23 + 12 + c)) < R) ∧ ∃ g, g ≤ 9999 ∧ kp (s * 23 + 22) = nI g
theorem SOK.cong {kp kp' : FN} {s R K : Nat} (h : SOK kp s R K) (hK : K ≤ 5) (hk : ∀ i, s * 23 ≤ i → i < s * 23 + 23 → kp' i = kp i) : SOK kp' s R K := by
  obtain ⟨h1, h2, h3⟩ := h
  refine ⟨h1.ag (fun j hj => hk _ (by omega) (by omega)), fun c hc => ?_, ?_⟩
  · rw [hk _ (by omega) (by omega)]; exact h2 c hc
  · rw [hk _ (by omega) (by omega)]; exact h3
def AOK (y : ACT) (R K : Nat) : Prop := y.2.1 ≤ 24 ∧ y.2.2 < 24 ∧ ∀ i, i < y.2.1 → SOK y.1 (sI y.2.2 y.2.1 i) R K
theorem AOK.keep {kp : FN} {h x R K G : Nat} {sn be so lo he : FN} (hA : AOK (kp, h, x) R K) (hH : HOK R K G sn so lo) : AOK (keepS (kp, h, x) sn be lo he G) R K := by
  obtain ⟨hh, hx, hs⟩ := hA
  obtain ⟨b1, b2, b3, b4, b5, b6⟩ := hH
  have hh : h ≤ 24 := hh
  have hx : x < 24 := hx
  refine ⟨Nat.min_le_right _ _, ?_, fun i hi => ?_⟩
  · show (if x + 1 < 24 then x + 1 else 0) < 24
    split <;> omega
  · have hi : i < min (h + 1) 24 := hi
    show SOK (kpPut kp x sn be lo he (nI G)) (sI (if x + 1 < 24 then x + 1 else 0) (min (h + 1) 24) i) R K
    by_cases e : i = min (h + 1) 24 - 1
    · have es : sI (if x + 1 < 24 then x + 1 else 0) (min (h + 1) 24) i = x := by
        unfold sI; split <;> omega
      rw [es]
      obtain ⟨s1, s2, s3, s4, s5⟩ := kpPut_SL kp x sn be lo he (nI G)
      refine ⟨b6.ag s1, fun c hc => ?_, G, b3, s5⟩
      rw [s3 c (by omega)]; exact b4 c hc
    · have es : sI (if x + 1 < 24 then x + 1 else 0) (min (h + 1) 24) i = sI x h (if h = 24 then i + 1 else i) := by
        unfold sI; split <;> split <;> omega
      have en : sI x h (if h = 24 then i + 1 else i) ≠ x := by
        unfold sI; split <;> omega
      rw [es]
      refine SOK.cong (hs (if h = 24 then i + 1 else i) (by show _ < h; split <;> omega)) b2 (fun t h3 h4 => kpPut_out kp x sn be lo he (nI G) ?_)
      show t < x * 23 ∨ x * 23 + 23 ≤ t
      have : sI x h (if h = 24 then i + 1 else i) < x ∨ x < sI x h (if h = 24 then i + 1 else i) := by omega
      omega
theorem AOK.keep2 {y : ACT} {R K G : Nat} {sn be so lo he : FN} (hA : AOK y R K) (hH : HOK R K G sn so lo) : AOK (keepS y sn be lo he G) R K := AOK.keep (kp := y.1) (h := y.2.1) (x := y.2.2) hA hH
theorem AOK.none {kp : FN} {R K : Nat} : AOK (kp, 0, 0) R K := ⟨Nat.zero_le _, (by show 0 < 24; decide), fun i h => absurd h (Nat.not_lt_zero i)⟩
theorem AOK.last {kp : FN} {h x R K : Nat} (hA : AOK (kp, h, x) R K) (h0 : 0 < h) : SOK kp (lastS x) R K ∧ AOK (kp, h - 1, lastS x) R K := by
  obtain ⟨hh, hx, hs⟩ := hA
  have hh : h ≤ 24 := hh
  have hx : x < 24 := hx
  have h1 := hs (h - 1) (by show h - 1 < h; omega)
  refine ⟨?_, ?_, ?_, fun i hi => ?_⟩
  · rw [sI_last h0 hh hx] at h1; exact h1
  · show h - 1 ≤ 24; omega
  · show lastS x < 24; unfold lastS; split <;> omega
  · have hi : i < h - 1 := hi
    show SOK kp (sI (lastS x) (h - 1) i) R K
    rw [sI_back h0 hh hx hi]
    exact hs i (by show i < h; omega)
theorem HOK.bell {R K G G' : Nat} {sn so he be lo be' lo' : FN} {v : Int32} (h : HOK R K G sn so lo) (hG : G + 1 ≤ 9999) (hB : BellS R K sn so he G be lo v G' be' lo') : HOK R K G' sn so lo' :=
  ⟨h.1, h.2.1, by rw [hB.2.1]; omega, hB.lo h.1 h.2.2.2.1, h.2.2.2.2.1, h.2.2.2.2.2⟩
theorem STP.ok {R K : Nat} {sn so f : FN} {i n : Nat} {zs : Nat → BST} (hs : ∀ k, k < n → STP R K sn so f i k (zs k) (zs (k + 1))) (h0 : HOK R K (zs 0).1 sn so (zs 0).2.2.1) (hA : AOK (zs 0).2.2.2.2 R K) (hG : (zs 0).1 + n ≤ 9999) : ∀ k, k ≤ n → (zs k).1 = (zs 0).1 + k ∧ HOK R K (zs k).1 sn so (zs k).2.2.1 ∧ AOK (zs k).2.2.2.2 R K
  | 0, _ => ⟨rfl, h0, hA⟩
  | k + 1, hk => by
    obtain ⟨g1, g2, g3⟩ := STP.ok hs h0 hA hG k (by omega)
    obtain ⟨⟨v, hB⟩, h3, -⟩ := hs k (by omega)
    refine ⟨?_, g2.bell (by omega) hB, ?_⟩
    · rw [hB.2.1, g1]; omega
    · rw [h3]; exact g3.keep2 g2
theorem RRow.ri {it : Nat → FN} {th ln sz la mn im : FN} (h : RRow it th ln sz la mn im) : RI th sz := fun r hr =>
  (h r hr).elim (fun k => Or.inl k.1) (fun k => Or.inr ⟨k.1, by obtain ⟨-, -, -, n, h1, h2, -⟩ := k; exact ⟨n, h1, h2⟩⟩)
/-- bytes -/
def BYT (t : FN) (S : Nat) : Prop := ∀ j, j < S → ∃ b, b < 256 ∧ t j = nI b
theorem and255 (x : Int32) : ∃ b, b < 256 ∧ x &&& nI 255 = nI b := by
  have h : (x &&& nI 255).toInt = ((x.toInt % 256).toNat : Int) := by
    have e1 : (x &&& nI 255).toBitVec.toNat = x.toBitVec.toNat % 256 := by
      rw [Int32.toBitVec_and, BitVec.toNat_and]
      exact Nat.and_two_pow_sub_one_eq_mod x.toBitVec.toNat 8
    have e2 : (x &&& nI 255).toInt = ((x &&& nI 255).toBitVec.toNat : Int) := by
      show (x &&& nI 255).toBitVec.toInt = _
      rw [BitVec.toInt_eq_toNat_of_lt]
      rw [e1]; omega
    have e3 : x.toInt % 256 = (x.toBitVec.toNat : Int) % 256 := by
      show x.toBitVec.toInt % 256 = _
      rw [BitVec.toInt_eq_toNat_cond]
      split <;> omega
    rw [e2, e1, e3]; omega
  refine ⟨(x.toInt % 256).toNat, by omega, ?_⟩
  rw [← Int32.toInt_inj, h, tI_n (by omega)]
theorem NxFeed.ok {w : Int64} {n v : Int32} {t t' : FN} {S S' : Nat} (h : NxFeed w n t S v t' S') (hS : S ≤ 400) (hb : BYT t S) : S' ≤ 400 ∧ BYT t' S' := by
  unfold NxFeed at h
  by_cases h1 : 1 ≤ n.toInt ∧ n.toInt ≤ 8
  · rw [ifP_t h1] at h
    obtain ⟨m, hm, rfl⟩ := tI_of (x := n) (n := 9) (by omega) (by omega)
    rw [tI_n (by omega)] at h
    rw [iN_n (by omega)] at h
    by_cases h2 : (S : Int) + m ≤ 400
    · rw [ifP_t h2] at h
      obtain ⟨-, rfl, h3, h4⟩ := h
      refine ⟨by omega, fun j hj => ?_⟩
      by_cases e : j < S
      · rw [h3 j e]; exact hb j e
      · have h5 := h4 (j - S) (by omega)
        rw [show S + (j - S) = j by omega] at h5
        rw [h5]; exact and255 _
    · rw [ifP_f h2] at h
      obtain ⟨-, rfl, rfl⟩ := h
      exact ⟨hS, hb⟩
  · rw [ifP_f h1] at h
    obtain ⟨-, rfl, rfl⟩ := h
    exact ⟨hS, hb⟩
/-- a plan that holds together -/
def PK (x : PLN) : Prop := x.1.1 ≤ 6 ∧ x.1.2.1 ≤ 5 ∧ x.1.2.2 ≤ 12 ∧ SY x.1.1 x.2.2.1 ∧ (∀ r, x.1.1 ≤ r → r < 6 → x.2.2.1 r = nI 0) ∧ (∀ c, c < x.1.2.1 → x.2.2.2.2.1 c = nI (lN_ x.2.2.2.2.1 c) ∧ lN_ x.2.2.2.2.1 c < x.1.1) ∧ ∀ c, c < x.1.2.1 → ∃ k, 1 ≤ k ∧ k ≤ 5 ∧ x.2.2.2.1 c = nI k
theorem PK.room {t : FN} {S p R K D : Nat} {se sn so lo he : FN} {y : Nat × PLN} (hp : p ≤ S) (hx : PK ((R, K, D), se, sn, so, lo, he)) (h : rdRoom t S p R K D se sn so lo he = .inr y) : PK y.2 := by
  obtain ⟨b1, b2, b3, b4, b5, b6, b7⟩ := hx
  obtain ⟨k1, k2, k3, k4, k5⟩ := rdRoom_ok hp b1 b2 b3 h
  obtain ⟨p1, h1, h⟩ := rbind_ok h
  obtain ⟨p2, h2, h⟩ := rbind_ok h
  obtain ⟨p3, h3, h⟩ := rbind_ok h
  cases h
  exact ⟨k3, b2, b3, b4.mono (Nat.le_succ R), fun r h4 h5 => b5 r (Nat.le_of_succ_le h4) h5, fun c hc => ⟨(b6 c hc).1, Nat.lt_succ_of_lt (b6 c hc).2⟩, b7⟩
theorem PK.door {t : FN} {S p R K D : Nat} {se sn so lo he : FN} {y : Nat × PLN} (hp : p ≤ S) (hx : PK ((R, K, D), se, sn, so, lo, he)) (h : rdDoor t S p R K D se sn so lo he = .inr y) : PK y.2 := by
  obtain ⟨b1, b2, b3, b4, b5, b6, b7⟩ := hx
  obtain ⟨k1, k2, k3, k4, k5⟩ := rdDoor_ok hp b1 b2 b3 h
  obtain ⟨p1, h1, h⟩ := rbind_ok h
  obtain ⟨p2, h2, h⟩ := rbind_ok h
  obtain ⟨p3, h3, h⟩ := rbind_ok h
  obtain ⟨p4, h4, h⟩ := rbind_ok h
  have b1 : R ≤ 6 := b1
  obtain ⟨-, -, g1, g2, -⟩ := rdNum_ok h2
  obtain ⟨rfl, -, -⟩ := rdNum_ok h2
  obtain ⟨-, -, g3, g4, g5⟩ := rdNum_ok h3
  obtain ⟨x, hx, ex⟩ := room_of g1 g2 b1
  obtain ⟨z, hz, ez⟩ := room_of g3 g4 b1
  have hxz : x ≠ z := by
    intro e; rw [ex, ez, e] at g5; exact g5 rfl
  rw [ex, ez, nI_clamp (by omega), nI_clamp (by omega)] at h
  cases h
  refine ⟨b1, b2, k5, b4.dr b1 hx hz hxz (Nat.le_refl 1), fun r h6 h7 => ?_, b6, b7⟩
  have h6 : R ≤ r := h6
  show drS sn x z (nI 1) r = nI 0
  unfold drS dr1
  rw [up_n (by omega), up_n (by omega)]
  exact b5 r h6 h7
theorem PK.crowd {t : FN} {S p R K D : Nat} {se sn so lo he : FN} {y : Nat × PLN} (hp : p ≤ S) (hx : PK ((R, K, D), se, sn, so, lo, he)) (h : rdCrowd t S p R K D se sn so lo he = .inr y) : PK y.2 := by
  obtain ⟨b1, b2, b3, b4, b5, b6, b7⟩ := hx
  obtain ⟨k1, k2, k3, k4, k5⟩ := rdCrowd_ok hp b1 b2 b3 h
  obtain ⟨p1, h1, h⟩ := rbind_ok h
  by_cases hs : rdSort t S p1 = 0
  · rw [if_pos hs] at h; cases h
  rw [if_neg hs] at h
  obtain ⟨p3, h3, h⟩ := rbind_ok h
  obtain ⟨p4, h4, h⟩ := rbind_ok h
  obtain ⟨p5, h5, h⟩ := rbind_ok h
  have b1 : R ≤ 6 := b1
  obtain ⟨-, -, g1, g2, -⟩ := rdNum_ok h3
  obtain ⟨x, hx, ex⟩ := room_of g1 g2 b1
  have hsl := rdSort_lt t S p1
  cases h
  refine ⟨b1, k4, b3, b4, b5, fun c hc => ?_, fun c hc => ?_⟩
  · have hc : c < K + 1 := hc
    show upd lo K (vlS t S (nxS t S p1)) c = nI (lN_ (upd lo K (vlS t S (nxS t S p1))) c) ∧ lN_ (upd lo K (vlS t S (nxS t S p1))) c < R
    unfold lN_
    rw [up_at]
    by_cases e : c = K
    · rw [if_pos e, ex, iN_n (by omega)]; exact ⟨rfl, hx⟩
    · rw [if_neg e]; exact b6 c (by show c < K; omega)
  · have hc : c < K + 1 := hc
    show ∃ k, 1 ≤ k ∧ k ≤ 5 ∧ upd so K (nI (rdSort t S p1)) c = nI k
    rw [up_at]
    by_cases e : c = K
    · rw [if_pos e]; exact ⟨rdSort t S p1, by omega, by omega, rfl⟩
    · rw [if_neg e]; exact b7 c (by show c < K; omega)
theorem PK.loop {t : FN} {S : Nat} : ∀ (d P p : Nat) (x : PLN) (y : Nat × PLN), p ≤ S → PK x → rdLoop t S d P p x = .inr y → PK y.2
  | 0, P, p, x, y, hp, hx, h => by cases h; exact hx
  | d + 1, P, p, x, y, hp, hx, h => by
    rw [rdLoop_s] at h
    by_cases e : tkS t S p = 0
    · rw [if_pos e] at h; cases h; exact hx
    · rw [if_neg e] at h
      obtain ⟨z, h1, h2⟩ := rbind_ok h
      have hz := rdPart_ok hp hx.1 hx.2.1 hx.2.2.1 h1
      refine PK.loop d _ z.1 z.2 y hz.2.1 ?_ h2
      unfold rdPart at h1
      by_cases e0 : nptS t S p P = 0
      · rw [if_pos e0] at h1; exact PK.room hp hx h1
      · rw [if_neg e0] at h1
        by_cases e1 : nptS t S p P = 1
        · rw [if_pos e1] at h1; exact PK.door hp hx h1
        · rw [if_neg e1] at h1; exact PK.crowd hp hx h1
theorem SY0 {R : Nat} {sn : FN} (h : ∀ j, j < 6 → sn j = nI 0) : SY R sn := by
  intro x y hx hy
  rw [h x hx, h y hy, bt_0 x (by omega), bt_0 y (by omega)]
  exact ⟨rfl, fun _ => rfl⟩
theorem PK.tape {t : FN} {S : Nat} {se sn so lo he : FN} {y : Nat × PLN} (h0 : ∀ j, j < 6 → sn j = nI 0) (h : rdTape t S se sn so lo he = .inr y) : PK y.2 := by
  have hx : PK ((0, 0, 0), se, sn, so, lo, he) := ⟨Nat.zero_le _, Nat.zero_le _, Nat.zero_le _, SY0 h0, fun r _ h => h0 r h, fun c h => absurd h (Nat.not_lt_zero c), fun c h => absurd h (Nat.not_lt_zero c)⟩
  obtain ⟨z, h1, h2⟩ := rbind_ok h
  exact PK.loop 400 0 z.1 z.2 y (rdRoom_ok (Nat.zero_le _) hx.1 hx.2.1 hx.2.2.1 h1).2.1 (PK.room (Nat.zero_le _) hx h1) h2
/-- what was read, in the class and in the reference -/
theorem FRx.rh {ho : FN} {x : PLN} {z : HST} (h : FRx ho x) (hx : PK x) (e1 : z.1 = x.1.1) (e2 : z.2.1 = x.1.2.1) (e3 : z.2.2.1 = 0) (hE : HE6 x.2.1 x.2.2.1 (fun _ => nI 0) x.2.2.2.1 x.2.2.2.2.1 x.2.2.2.2.2 z.2.2.2.1 z.2.2.2.2.1 z.2.2.2.2.2.1 z.2.2.2.2.2.2.1 z.2.2.2.2.2.2.2.1 z.2.2.2.2.2.2.2.2) :
    RH ho z.1 z.2.1 z.2.2.1 z.2.2.2.1 z.2.2.2.2.1 z.2.2.2.2.2.1 z.2.2.2.2.2.2.1 z.2.2.2.2.2.2.2.1 z.2.2.2.2.2.2.2.2 ∧ HOK z.1 z.2.1 z.2.2.1 z.2.2.2.2.1 z.2.2.2.2.2.2.1 z.2.2.2.2.2.2.2.1 := by
  rw [e1, e2, e3]
  obtain ⟨b1, b2, b3, b4, b5, b6, b7⟩ := hx
  obtain ⟨a0, a1, a2, a3, a4, a5, a6, a7⟩ := h
  obtain ⟨c1, c2, c3, c4, c5, c6⟩ := hE
  refine ⟨⟨a0, a2, a3, fun r hr => ⟨?_, ?_, ?_⟩, fun r hr1 hr2 => ?_, fun c hc => ⟨?_, ?_, ?_⟩⟩, HOK.cong ⟨b1, b2, Nat.zero_le _, b6, b7, b4⟩ c2 c4 c5⟩
  · rw [c1 r (by omega)]; exact a4 r hr
  · rw [c2 r (by omega)]; exact a5 r (by omega)
  · rw [c3 r (by omega)]; exact a6 r (by omega)
  · exact (a5 r hr2).trans (b5 r hr1 hr2)
  · rw [c4 c (by omega)]; exact (a7 c hc).1
  · rw [c5 c (by omega)]; exact (a7 c hc).2.1
  · rw [c6 c (by omega)]; exact (a7 c hc).2.2
/-- the class' numbers and the reference's -/
def REL (it : Nat → FN) (th ln sz t : FN) (S : Nat) (pF : Nat → FN) (pI se sn be so lo he : FN) (R K G : Nat) (iF : Nat → Nat → FN) (iR iK iG : Nat → Nat) (kp : FN) (h x cg : Nat) (s : TRC) (la mn im ho wa tp ik ke tc : FN) (n : Nat) : Prop :=
  RRow it th ln sz la mn im ∧ (S ≤ 400 ∧ (∀ j, j < S → tp j = t j) ∧ BYT t S) ∧ (pI 2 = nI 0 ∧ ∀ r, r < 6 → pF 2 r = nI 0) ∧ (RH ho R K G se sn be so lo he ∧ HOK R K G sn so lo) ∧ (RA wa (kp, h, x) R K se so ∧ AOK (kp, h, x) R K) ∧
  (RIm iF iR iK iG ik ke ∧ (∀ i, i < 2 → HOK (iR i) (iK i) (iG i) (iF i 1) (iF i 3) (iF i 4)) ∧ ∀ i, iR i < 2 ^ 30) ∧ cg < 6 ∧ RTc s (tc, n)
/-- the two objects between two calls -/
def JJ (E : EG) (a a2 : Nat → Nat) (w1 w2 : va_W) : Prop := ∃ (fn fd : Int32) (it : Nat → FN) (th ln sz t : FN) (S : Nat) (tI rI : FN) (pF : Nat → FN) (pI se sn be so lo he n1 n2 n3 : FN) (R K G : Nat) (iF : Nat → Nat → FN) (iR iK iG : Nat → Nat) (iu ig kp : FN) (h x : Nat) (uI : FN) (cF : Nat → FN) (cI : FN) (cg : Nat) (fi sr : FN) (s : TRC) (v1 : Int32) (f1_ : FN) (v2 v3 v4 v5 v6 v7 v8 : Int32) (g1 g2 g3 g4 g5 g6 : FN) (v9 v10 v11 : Int32) (la mn im ho wa tp ik ke tc : FN) (n : Nat), REL it th ln sz t S pF pI se sn be so lo he R K G iF iR iK iG kp h x cg s la mn im ho wa tp ik ke tc n ∧ w1 = wX E a fn fd it th ln sz t S tI rI pF pI se sn be so lo he n1 n2 n3 R K G iF iR iK iG iu ig kp h x uI cF cI cg fi sr s ∧ w2 = wM E a2 v1 fd la mn im ho f1_ wa ((nI h)) tp ((nI S)) fn v2 v3 v4 v5 v6 v7 v8 g1 g2 g3 g4 g5 g6 v9 v10 v11 ik ke tc ((nI n))
theorem JJ.mk {E : EG} {a a2 : Nat → Nat} {fn fd : Int32} {it : Nat → FN} {th ln sz t : FN} {S : Nat} {tI rI : FN} {pF : Nat → FN} {pI se sn be so lo he n1 n2 n3 : FN} {R K G : Nat} {iF : Nat → Nat → FN} {iR iK iG : Nat → Nat} {iu ig kp : FN} {h x : Nat} {uI : FN} {cF : Nat → FN} {cI : FN} {cg : Nat} {fi sr : FN} {s : TRC} {v1 : Int32} {f1_ : FN} {v2 v3 v4 v5 v6 v7 v8 : Int32} {g1 g2 g3 g4 g5 g6 : FN} {v9 v10 v11 : Int32} {la mn im ho wa tp ik ke tc : FN} {n : Nat} (h_ : REL it th ln sz t S pF pI se sn be so lo he R K G iF iR iK iG kp h x cg s la mn im ho wa tp ik ke tc n) : JJ E a a2 (wX E a fn fd it th ln sz t S tI rI pF pI se sn be so lo he n1 n2 n3 R K G iF iR iK iG iu ig kp h x uI cF cI cg fi sr s) (wM E a2 v1 fd la mn im ho f1_ wa ((nI h)) tp ((nI S)) fn v2 v3 v4 v5 v6 v7 v8 g1 g2 g3 g4 g5 g6 v9 v10 v11 ik ke tc ((nI n))) :=
  ⟨fn, fd, it, th, ln, sz, t, S, tI, rI, pF, pI, se, sn, be, so, lo, he, n1, n2, n3, R, K, G, iF, iR, iK, iG, iu, ig, kp, h, x, uI, cF, cI, cg, fi, sr, s, v1, f1_, v2, v3, v4, v5, v6, v7, v8, g1, g2, g3, g4, g5, g6, v9, v10, v11, la, mn, im, ho, wa, tp, ik, ke, tc, n, h_, rfl, rfl⟩
theorem JJ.elim {E : EG} {a a2 : Nat → Nat} {w1 w2 : va_W} (h_ : JJ E a a2 w1 w2) {P : va_W → va_W → Prop} (k_ : ∀ (fn fd : Int32) (it : Nat → FN) (th ln sz t : FN) (S : Nat) (tI rI : FN) (pF : Nat → FN) (pI se sn be so lo he n1 n2 n3 : FN) (R K G : Nat) (iF : Nat → Nat → FN) (iR iK iG : Nat → Nat) (iu ig kp : FN) (h x : Nat) (uI : FN) (cF : Nat → FN) (cI : FN) (cg : Nat) (fi sr : FN) (s : TRC) (v1 : Int32) (f1_ : FN) (v2 v3 v4 v5 v6 v7 v8 : Int32) (g1 g2 g3 g4 g5 g6 : FN) (v9 v10 v11 : Int32) (la mn im ho wa tp ik ke tc : FN) (n : Nat), REL it th ln sz t S pF pI se sn be so lo he R K G iF iR iK iG kp h x cg s la mn im ho wa tp ik ke tc n → P (wX E a fn fd it th ln sz t S tI rI pF pI se sn be so lo he n1 n2 n3 R K G iF iR iK iG iu ig kp h x uI cF cI cg fi sr s) (wM E a2 v1 fd la mn im ho f1_ wa ((nI h)) tp ((nI S)) fn v2 v3 v4 v5 v6 v7 v8 g1 g2 g3 g4 g5 g6 v9 v10 v11 ik ke tc ((nI n)))) : P w1 w2 := by
  unfold JJ at h_
  obtain ⟨fn, h_⟩ := h_
  obtain ⟨fd, h_⟩ := h_
  obtain ⟨it, h_⟩ := h_
  obtain ⟨th, h_⟩ := h_
  obtain ⟨ln, h_⟩ := h_
  obtain ⟨sz, h_⟩ := h_
  obtain ⟨t, h_⟩ := h_
  obtain ⟨S, h_⟩ := h_
  obtain ⟨tI, h_⟩ := h_
  obtain ⟨rI, h_⟩ := h_
  obtain ⟨pF, h_⟩ := h_
  obtain ⟨pI, h_⟩ := h_
  obtain ⟨se, h_⟩ := h_
  obtain ⟨sn, h_⟩ := h_
  obtain ⟨be, h_⟩ := h_
  obtain ⟨so, h_⟩ := h_
  obtain ⟨lo, h_⟩ := h_
  obtain ⟨he, h_⟩ := h_
  obtain ⟨n1, h_⟩ := h_
  obtain ⟨n2, h_⟩ := h_
  obtain ⟨n3, h_⟩ := h_
  obtain ⟨R, h_⟩ := h_
  obtain ⟨K, h_⟩ := h_
  obtain ⟨G, h_⟩ := h_
  obtain ⟨iF, h_⟩ := h_
  obtain ⟨iR, h_⟩ := h_
  obtain ⟨iK, h_⟩ := h_
  obtain ⟨iG, h_⟩ := h_
  obtain ⟨iu, h_⟩ := h_
  obtain ⟨ig, h_⟩ := h_
  obtain ⟨kp, h_⟩ := h_
  obtain ⟨h, h_⟩ := h_
  obtain ⟨x, h_⟩ := h_
  obtain ⟨uI, h_⟩ := h_
  obtain ⟨cF, h_⟩ := h_
  obtain ⟨cI, h_⟩ := h_
  obtain ⟨cg, h_⟩ := h_
  obtain ⟨fi, h_⟩ := h_
  obtain ⟨sr, h_⟩ := h_
  obtain ⟨s, h_⟩ := h_
  obtain ⟨v1, h_⟩ := h_
  obtain ⟨f1_, h_⟩ := h_
  obtain ⟨v2, h_⟩ := h_
  obtain ⟨v3, h_⟩ := h_
  obtain ⟨v4, h_⟩ := h_
  obtain ⟨v5, h_⟩ := h_
  obtain ⟨v6, h_⟩ := h_
  obtain ⟨v7, h_⟩ := h_
  obtain ⟨v8, h_⟩ := h_
  obtain ⟨g1, h_⟩ := h_
  obtain ⟨g2, h_⟩ := h_
  obtain ⟨g3, h_⟩ := h_
  obtain ⟨g4, h_⟩ := h_
  obtain ⟨g5, h_⟩ := h_
  obtain ⟨g6, h_⟩ := h_
  obtain ⟨v9, h_⟩ := h_
  obtain ⟨v10, h_⟩ := h_
  obtain ⟨v11, h_⟩ := h_
  obtain ⟨la, h_⟩ := h_
  obtain ⟨mn, h_⟩ := h_
  obtain ⟨im, h_⟩ := h_
  obtain ⟨ho, h_⟩ := h_
  obtain ⟨wa, h_⟩ := h_
  obtain ⟨tp, h_⟩ := h_
  obtain ⟨ik, h_⟩ := h_
  obtain ⟨ke, h_⟩ := h_
  obtain ⟨tc, h_⟩ := h_
  obtain ⟨n, h_⟩ := h_
  obtain ⟨r_, e1_, e2_⟩ := h_
  rw [e1_, e2_]
  exact k_ fn fd it th ln sz t S tI rI pF pI se sn be so lo he n1 n2 n3 R K G iF iR iK iG iu ig kp h x uI cF cI cg fi sr s v1 f1_ v2 v3 v4 v5 v6 v7 v8 g1 g2 g3 g4 g5 g6 v9 v10 v11 la mn im ho wa tp ik ke tc n r_
theorem JJ.len {E : EG} {a a2 : Nat → Nat} {w1 w2 : va_W} (h_ : JJ E a a2 w1 w2) : (w1.length = 79 ∧ w2.length = 17) ∧ (∃ fs, w1[0]? = some (a 0, .inr (7, fs))) ∧ ∃ fs, w2[0]? = some (a2 0, .inr (8, fs)) := by
  refine h_.elim (P := fun w1 w2 => (w1.length = 79 ∧ w2.length = 17) ∧ (∃ fs, w1[0]? = some (a 0, .inr (7, fs))) ∧ ∃ fs, w2[0]? = some (a2 0, .inr (8, fs))) ?_
  intros
  exact ⟨⟨rfl, rfl⟩, ⟨_, rfl⟩, ⟨_, rfl⟩⟩
/-- a call of both: the answers are one, and what held holds -/
def PAIR (E : EG) (a a2 : Nat → Nat) (MC MR : MD) (qC qR : RQ) (As : List Value) (w1 w2 : va_W) : Prop :=
  ∃ pC : PO, Ctr E MC qC (.ref (a 0) :: As) w1 pC ∧ ∀ v w, pC v w → ∃ x : Int32, v = some (.int x) ∧ w.length = 79 ∧ ∃ pM : PO, Ctr E MR qR (.ref (a2 0) :: As) w2 pM ∧ ∀ v' w', pM v' w' → v' = some (.int x) ∧ JJ E a a2 w w' 
