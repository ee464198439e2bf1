/-! bells: what they go by, one after another -/
theorem cntS_cong {g : FN} {l l' : Nat → Nat} {h h' : FN} : ∀ n, (∀ c, c < n → l c = l' c ∧ h c = h' c) → ∀ r, cntS g l h n r = cntS g l' h' n r
  | 0, _, _ => rfl
  | n + 1, hc, r => by
    have ih := cntS_cong (g := g) n (fun c h => hc c (by omega)) r
    obtain ⟨e1, e2⟩ := hc n (by omega)
    show (if r = l n then cntS g l h n r + h n else cntS g l h n r) = (if r = l' n then cntS g l' h' n r + h' n else cntS g l' h' n r)
    rw [e1, e2, ih]
theorem bestS_congR {d d' : FN} {m : Int32} {own R : Nat} (h : ∀ r, r < R → d r = d' r) (ho : own < R) : ∀ r, r ≤ R → bestS d m own r = bestS d' m own r ∧ bestS d m own r < R
  | 0, _ => ⟨rfl, ho⟩
  | r + 1, hr => by
    obtain ⟨e, hb⟩ := bestS_congR h ho r (by omega)
    have e2 : bestS d m own (r + 1) = bestS d' m own (r + 1) := by
      unfold bestS
      rw [← e, h r (by omega), h _ hb]
    refine ⟨e2, ?_⟩
    unfold bestS
    split
    · omega
    · exact hb
theorem goS_ltR {gu : Int32} {g R K G : Nat} {sn be so he : FN} {l : Nat → Nat} {c : Nat} (hl : l c < R) : goS gu g R K G sn be so l he c < R := by
  unfold goS goalS
  split
  · exact hl
  · exact (bestS_congR (fun _ _ => rfl) hl R (Nat.le_refl R)).2
theorem goS_cong {gu : Int32} {g R K G : Nat} {sn sn' be be' so so' he he' : FN} {l l' : Nat → Nat} {c : Nat} (hsn : ∀ r, r < R → sn r = sn' r) (hbe : 0 < G → ∀ r, r < R → be r = be' r)
    (hc : ∀ c, c < K → so c = so' c ∧ l c = l' c ∧ he c = he' c ∧ l c < R) (hcK : c < K) : goS gu g R K G sn be so l he c = goS gu g R K G sn' be' so' l' he' c := by
  obtain ⟨e1, e2, e3, e4⟩ := hc c hcK
  have k1 := cntS_cong (g := gst gu g) (l := l) (l' := l') (h := he) (h' := he') K (fun c h => ⟨(hc c h).2.1, (hc c h).2.2.1⟩)
  have k2 := cntS_cong (g := fun _ => nI 0) (l := l) (l' := l') (h := hLike so he) (h' := hLike so' he') K (fun c h => ⟨(hc c h).2.1, by unfold hLike; rw [(hc c h).1, (hc c h).2.2.1]⟩)
  have kd : ∀ r, r < R → drawS (cntS (gst gu g) l he K) (cntS (fun _ => nI 0) l (hLike so he) K) be G (so c) r = drawS (cntS (gst gu g) l' he' K) (cntS (fun _ => nI 0) l' (hLike so' he') K) be' G (so c) r := by
    intro r hr
    unfold drawS
    rw [k1 r, k2 r]
    by_cases hk : so c = nI 3 ∧ 0 < G
    · rw [hbe hk.2 r hr]
    · rw [if_neg hk, if_neg hk]
  unfold goS goalS
  rw [← e1, ← e2, hsn _ e4]
  split
  · rfl
  · exact (bestS_congR kd e4 R (Nat.le_refl R)).1
theorem wentS_cong {l l' g g' : Nat → Nat} : ∀ n, (∀ c, c < n → l c = l' c ∧ g c = g' c) → wentS l g n = wentS l' g' n
  | 0, _ => rfl
  | n + 1, h => by
    have ih := wentS_cong n (fun c hc => h c (by omega))
    obtain ⟨e1, e2⟩ := h n (by omega)
    unfold wentS
    rw [e1, e2, ih]
/-- a house while bells ring: bells gone, how many were in, where the crowds are -/
abbrev RST : Type := Nat × FN × (Nat → Nat)
def rg1 (gu : Int32) (g R K : Nat) (sn so he : FN) (x : RST) : RST := (x.1 + 1, cntS (gst gu g) x.2.2 he K, goS gu g R K x.1 sn x.2.1 so x.2.2 he)
def rgN (gu : Int32) (g R K : Nat) (sn so he : FN) (x : RST) : Nat → RST
  | 0 => x
  | n + 1 => rg1 gu g R K sn so he (rgN gu g R K sn so he x n)
theorem rgN_G {gu : Int32} {g R K : Nat} {sn so he : FN} {x : RST} : ∀ n, (rgN gu g R K sn so he x n).1 = x.1 + n
  | 0 => rfl
  | n + 1 => by
    show (rgN gu g R K sn so he x n).1 + 1 = _
    rw [rgN_G n]; omega
/-- arrays that stand for such a house -/
def HR (R K : Nat) (sn so he : FN) (x : RST) (sn0 be0 so0 lo0 he0 : FN) : Prop :=
  (∀ r, r < R → sn0 r = sn r) ∧ (0 < x.1 → ∀ r, r < R → be0 r = x.2.1 r) ∧ ∀ c, c < K → so0 c = so c ∧ he0 c = he c ∧ lo0 c = nI (x.2.2 c) ∧ x.2.2 c < R
theorem HR.go {R K : Nat} {sn so he : FN} {x : RST} {sn0 be0 so0 lo0 he0 be1 lo1 : FN} {gu : Int32} {g : Nat} (hR : R ≤ 6) (h : HR R K sn so he x sn0 be0 so0 lo0 he0) (hb : Ag 6 be1 (cntS (gst gu g) x.2.2 he0 K)) (hl : ∀ c, c < K → lo1 c = nI (goS gu g R K x.1 sn0 be0 so0 x.2.2 he0 c)) :
    HR R K sn so he (rg1 gu g R K sn so he x) sn0 be1 so0 lo1 he0 := by
  obtain ⟨h1, h2, h3⟩ := h
  refine ⟨h1, fun _ r hr => ?_, fun c hc => ⟨(h3 c hc).1, (h3 c hc).2.1, ?_, goS_ltR (h3 c hc).2.2.2⟩⟩
  · rw [hb r (by omega)]
    exact cntS_cong K (fun c hc => ⟨rfl, (h3 c hc).2.1⟩) r
  · rw [hl c hc]
    show nI _ = nI (goS gu g R K x.1 sn x.2.1 so x.2.2 he c)
    rw [goS_cong h1 h2 (fun c hc => ⟨(h3 c hc).1, rfl, (h3 c hc).2.1, (h3 c hc).2.2.2⟩) hc]
theorem HR.went {R K : Nat} {sn so he : FN} {x : RST} {sn0 be0 so0 lo0 he0 : FN} {gu : Int32} {g : Nat} (h : HR R K sn so he x sn0 be0 so0 lo0 he0) :
    wentS x.2.2 (goS gu g R K x.1 sn0 be0 so0 x.2.2 he0) K = wentS x.2.2 (rg1 gu g R K sn so he x).2.2 K := by
  obtain ⟨h1, h2, h3⟩ := h
  exact wentS_cong K (fun c hc => ⟨rfl, goS_cong h1 h2 (fun c hc => ⟨(h3 c hc).1, rfl, (h3 c hc).2.1, (h3 c hc).2.2.2⟩) hc⟩)
theorem met_post {l : Launch} {y : MethodName} {ws : List Cond} {rm : Room} {Pc : Array Value → State → Prop} {Qc Qc' : Array Value → State → Outcome → State → Prop} {mc ms : Nat} {free : Addr → Prop} (h : Met l y ws rm Pc Qc mc ms free) (hq : ∀ a st o t, Qc a st o t → Qc' a st o t) : Met l y ws rm Pc Qc' mc ms free := by
  intro p e ha hc hk s m args below hf hap hP hT
  obtain ⟨k, o, h1, h2, h3, h4, h5⟩ := h p e ha hc hk s m args below hf hap hP hT
  exact ⟨k, o, h1, h2, h3, hq _ _ _ _ h4, h5⟩
theorem Ctr.imp {E : EG} {M : MD} {q : RQ} {av : List Value} {ws : va_W} {post post' : PO} (h : Ctr E M q av ws post) (hp : ∀ v w, post v w → post' v w) : Ctr E M q av ws post' := by
  intro sz
  refine met_post (h sz) ?_
  rintro a st o t ⟨⟨r, w, h1, h2, h3⟩, hF⟩
  exact ⟨⟨r, w, h1, hp r w h2, h3⟩, hF⟩
/-- a bell of a house that stands for x -/
theorem c_ringH (E : EG) (a : Nat → Nat) (b : Nat) (se sn0 be0 so0 lo0 he0 inn al go : FN) (gu : Int32) (R K g : Nat) (sn so he : FN) (x : RST) (hR : R ≤ 6) (hK : K ≤ 5) (hG : x.1 < 2 ^ 30) (hg : g < 6) (h : HR R K sn so he x sn0 be0 so0 lo0 he0) :
    Ctr E mX3_ring (2, 0, 0) [.ref (a b)] (wH E a b se sn0 be0 so0 lo0 he0 inn al go (nI R) (nI K) (nI x.1) gu (nI g)) (fun v w => ∃ be1 lo1 f1 f2 f3 : FN, v = some (.int (wentS x.2.2 (rg1 gu g R K sn so he x).2.2 K)) ∧ w = wH E a b se sn0 be1 so0 lo1 he0 f1 f2 f3 (nI R) (nI K) (nI (rg1 gu g R K sn so he x).1) gu (nI g) ∧ HR R K sn so he (rg1 gu g R K sn so he x) sn0 be1 so0 lo1 he0) := by
  refine Ctr.imp (c_ring E a b se sn0 be0 so0 lo0 he0 inn al go gu R K x.1 g x.2.2 hR hK hG hg (fun c hc => ⟨(h.2.2 c hc).2.2.1, Nat.lt_of_lt_of_le (h.2.2 c hc).2.2.2 hR⟩)) ?_
  rintro v w ⟨be1, lo1, f1, f2, f3, rfl, rfl, h1, h2⟩
  exact ⟨be1, lo1, f1, f2, f3, by rw [h.went], rfl, h.go hR h1 h2⟩
