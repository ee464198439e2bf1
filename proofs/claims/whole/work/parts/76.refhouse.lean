/-! the reference: a house is read -/
theorem FR.cg {f f' : FN} {R K D : Nat} {se sn so lo he : FN} (h : FR f R K D se sn so lo he) (hR : R ≤ 6) (hK : K ≤ 5) (hf : ∀ j, j < 37 → f' j = f j) : FR f' R K D se sn so lo he := by
  obtain ⟨a0, a1, a2, a3, a4, a5, a6, a7⟩ := h
  exact ⟨(hf _ (by omega)).trans a0, (hf _ (by omega)).trans a1, (hf _ (by omega)).trans a2, (hf _ (by omega)).trans a3, fun r hr => (hf _ (by omega)).trans (a4 r hr), fun r hr => (hf _ (by omega)).trans (a5 r hr), fun r hr => (hf _ (by omega)).trans (a6 r hr), fun c hc => ⟨(hf _ (by omega)).trans (a7 c hc).1, (hf _ (by omega)).trans (a7 c hc).2.1, (hf _ (by omega)).trans (a7 c hc).2.2⟩⟩
/-- a plan by its parts -/
def FRx (f : FN) (x : PLN) : Prop := FR f x.1.1 x.1.2.1 x.1.2.2 x.2.1 x.2.2.1 x.2.2.2.1 x.2.2.2.2.1 x.2.2.2.2.2
def BDx (x : PLN) : Prop := x.1.1 ≤ 6 ∧ x.1.2.1 ≤ 5 ∧ x.1.2.2 ≤ 12
theorem npt0 {t : FN} {S p : Nat} (h : isW t S p 0) : nptS t S p 0 = 0 := ifP_t ⟨rfl, h⟩
theorem npt1 {t : FN} {S p : Nat} (h : isW t S p 1) : nptS t S p 1 = 1 := (ifP_f (fun k => absurd k.1 (by decide))).trans (ifP_t ⟨by decide, h⟩)
theorem npt1n {t : FN} {S p : Nat} (h : ¬ isW t S p 1) : nptS t S p 1 = 2 := (ifP_f (fun k => absurd k.1 (by decide))).trans (ifP_f (fun k => h k.2))
theorem npt2 {t : FN} {S p : Nat} : nptS t S p 2 = 2 := (ifP_f (fun k => absurd k.1 (by decide))).trans (ifP_f (fun k => absurd k.1 (by decide)))
theorem npt01 {t : FN} {S p : Nat} (h : ¬ isW t S p 0) : nptS t S p 0 = nptS t S p 1 := by
  by_cases h1 : isW t S p 1
  · rw [npt1 h1]; exact (ifP_f (fun k => h k.2)).trans (ifP_t ⟨by decide, h1⟩)
  · rw [npt1n h1]; exact (ifP_f (fun k => h k.2)).trans (ifP_f (fun k => h1 k.2))
theorem rdLoop_s (t : FN) (S d P p : Nat) (x : PLN) : rdLoop t S (d + 1) P p x = if tkS t S p = 0 then .inr (p, x) else rbind (rdPart t S p P x.1.1 x.1.2.1 x.1.2.2 x.2.1 x.2.2.1 x.2.2.2.1 x.2.2.2.2.1 x.2.2.2.2.2) fun y => rdLoop t S d (nptS t S p P) y.1 y.2 := rfl
theorem rdLoop_01 {t : FN} {S p : Nat} {x : PLN} (h : ¬ isW t S p 0) : ∀ d, rdLoop t S d 0 p x = rdLoop t S d 1 p x
  | 0 => rfl
  | d + 1 => by
    rw [rdLoop_s, rdLoop_s]
    unfold rdPart
    rw [npt01 h]
theorem rdLoop_12 {t : FN} {S p : Nat} {x : PLN} (h : ¬ isW t S p 1) : ∀ d, rdLoop t S d 1 p x = rdLoop t S d 2 p x
  | 0 => rfl
  | d + 1 => by
    rw [rdLoop_s, rdLoop_s]
    unfold rdPart
    rw [npt1n h, npt2]
theorem rdLoop_r {t : FN} {S p d : Nat} {x : PLN} (h : isW t S p 0) : rdLoop t S (d + 1) 0 p x = rbind (rdRoom t S p x.1.1 x.1.2.1 x.1.2.2 x.2.1 x.2.2.1 x.2.2.2.1 x.2.2.2.2.1 x.2.2.2.2.2) fun y => rdLoop t S d 0 y.1 y.2 := by
  rw [rdLoop_s, if_neg (by rw [h.1]; decide)]
  unfold rdPart
  rw [npt0 h]; rfl
theorem rdLoop_d {t : FN} {S p d : Nat} {x : PLN} (h : isW t S p 1) : rdLoop t S (d + 1) 1 p x = rbind (rdDoor t S p x.1.1 x.1.2.1 x.1.2.2 x.2.1 x.2.2.1 x.2.2.2.1 x.2.2.2.2.1 x.2.2.2.2.2) fun y => rdLoop t S d 1 y.1 y.2 := by
  rw [rdLoop_s, if_neg (by rw [h.1]; decide)]
  unfold rdPart
  rw [npt1 h]; rfl
theorem rdLoop_c {t : FN} {S p d : Nat} {x : PLN} (h : tkS t S p ≠ 0) : rdLoop t S (d + 1) 2 p x = rbind (rdCrowd t S p x.1.1 x.1.2.1 x.1.2.2 x.2.1 x.2.2.1 x.2.2.2.1 x.2.2.2.2.1 x.2.2.2.2.2) fun y => rdLoop t S d 2 y.1 y.2 := by
  rw [rdLoop_s, if_neg h]
  unfold rdPart
  rw [npt2]; rfl
theorem rdLoop_n {t : FN} {S p d : Nat} {x : PLN} (h : tkS t S p ≠ 0) (h2 : ¬ isW t S p 2) : rdLoop t S (d + 1) 2 p x = .inl (p, 1) := by
  rw [rdLoop_c h]
  unfold rdCrowd
  rw [show rdWord t S p 2 (x.1.2.1 < 5) = .inl (p, 1) from ifP_f h2]; rfl
theorem rdLoop_e {t : FN} {S p d P : Nat} {x : PLN} (h : tkS t S p = 0) : rdLoop t S (d + 1) P p x = .inr (p, x) := by
  rw [rdLoop_s, if_pos h]
theorem rdTape_r {t : FN} {S : Nat} {se sn so lo he : FN} (h : isW t S 0 0) : rdTape t S se sn so lo he = rdLoop t S 401 0 0 ((0, 0, 0), se, sn, so, lo, he) := by
  rw [rdLoop_r h]; rfl
theorem rdTape_n {t : FN} {S : Nat} {se sn so lo he : FN} (h : ¬ isW t S 0 0) : rdTape t S se sn so lo he = .inl (0, 1) := by
  unfold rdTape rdRoom
  rw [show rdWord t S 0 0 (0 < 6) = .inl (0, 1) from ifP_f h]; rfl
theorem rbind_l {α β : Type} {r : RS α} {f : α → RS β} {e : Nat × Nat} (h : r = .inl e) : rbind r f = .inl e := by rw [h]; rfl
theorem rbind_r {α β : Type} {r : RS α} {f : α → RS β} {y : α} (h : r = .inr y) : rbind r f = f y := by rw [h]; rfl
set_option maxRecDepth 20000 in
set_option maxHeartbeats 4000000 in
theorem c_m_house (E : EG) (a : Nat → Nat) (tn st ac lt lg cu tk sr tl fa fp gn gi gm tr : Int32) (la mn im ho fr wa tp wh go se no al be ik ke tc : FN) (t : FN) (S : Nat) (hS : S ≤ 400) (htp : ∀ j, j < S → tp j = t j) (hby : ∀ j, j < S → ∃ b, b < 256 ∧ t j = nI b) (se0 sn0 so0 lo0 he0 : FN) (hsn0 : ∀ j, j < 6 → sn0 j = nI 0) : Ctr E mX8_house (7, 0, 0) [.ref (a 0)] (wM E a tn st la mn im ho fr wa ac tp ((nI S)) lt lg cu tk sr tl fa fp wh go se no al be gn gi gm ik ke tc tr) (fun v w => ∃ (fr' : FN) (lg' cu' tk' sr' tl' fa' fp' : Int32), (∃ (e k : Nat), rdTape t S se0 sn0 so0 lo0 he0 = .inl (e, k) ∧ v = some (.int (-1000100 - nI (stS t S e))) ∧ w = wM E a ((nI 0)) st la mn im ho (fr') wa ac tp ((nI 0)) ((nI k)) (lg') (cu') (tk') (sr') (tl') (fa') (fp') wh go se no al be gn gi gm ik ke tc tr) ∨ (∃ (x : Nat × PLN) (ho' : FN), rdTape t S se0 sn0 so0 lo0 he0 = .inr x ∧ v = some (.int (nI x.2.1.1)) ∧ FRx ho' x.2 ∧ w = wM E a ((nI 0)) st la mn im (ho') (fr') wa ((nI 0)) tp ((nI 0)) lt (lg') (cu') (tk') (sr') (tl') (fa') (fp') wh go se no al be gn gi gm ik ke tc tr)) := by
  refine Ctr.of (by decide) (Nat.le_of_ble_eq_true rfl) ?_
  intro Z hO hn C
  have hlen : zn Z ≤ 17 := by rw [hn]; exact Nat.le_of_ble_eq_true rfl
  generalize hr : rdTape t S se0 sn0 so0 lo0 he0 = r9 at hO
  have LF120 : ∀ (e9 k9 : Nat), 0 < k9 → k9 < 4 → e9 ≤ S → r9 = .inl (e9, k9) → ∀ f9 : FN, V E mX8_house (7, 0, 0) Z 0 0 (wM E a ((nI 0)) st la mn im ho f9 wa ac tp ((nI 0)) lt ((nI S)) ((nI (nxS t S e9))) ((nI (tkM (tkS t S e9)))) ((nI (stS t S e9))) ((nI (nxS t S e9))) ((nI k9)) ((nI (stS t S e9))) wh go se no al be gn gi gm ik ke tc tr) [(0, .ref (a 0))] [] 120 := by
    intro e9 k9 hk90 hk94 he9 hr9 f9
    refine mr_aload_n C 121 dX8_house_120 rfl rfl ?_
    refine mr_get C 0 124 dX8_house_121 rfl fl_X8_117 rfl rfl ?_
    refine mr_ifle C 143 127 dX8_house_124 (by decide) rfl (fun c_124 => ?_) (fun c_124 => ?_)
    · exact absurd c_124 (nI_nle hk90 (by omega))
    · refine mr_aload_n C 128 dX8_house_127 rfl rfl ?_
      refine mr_aload_n C 129 dX8_house_128 rfl rfl ?_
      refine mr_get C 0 132 dX8_house_129 rfl fl_X8_117 rfl rfl ?_
      refine mr_put C 0 135 dX8_house_132 rfl fs_X8_185 rfl rfl rfl (Nat.le_of_ble_eq_true rfl) ?_
      refine mr_ldc C 137 dX8_house_135 rfl kc_X8_188 ?_
      refine mr_aload_n C 138 dX8_house_137 rfl rfl ?_
      refine mr_get C 0 141 dX8_house_138 rfl fl_X8_123 rfl rfl ?_
      refine mr_isub C _ 142 dX8_house_141 rfl rfl ?_
      refine mr_iret C dX8_house_142 rfl rfl (by decide) (by decide) hlen ?_
      rw [hO]
      exact ⟨f9, _, _, _, _, _, _, _, Or.inl ⟨e9, k9, hr9, rfl, rfl⟩⟩
  have LF100 : ∀ (e9 k9 : Nat), 0 < k9 → k9 < 4 → e9 ≤ S → r9 = .inl (e9, k9) → ∀ f9 : FN, V E mX8_house (7, 0, 0) Z 0 0 (wM E a ((nI 0)) st la mn im ho f9 wa ac tp ((nI 0)) lt ((nI S)) ((nI (nxS t S e9))) ((nI (tkM (tkS t S e9)))) ((nI (stS t S e9))) ((nI (nxS t S e9))) ((nI k9)) ((nI (stS t S e9))) wh go se no al be gn gi gm ik ke tc tr) [(0, .ref (a 0))] [] 100 := by
    intro e9 k9 hk90 hk94 he9 hr9 f9
    refine mr_aload_n C 101 dX8_house_100 rfl rfl ?_
    refine mr_get C 0 104 dX8_house_101 rfl fl_X8_117 rfl rfl ?_
    refine mr_ifne C 120 107 dX8_house_104 (by decide) rfl (fun c_104 => ?_) (fun c_104 => ?_)
    · exact mr_at (LF120 e9 k9 hk90 hk94 he9 hr9 f9) rfl rfl rfl
    · exact absurd c_104 (nI_ne0 hk90 (by omega))
  have LF82 : ∀ (e9 k9 : Nat), 0 < k9 → k9 < 4 → e9 ≤ S → r9 = .inl (e9, k9) → ∀ f9 : FN, V E mX8_house (7, 0, 0) Z 0 0 (wM E a ((nI 0)) st la mn im ho f9 wa ac tp ((nI 0)) lt ((nI S)) ((nI (nxS t S e9))) ((nI (tkM (tkS t S e9)))) ((nI (stS t S e9))) ((nI (nxS t S e9))) ((nI k9)) ((nI (stS t S e9))) wh go se no al be gn gi gm ik ke tc tr) [(0, .ref (a 0))] [] 82 := by
    intro e9 k9 hk90 hk94 he9 hr9 f9
    refine mr_aload_n C 83 dX8_house_82 rfl rfl ?_
    refine mr_callV C (c_m_name E a ((nI 0)) st ac ((nI 0)) lt ((nI (stS t S e9))) gn gi gm tr la mn im ho f9 wa tp wh go se no al be ik ke tc t S hS htp hby e9 he9 k9 hk94) [0, 1, 2, 3, 4, 5, 6, 7, 8, 9, 10, 11, 12, 13, 14, 15, 16] 0 8 86 dX8_house_83 rfl mk_X8_name mi_X8_name ml_X8_159 rfl rfl rfl rfl rfl (Nat.le_of_ble_eq_true rfl) (by decide) (by decide) (by decide) rfl rfl (fun r w1 hpost => ?_)
    obtain ⟨rfl, rfl⟩ := hpost
    refine mr_w (wput_all _ _ 17 rfl rfl) ?_
    rw [if_neg (by omega)]
    refine mr_ldc2 C 89 dX8_house_86 rfl kc_X8_180 ?_
    refine mr_lcmp C 90 dX8_house_89 rfl ?_
    refine mr_ifne C 100 93 dX8_house_90 (by decide) rfl (fun c_90 => ?_) (fun c_90 => ?_)
    · exact mr_at (LF100 e9 k9 hk90 hk94 he9 hr9 f9) rfl rfl rfl
    · exact absurd ((lcmp_0 _ _).mp c_90) (by decide)
  have LF64 : ∀ (e9 k9 : Nat), 0 < k9 → k9 < 4 → e9 ≤ S → r9 = .inl (e9, k9) → ∀ f9 : FN, V E mX8_house (7, 0, 0) Z 0 0 (wM E a ((nI 0)) st la mn im ho f9 wa ac tp ((nI 0)) lt ((nI S)) ((nI (nxS t S e9))) ((nI (tkM (tkS t S e9)))) ((nI (stS t S e9))) ((nI (nxS t S e9))) ((nI k9)) ((nI (stS t S e9))) wh go se no al be gn gi gm ik ke tc tr) [(0, .ref (a 0))] [] 64 := by
    intro e9 k9 hk90 hk94 he9 hr9 f9
    refine mr_aload_n C 65 dX8_house_64 rfl rfl ?_
    refine mr_callV C (c_m_name E a ((nI 0)) st ac ((nI 0)) lt ((nI (stS t S e9))) gn gi gm tr la mn im ho f9 wa tp wh go se no al be ik ke tc t S hS htp hby e9 he9 k9 hk94) [0, 1, 2, 3, 4, 5, 6, 7, 8, 9, 10, 11, 12, 13, 14, 15, 16] 0 8 68 dX8_house_65 rfl mk_X8_name mi_X8_name ml_X8_159 rfl rfl rfl rfl rfl (Nat.le_of_ble_eq_true rfl) (by decide) (by decide) (by decide) rfl rfl (fun r w1 hpost => ?_)
    obtain ⟨rfl, rfl⟩ := hpost
    refine mr_w (wput_all _ _ 17 rfl rfl) ?_
    rw [if_neg (by omega)]
    refine mr_ldc2 C 71 dX8_house_68 rfl kc_X8_175 ?_
    refine mr_lcmp C 72 dX8_house_71 rfl ?_
    refine mr_ifne C 82 75 dX8_house_72 (by decide) rfl (fun c_72 => ?_) (fun c_72 => ?_)
    · exact mr_at (LF82 e9 k9 hk90 hk94 he9 hr9 f9) rfl rfl rfl
    · exact absurd ((lcmp_0 _ _).mp c_72) (by decide)
  have LF46 : ∀ (e9 k9 : Nat), 0 < k9 → k9 < 4 → e9 ≤ S → r9 = .inl (e9, k9) → ∀ f9 : FN, V E mX8_house (7, 0, 0) Z 0 0 (wM E a ((nI 0)) st la mn im ho f9 wa ac tp ((nI 0)) lt ((nI S)) ((nI (nxS t S e9))) ((nI (tkM (tkS t S e9)))) ((nI (stS t S e9))) ((nI (nxS t S e9))) ((nI k9)) ((nI (stS t S e9))) wh go se no al be gn gi gm ik ke tc tr) [(0, .ref (a 0))] [] 46 := by
    intro e9 k9 hk90 hk94 he9 hr9 f9
    refine mr_aload_n C 47 dX8_house_46 rfl rfl ?_
    refine mr_callV C (c_m_name E a ((nI 0)) st ac ((nI 0)) lt ((nI (stS t S e9))) gn gi gm tr la mn im ho f9 wa tp wh go se no al be ik ke tc t S hS htp hby e9 he9 k9 hk94) [0, 1, 2, 3, 4, 5, 6, 7, 8, 9, 10, 11, 12, 13, 14, 15, 16] 0 8 50 dX8_house_47 rfl mk_X8_name mi_X8_name ml_X8_159 rfl rfl rfl rfl rfl (Nat.le_of_ble_eq_true rfl) (by decide) (by decide) (by decide) rfl rfl (fun r w1 hpost => ?_)
    obtain ⟨rfl, rfl⟩ := hpost
    refine mr_w (wput_all _ _ 17 rfl rfl) ?_
    rw [if_neg (by omega)]
    refine mr_ldc2 C 53 dX8_house_50 rfl kc_X8_170 ?_
    refine mr_lcmp C 54 dX8_house_53 rfl ?_
    refine mr_ifne C 64 57 dX8_house_54 (by decide) rfl (fun c_54 => ?_) (fun c_54 => ?_)
    · exact mr_at (LF64 e9 k9 hk90 hk94 he9 hr9 f9) rfl rfl rfl
    · exact absurd ((lcmp_0 _ _).mp c_54) (by decide)
  have LC : ∀ (p : Nat) (x : PLN) (f9 : FN) (fp9 : Int32), p ≤ S → FRx f9 x → BDx x → r9 = .inr (p, x) → V E mX8_house (7, 0, 0) Z 0 0 (wM E a ((nI 0)) st la mn im ho f9 wa ac tp ((nI 0)) lt ((nI S)) ((nI (nxS t S p))) ((nI (tkM (tkS t S p)))) ((nI (stS t S p))) ((nI (nxS t S p))) ((nI 0)) fp9 wh go se no al be gn gi gm ik ke tc tr) [(0, .ref (a 0))] [] 143 := by
    intro p x f9 fp9 hp9 hfx hbx hrx
    have LK : ∀ k, k ≤ 37 → ∀ f2 : FN, (∀ j, j < k → f2 j = f9 j) → V E mX8_house (7, 0, 0) Z 0 0 (wM E a ((nI 0)) st la mn im f2 f9 wa ((nI 0)) tp ((nI 0)) lt ((nI S)) ((nI (nxS t S p))) ((nI (tkM (tkS t S p)))) ((nI (stS t S p))) ((nI (nxS t S p))) ((nI 0)) fp9 wh go se no al be gn gi gm ik ke tc tr) [(0, .ref (a 0)), (1, .int (nI k))] [] 150 := by
      refine lp_up 37 ?_
      intro k hk9 ihk f2 hf2
      refine mr_iload_n C 151 dX8_house_150 rfl rfl ?_
      refine mr_bipush C (nI 37) 153 dX8_house_151 rfl rfl ?_
      refine mr_icmpge C 174 156 dX8_house_153 (by decide) rfl (fun c_153 => ?_) (fun c_153 => ?_)
      · rw [nI_leI (by omega) (by omega)] at c_153
        refine mr_aload_n C 175 dX8_house_174 rfl rfl ?_
        refine mr_get C 0 178 dX8_house_175 rfl fl_X8_19 rfl rfl ?_
        refine mr_iconst C (nI 0) 179 dX8_house_178 rfl rfl ?_
        refine mr_iald C 4 0 180 dX8_house_179 rfl rfl rfl (by omega) (by decide) ?_
        refine mr_iret C dX8_house_180 rfl rfl (by decide) (by decide) hlen ?_
        rw [hO]
        obtain rfl : k = 37 := by omega
        refine ⟨f9, _, _, _, _, _, _, _, Or.inr ⟨(p, x), f2, hrx, congrArg (fun z => some (Value.int z)) ((hf2 0 (by omega)).trans hfx.1), FR.cg hfx hbx.1 hbx.2.1 hf2, rfl⟩⟩
      · rw [nI_leI (by omega) (by omega)] at c_153
        refine mr_aload_n C 157 dX8_house_156 rfl rfl ?_
        refine mr_get C 0 160 dX8_house_157 rfl fl_X8_19 rfl rfl ?_
        refine mr_iload_n C 161 dX8_house_160 rfl rfl ?_
        refine mr_aload_n C 162 dX8_house_161 rfl rfl ?_
        refine mr_get C 0 165 dX8_house_162 rfl fl_X8_22 rfl rfl ?_
        refine mr_iload_n C 166 dX8_house_165 rfl rfl ?_
        refine mr_iald C 5 k 167 dX8_house_166 rfl rfl rfl (by omega) (by decide) ?_
        refine mr_iast C 4 k 168 dX8_house_167 rfl rfl rfl (by omega) (by decide) ?_
        refine mr_iinc C (nI (k + 1)) 171 dX8_house_168 rfl rfl (by decide) (nI_add k 1) ?_
        refine mr_goto C 150 dX8_house_171 (by decide) ?_
        refine mr_at (ihk (by omega) _ (fun j hj => ?_)) rfl rfl rfl
        rw [up_at]
        by_cases e : j = k
        · rw [if_pos e, e]
        · rw [if_neg e]; exact hf2 j (by omega)
    refine mr_aload_n C 144 dX8_house_143 rfl rfl ?_
    refine mr_iconst C (nI 0) 145 dX8_house_144 rfl rfl ?_
    refine mr_put C 0 148 dX8_house_145 rfl fs_X8_189 rfl rfl rfl (Nat.le_of_ble_eq_true rfl) ?_
    refine mr_iconst C (nI 0) 149 dX8_house_148 rfl rfl ?_
    refine mr_istore_n C 150 dX8_house_149 rfl rfl (by decide) ?_
    exact mr_at (LK 0 (Nat.zero_le _) ho (fun j h => absurd h (Nat.not_lt_zero j))) rfl rfl rfl
  have LO100 : ∀ (p : Nat) (x : PLN) (f9 : FN) (fp9 : Int32), p ≤ S → FRx f9 x → BDx x → ((tkS t S p = 0 → r9 = .inr (p, x)) ∧ (tkS t S p ≠ 0 → r9 = .inl (p, 1))) → V E mX8_house (7, 0, 0) Z 0 0 (wM E a ((nI 0)) st la mn im ho f9 wa ac tp ((nI 0)) lt ((nI S)) ((nI (nxS t S p))) ((nI (tkM (tkS t S p)))) ((nI (stS t S p))) ((nI (nxS t S p))) ((nI 0)) fp9 wh go se no al be gn gi gm ik ke tc tr) [(0, .ref (a 0))] [] 100 := by
    intro p x f9 fp9 hp9 hfx hbx hrx
    have htk := tkM_lt t S p
    refine mr_aload_n C 101 dX8_house_100 rfl rfl ?_
    refine mr_get C 0 104 dX8_house_101 rfl fl_X8_117 rfl rfl ?_
    refine mr_ifne C 120 107 dX8_house_104 (by decide) rfl (fun c_ => absurd (by decide) c_) (fun _ => ?_)
    refine mr_aload_n C 108 dX8_house_107 rfl rfl ?_
    refine mr_get C 0 111 dX8_house_108 rfl fl_X8_105 rfl rfl ?_
    refine mr_iconst C (nI 1) 112 dX8_house_111 rfl rfl ?_
    refine mr_icmpeq C 120 115 dX8_house_112 (by decide) rfl (fun c_112 => ?_) (fun c_112 => ?_)
    · rw [nI_eq (by omega) (by omega), tkM_is (by decide) (by decide)] at c_112
      refine mr_aload_n C 121 dX8_house_120 rfl rfl ?_
      refine mr_get C 0 124 dX8_house_121 rfl fl_X8_117 rfl rfl ?_
      refine mr_ifle C 143 127 dX8_house_124 (by decide) rfl (fun c_124 => ?_) (fun c_124 => ?_)
      · exact mr_at (LC p x f9 fp9 hp9 hfx hbx (hrx.1 (by omega))) rfl rfl rfl
      · exact absurd (by decide) c_124
    · rw [nI_eq (by omega) (by omega), tkM_is (by decide) (by decide)] at c_112
      refine mr_aload_n C 116 dX8_house_115 rfl rfl ?_
      refine mr_iconst C (nI 1) 117 dX8_house_116 rfl rfl ?_
      refine mr_callV C (c_m_bad E a ((nI 0)) st ac ((nI 0)) lt (nI S) (nI (nxS t S p)) (nI (tkM (tkS t S p))) (nI (stS t S p)) (nI (nxS t S p)) fp9 gn gi gm tr la mn im ho f9 wa tp wh go se no al be ik ke tc 1) [0, 1, 2, 3, 4, 5, 6, 7, 8, 9, 10, 11, 12, 13, 14, 15, 16] 0 8 120 dX8_house_117 rfl mk_X8_bad mi_X8_bad ml_X8_126 rfl rfl rfl rfl rfl (Nat.le_of_ble_eq_true rfl) (by decide) (by decide) (by decide) rfl rfl (fun r w1 hpost => ?_)
      obtain ⟨rfl, rfl⟩ := hpost
      refine mr_w (wput_all _ _ 17 rfl rfl) ?_
      exact mr_at (LF120 p 1 (by decide) (by decide) hp9 (hrx.2 (by omega)) f9) rfl rfl rfl
  have LO82 : ∀ (d : Nat) (p : Nat) (x : PLN) (f9 : FN) (fp9 : Int32), p ≤ S → FRx f9 x → BDx x → S - p < d → rdLoop t S d 2 p x = r9 → V E mX8_house (7, 0, 0) Z 0 0 (wM E a ((nI 0)) st la mn im ho f9 wa ac tp ((nI 0)) lt ((nI S)) ((nI (nxS t S p))) ((nI (tkM (tkS t S p)))) ((nI (stS t S p))) ((nI (nxS t S p))) ((nI 0)) fp9 wh go se no al be gn gi gm ik ke tc tr) [(0, .ref (a 0))] [] 82 := by
    intro d
    induction d with
    | zero => intro p x f9 fp9 hp9 hfx hbx hd9; omega
    | succ d ihd =>
      intro p x f9 fp9 hp9 hfx hbx hd9 hrx
      refine mr_aload_n C 83 dX8_house_82 rfl rfl ?_
      refine mr_callV C (c_m_name E a ((nI 0)) st ac ((nI 0)) lt fp9 gn gi gm tr la mn im ho f9 wa tp wh go se no al be ik ke tc t S hS htp hby p hp9 0 (by decide)) [0, 1, 2, 3, 4, 5, 6, 7, 8, 9, 10, 11, 12, 13, 14, 15, 16] 0 8 86 dX8_house_83 rfl mk_X8_name mi_X8_name ml_X8_159 rfl rfl rfl rfl rfl (Nat.le_of_ble_eq_true rfl) (by decide) (by decide) (by decide) rfl rfl (fun r w1 hpost => ?_)
      obtain ⟨rfl, rfl⟩ := hpost
      refine mr_w (wput_all _ _ 17 rfl rfl) ?_
      rw [if_pos rfl]
      refine mr_ldc2 C 89 dX8_house_86 rfl kc_X8_180 ?_
      refine mr_lcmp C 90 dX8_house_89 rfl ?_
      refine mr_ifne C 100 93 dX8_house_90 (by decide) rfl (fun c_90 => ?_) (fun c_90 => ?_)
      · have hw : ¬ isW t S p 2 := fun h => c_90 ((lcmp_0 _ _).mpr ((nm_2 t S p hp9).mpr h))
        exact mr_at (LO100 p x f9 fp9 hp9 hfx hbx ⟨fun e => by rw [← hrx]; exact rdLoop_e e, fun e => by rw [← hrx]; exact rdLoop_n e hw⟩) rfl rfl rfl
      · have hw : isW t S p 2 := (nm_2 t S p hp9).mp ((lcmp_0 _ _).mp c_90)
        refine mr_aload_n C 94 dX8_house_93 rfl rfl ?_
        refine mr_callV C (c_readCrowd_m E a ((nI 0)) st ac ((nI 0)) lt fp9 gn gi gm tr la mn im ho f9 wa tp wh go se no al be ik ke tc t S hS htp hby p hp9 x.1.1 x.1.2.1 x.1.2.2 x.2.1 x.2.2.1 x.2.2.2.1 x.2.2.2.2.1 x.2.2.2.2.2 hbx.1 hbx.2.1 hbx.2.2 hfx hw) [0, 1, 2, 3, 4, 5, 6, 7, 8, 9, 10, 11, 12, 13, 14, 15, 16] 0 8 97 dX8_house_94 rfl mk_X8_readCrowd mi_X8_readCrowd ml_X8_182 rfl rfl rfl rfl rfl (Nat.le_of_ble_eq_true rfl) (by decide) (by decide) (by decide) rfl rfl (fun r w1 hpost => ?_)
        rcases hpost with ⟨rfl, ⟨e9, k9, f8, hs9, hk90, hk94, he9, rfl⟩ | ⟨y9, f8, hs9, hfy, rfl⟩⟩
        · refine mr_w (wput_all _ _ 17 rfl rfl) ?_
          refine mr_goto C 82 dX8_house_97 (by decide) ?_
          rw [rdLoop_c (by rw [hw.1]; decide), rbind_l hs9] at hrx
          exact mr_at (LF82 e9 k9 hk90 hk94 he9 hrx.symm f8) rfl rfl rfl
        · refine mr_w (wput_all _ _ 17 rfl rfl) ?_
          refine mr_goto C 82 dX8_house_97 (by decide) ?_
          rw [rdLoop_c (by rw [hw.1]; decide), rbind_r hs9] at hrx
          obtain ⟨g1, g2, g3, g4, g5⟩ := rdCrowd_ok hp9 hbx.1 hbx.2.1 hbx.2.2 hs9
          exact mr_at (ihd y9.1 y9.2 f8 fp9 g2 hfy ⟨g3, g4, g5⟩ (by omega) hrx) rfl rfl rfl
  have LO64 : ∀ (d : Nat) (p : Nat) (x : PLN) (f9 : FN) (fp9 : Int32), p ≤ S → FRx f9 x → BDx x → S - p < d → rdLoop t S d 1 p x = r9 → V E mX8_house (7, 0, 0) Z 0 0 (wM E a ((nI 0)) st la mn im ho f9 wa ac tp ((nI 0)) lt ((nI S)) ((nI (nxS t S p))) ((nI (tkM (tkS t S p)))) ((nI (stS t S p))) ((nI (nxS t S p))) ((nI 0)) fp9 wh go se no al be gn gi gm ik ke tc tr) [(0, .ref (a 0))] [] 64 := by
    intro d
    induction d with
    | zero => intro p x f9 fp9 hp9 hfx hbx hd9; omega
    | succ d ihd =>
      intro p x f9 fp9 hp9 hfx hbx hd9 hrx
      refine mr_aload_n C 65 dX8_house_64 rfl rfl ?_
      refine mr_callV C (c_m_name E a ((nI 0)) st ac ((nI 0)) lt fp9 gn gi gm tr la mn im ho f9 wa tp wh go se no al be ik ke tc t S hS htp hby p hp9 0 (by decide)) [0, 1, 2, 3, 4, 5, 6, 7, 8, 9, 10, 11, 12, 13, 14, 15, 16] 0 8 68 dX8_house_65 rfl mk_X8_name mi_X8_name ml_X8_159 rfl rfl rfl rfl rfl (Nat.le_of_ble_eq_true rfl) (by decide) (by decide) (by decide) rfl rfl (fun r w1 hpost => ?_)
      obtain ⟨rfl, rfl⟩ := hpost
      refine mr_w (wput_all _ _ 17 rfl rfl) ?_
      rw [if_pos rfl]
      refine mr_ldc2 C 71 dX8_house_68 rfl kc_X8_175 ?_
      refine mr_lcmp C 72 dX8_house_71 rfl ?_
      refine mr_ifne C 82 75 dX8_house_72 (by decide) rfl (fun c_72 => ?_) (fun c_72 => ?_)
      · have hw : ¬ isW t S p 1 := fun h => c_72 ((lcmp_0 _ _).mpr ((nm_1 t S p hp9).mpr h))
        rw [rdLoop_12 hw] at hrx
        exact mr_at (LO82 (d + 1) p x f9 fp9 hp9 hfx hbx hd9 hrx) rfl rfl rfl
      · have hw : isW t S p 1 := (nm_1 t S p hp9).mp ((lcmp_0 _ _).mp c_72)
        refine mr_aload_n C 76 dX8_house_75 rfl rfl ?_
        refine mr_callV C (c_readDoor_m E a ((nI 0)) st ac ((nI 0)) lt fp9 gn gi gm tr la mn im ho f9 wa tp wh go se no al be ik ke tc t S hS htp hby p hp9 x.1.1 x.1.2.1 x.1.2.2 x.2.1 x.2.2.1 x.2.2.2.1 x.2.2.2.2.1 x.2.2.2.2.2 hbx.1 hbx.2.1 hbx.2.2 hfx hw) [0, 1, 2, 3, 4, 5, 6, 7, 8, 9, 10, 11, 12, 13, 14, 15, 16] 0 8 79 dX8_house_76 rfl mk_X8_readDoor mi_X8_readDoor ml_X8_177 rfl rfl rfl rfl rfl (Nat.le_of_ble_eq_true rfl) (by decide) (by decide) (by decide) rfl rfl (fun r w1 hpost => ?_)
        rcases hpost with ⟨rfl, ⟨e9, k9, f8, hs9, hk90, hk94, he9, rfl⟩ | ⟨y9, f8, hs9, hfy, rfl⟩⟩
        · refine mr_w (wput_all _ _ 17 rfl rfl) ?_
          refine mr_goto C 64 dX8_house_79 (by decide) ?_
          rw [rdLoop_d hw, rbind_l hs9] at hrx
          exact mr_at (LF64 e9 k9 hk90 hk94 he9 hrx.symm f8) rfl rfl rfl
        · refine mr_w (wput_all _ _ 17 rfl rfl) ?_
          refine mr_goto C 64 dX8_house_79 (by decide) ?_
          rw [rdLoop_d hw, rbind_r hs9] at hrx
          obtain ⟨g1, g2, g3, g4, g5⟩ := rdDoor_ok hp9 hbx.1 hbx.2.1 hbx.2.2 hs9
          exact mr_at (ihd y9.1 y9.2 f8 fp9 g2 hfy ⟨g3, g4, g5⟩ (by omega) hrx) rfl rfl rfl
  have LO46 : ∀ (d : Nat) (p : Nat) (x : PLN) (f9 : FN) (fp9 : Int32), p ≤ S → FRx f9 x → BDx x → S - p < d → rdLoop t S d 0 p x = r9 → V E mX8_house (7, 0, 0) Z 0 0 (wM E a ((nI 0)) st la mn im ho f9 wa ac tp ((nI 0)) lt ((nI S)) ((nI (nxS t S p))) ((nI (tkM (tkS t S p)))) ((nI (stS t S p))) ((nI (nxS t S p))) ((nI 0)) fp9 wh go se no al be gn gi gm ik ke tc tr) [(0, .ref (a 0))] [] 46 := by
    intro d
    induction d with
    | zero => intro p x f9 fp9 hp9 hfx hbx hd9; omega
    | succ d ihd =>
      intro p x f9 fp9 hp9 hfx hbx hd9 hrx
      refine mr_aload_n C 47 dX8_house_46 rfl rfl ?_
      refine mr_callV C (c_m_name E a ((nI 0)) st ac ((nI 0)) lt fp9 gn gi gm tr la mn im ho f9 wa tp wh go se no al be ik ke tc t S hS htp hby p hp9 0 (by decide)) [0, 1, 2, 3, 4, 5, 6, 7, 8, 9, 10, 11, 12, 13, 14, 15, 16] 0 8 50 dX8_house_47 rfl mk_X8_name mi_X8_name ml_X8_159 rfl rfl rfl rfl rfl (Nat.le_of_ble_eq_true rfl) (by decide) (by decide) (by decide) rfl rfl (fun r w1 hpost => ?_)
      obtain ⟨rfl, rfl⟩ := hpost
      refine mr_w (wput_all _ _ 17 rfl rfl) ?_
      rw [if_pos rfl]
      refine mr_ldc2 C 53 dX8_house_50 rfl kc_X8_170 ?_
      refine mr_lcmp C 54 dX8_house_53 rfl ?_
      refine mr_ifne C 64 57 dX8_house_54 (by decide) rfl (fun c_54 => ?_) (fun c_54 => ?_)
      · have hw : ¬ isW t S p 0 := fun h => c_54 ((lcmp_0 _ _).mpr ((nm_0 t S p hp9).mpr h))
        rw [rdLoop_01 hw] at hrx
        exact mr_at (LO64 (d + 1) p x f9 fp9 hp9 hfx hbx hd9 hrx) rfl rfl rfl
      · have hw : isW t S p 0 := (nm_0 t S p hp9).mp ((lcmp_0 _ _).mp c_54)
        refine mr_aload_n C 58 dX8_house_57 rfl rfl ?_
        refine mr_callV C (c_readRoom_m E a ((nI 0)) st ac ((nI 0)) lt fp9 gn gi gm tr la mn im ho f9 wa tp wh go se no al be ik ke tc t S hS htp hby p hp9 x.1.1 x.1.2.1 x.1.2.2 x.2.1 x.2.2.1 x.2.2.2.1 x.2.2.2.2.1 x.2.2.2.2.2 hbx.1 hbx.2.1 hbx.2.2 hfx hw) [0, 1, 2, 3, 4, 5, 6, 7, 8, 9, 10, 11, 12, 13, 14, 15, 16] 0 8 61 dX8_house_58 rfl mk_X8_readRoom mi_X8_readRoom ml_X8_172 rfl rfl rfl rfl rfl (Nat.le_of_ble_eq_true rfl) (by decide) (by decide) (by decide) rfl rfl (fun r w1 hpost => ?_)
        rcases hpost with ⟨rfl, ⟨e9, k9, f8, hs9, hk90, hk94, he9, rfl⟩ | ⟨y9, f8, hs9, hfy, rfl⟩⟩
        · refine mr_w (wput_all _ _ 17 rfl rfl) ?_
          refine mr_goto C 46 dX8_house_61 (by decide) ?_
          rw [rdLoop_r hw, rbind_l hs9] at hrx
          exact mr_at (LF46 e9 k9 hk90 hk94 he9 hrx.symm f8) rfl rfl rfl
        · refine mr_w (wput_all _ _ 17 rfl rfl) ?_
          refine mr_goto C 46 dX8_house_61 (by decide) ?_
          rw [rdLoop_r hw, rbind_r hs9] at hrx
          obtain ⟨g1, g2, g3, g4, g5⟩ := rdRoom_ok hp9 hbx.1 hbx.2.1 hbx.2.2 hs9
          exact mr_at (ihd y9.1 y9.2 f8 fp9 g2 hfy ⟨g3, g4, g5⟩ (by omega) hrx) rfl rfl rfl
  have LZ : ∀ k, k ≤ 37 → ∀ f9 : FN, (∀ j, j < k → f9 j = nI 0) → V E mX8_house (7, 0, 0) Z 0 0 (wM E a ((nI 0)) st la mn im ho f9 wa ac tp ((nI 0)) lt ((nI S)) ((nI (nxS t S 0))) ((nI (tkM (tkS t S 0)))) ((nI (stS t S 0))) ((nI (nxS t S 0))) ((nI 0)) fp wh go se no al be gn gi gm ik ke tc tr) [(0, .ref (a 0)), (1, .int (nI k))] [] 11 := by
    refine lp_up 37 ?_
    intro k hk ih f9 hf9
    refine mr_iload_n C 12 dX8_house_11 rfl rfl ?_
    refine mr_bipush C (nI 37) 14 dX8_house_12 rfl rfl ?_
    refine mr_icmpge C 30 17 dX8_house_14 (by decide) rfl (fun c_14 => ?_) (fun c_14 => ?_)
    · rw [nI_leI (by omega) (by omega)] at c_14
      refine mr_aload_n C 31 dX8_house_30 rfl rfl ?_
      refine mr_callV C (c_m_name E a ((nI 0)) st ac ((nI 0)) lt fp gn gi gm tr la mn im ho f9 wa tp wh go se no al be ik ke tc t S hS htp hby 0 (Nat.zero_le _) 0 (by decide)) [0, 1, 2, 3, 4, 5, 6, 7, 8, 9, 10, 11, 12, 13, 14, 15, 16] 0 8 34 dX8_house_31 rfl mk_X8_name mi_X8_name ml_X8_159 rfl rfl rfl rfl rfl (Nat.le_of_ble_eq_true rfl) (by decide) (by decide) (by decide) rfl rfl (fun r w1 hpost => ?_)
      obtain ⟨rfl, rfl⟩ := hpost
      refine mr_w (wput_all _ _ 17 rfl rfl) ?_
      rw [if_pos rfl]
      refine mr_ldc2 C 37 dX8_house_34 rfl kc_X8_170 ?_
      refine mr_lcmp C 38 dX8_house_37 rfl ?_
      refine mr_ifeq C 46 41 dX8_house_38 (by decide) rfl (fun c_38 => ?_) (fun c_38 => ?_)
      · have hw : isW t S 0 0 := (nm_0 t S 0 (Nat.zero_le _)).mp ((lcmp_0 _ _).mp c_38)
        have hk9 : k = 37 := by omega
        have h0 : ∀ j, j < 37 → f9 j = nI 0 := fun j hj => hf9 j (by omega)
        rw [rdTape_r hw] at hr
        exact mr_at (LO46 401 0 ((0, 0, 0), se0, sn0, so0, lo0, he0) f9 fp (Nat.zero_le _) ⟨h0 0 (by decide), h0 1 (by decide), h0 2 (by decide), h0 3 (by decide), fun r h => absurd h (Nat.not_lt_zero r), fun r h => (h0 _ (by omega)).trans (hsn0 r h).symm, fun r h => h0 _ (by omega), fun c h => absurd h (Nat.not_lt_zero c)⟩ ⟨Nat.zero_le _, Nat.zero_le _, Nat.zero_le _⟩ (by omega) hr) rfl rfl rfl
      · have hw : ¬ isW t S 0 0 := fun h => c_38 ((lcmp_0 _ _).mpr ((nm_0 t S 0 (Nat.zero_le _)).mpr h))
        refine mr_aload_n C 42 dX8_house_41 rfl rfl ?_
        refine mr_iconst C (nI 1) 43 dX8_house_42 rfl rfl ?_
        refine mr_callV C (c_m_bad E a ((nI 0)) st ac ((nI 0)) lt (nI S) (nI (nxS t S 0)) (nI (tkM (tkS t S 0))) (nI (stS t S 0)) (nI (nxS t S 0)) fp gn gi gm tr la mn im ho f9 wa tp wh go se no al be ik ke tc 1) [0, 1, 2, 3, 4, 5, 6, 7, 8, 9, 10, 11, 12, 13, 14, 15, 16] 0 8 46 dX8_house_43 rfl mk_X8_bad mi_X8_bad ml_X8_126 rfl rfl rfl rfl rfl (Nat.le_of_ble_eq_true rfl) (by decide) (by decide) (by decide) rfl rfl (fun r w1 hpost => ?_)
        obtain ⟨rfl, rfl⟩ := hpost
        refine mr_w (wput_all _ _ 17 rfl rfl) ?_
        have hk9 : k = 37 := by omega
        exact mr_at (LF46 0 1 (by decide) (by decide) (Nat.zero_le _) (hr.symm.trans (rdTape_n hw)) f9) rfl rfl rfl
    · rw [nI_leI (by omega) (by omega)] at c_14
      refine mr_aload_n C 18 dX8_house_17 rfl rfl ?_
      refine mr_get C 0 21 dX8_house_18 rfl fl_X8_22 rfl rfl ?_
      refine mr_iload_n C 22 dX8_house_21 rfl rfl ?_
      refine mr_iconst C (nI 0) 23 dX8_house_22 rfl rfl ?_
      refine mr_iast C 5 k 24 dX8_house_23 rfl rfl rfl (by omega) (by decide) ?_
      refine mr_iinc C (nI (k + 1)) 27 dX8_house_24 rfl rfl (by decide) (nI_add k 1) ?_
      refine mr_goto C 11 dX8_house_27 (by decide) ?_
      refine mr_at (ih (by omega) _ (fun j hj => ?_)) rfl rfl rfl
      rw [up_at]
      by_cases e : j = k
      · rw [if_pos e]
      · rw [if_neg e]; exact hf9 j (by omega)
  refine mr_aload_n C 1 dX8_house_0 rfl rfl ?_
  refine mr_iconst C (nI 0) 2 dX8_house_1 rfl rfl ?_
  refine mr_put C 0 5 dX8_house_2 rfl fs_X8_59 rfl rfl rfl (Nat.le_of_ble_eq_true rfl) ?_
  refine mr_w (ws' := wM E a ((nI 0)) st la mn im ho fr wa ac tp (nI S) lt lg cu tk sr tl fa fp wh go se no al be gn gi gm ik ke tc tr) rfl ?_
  refine mr_aload_n C 6 dX8_house_5 rfl rfl ?_
  refine mr_callV C (c_m_begin E a ((nI 0)) st ac lt lg cu tk sr tl fa fp gn gi gm tr la mn im ho fr wa tp wh go se no al be ik ke tc t S hS htp hby) [0, 1, 2, 3, 4, 5, 6, 7, 8, 9, 10, 11, 12, 13, 14, 15, 16] 0 8 9 dX8_house_6 rfl mk_X8_begin mi_X8_begin ml_X8_167 rfl rfl rfl rfl rfl (Nat.le_of_ble_eq_true rfl) (by decide) (by decide) (by decide) rfl rfl (fun r w1 hpost => ?_)
  obtain ⟨rfl, rfl⟩ := hpost
  refine mr_w (wput_all _ _ 17 rfl rfl) ?_
  refine mr_iconst C (nI 0) 10 dX8_house_9 rfl rfl ?_
  refine mr_istore_n C 11 dX8_house_10 rfl rfl (by decide) ?_
  exact mr_at (LZ 0 (Nat.zero_le _) fr (fun j h => absurd h (Nat.not_lt_zero j))) rfl rfl rfl

theorem s_r8 : ∀ k, k < 8 → (((nI (8 * k)).toInt64 &&& 63).toBitVec.smod 64).toNat = 8 * k := by decide +kernel
theorem s_u8 : ∀ k, k < 8 → (((nI (8 * k)).toInt64.toUInt64 &&& Int64.toUInt64 63).toBitVec % 64#64).toNat = 8 * k := by decide +kernel
theorem m255l : ∀ i, i < 32 → (255 : Int64).toBitVec.getLsbD i = decide (i < 8) := by decide +kernel
theorem m255i : ∀ i, i < 32 → bt (nI 255) i = decide (i < 8) := by decide +kernel
theorem byS_eq (w : Int64) {k : Nat} (hk : k < 8) : ((w >>> ((nI (8 * k)).toInt64 &&& 63)) &&& 255).toInt32 = byS w k := by
  refine b_ext (fun i hi => ?_)
  unfold byS
  rw [b_and, m255i i hi]
  unfold bt
  show (BitVec.signExtend 32 ((w >>> ((nI (8 * k)).toInt64 &&& 63)) &&& 255).toBitVec).getLsbD i = ((BitVec.signExtend 32 (w.toUInt64 >>> ((nI (8 * k)).toInt64.toUInt64 &&& Int64.toUInt64 63)).toBitVec).getLsbD i && decide (i < 8))
  rw [BitVec.getLsbD_signExtend, BitVec.getLsbD_signExtend, Int64.toBitVec_and, BitVec.getLsbD_and, m255l i hi, Int64.toBitVec_shiftRight, UInt64.toBitVec_shiftRight]
  show (decide (i < 32) && if i < 64 then (w.toBitVec.sshiftRight (((nI (8 * k)).toInt64 &&& 63).toBitVec.smod 64).toNat).getLsbD i && decide (i < 8) else _) = ((decide (i < 32) && if i < 64 then (w.toBitVec >>> (((nI (8 * k)).toInt64.toUInt64 &&& Int64.toUInt64 63).toBitVec % 64#64).toNat).getLsbD i else _) && decide (i < 8))
  rw [if_pos (by omega), if_pos (by omega), s_r8 k hk, s_u8 k hk, BitVec.getLsbD_sshiftRight, BitVec.getLsbD_ushiftRight]
  by_cases h8 : i < 8
  · rw [if_pos (by omega)]
    simp [hi, h8]
    omega
  · simp [h8]
set_option maxRecDepth 20000 in
set_option maxHeartbeats 4000000 in
theorem c_m_feed (E : EG) (a : Nat → Nat) (tn st ac lt lg cu tk sr tl fa fp gn gi gm tr : Int32) (la mn im ho fr wa tp wh go se no al be ik ke tc : FN) (t : FN) (S : Nat) (hS : S ≤ 400) (htp : ∀ j, j < S → tp j = t j) (w : Int64) (n0 : Int32) : Ctr E mX8_feed (3, 0, 0) [.ref (a 0), .long w, .int n0] (wM E a tn st la mn im ho fr wa ac tp ((nI S)) lt lg cu tk sr tl fa fp wh go se no al be gn gi gm ik ke tc tr) (fun v w_ => ∃ (tp' : FN) (S2 : Nat) (v2 : Int32), v = some (.int v2) ∧ w_ = wM E a ((nI 0)) st la mn im ho fr wa ac (tp') ((nI S2)) lt lg cu tk sr tl fa fp wh go se no al be gn gi gm ik ke tc tr ∧ ∀ (v' : Int32) (t' : FN) (S' : Nat), NxFeed w n0 t S v' t' S' → v' = v2 ∧ S2 = S' ∧ ∀ j, j < S' → tp' j = t' j) := by
  refine Ctr.of (by decide) (Nat.le_of_ble_eq_true rfl) ?_
  intro Z hO hn C
  have hlen : zn Z ≤ 17 := by rw [hn]; exact Nat.le_of_ble_eq_true rfl
  refine mr_aload_n C 1 dX8_feed_0 rfl rfl ?_
  refine mr_iconst C (nI 0) 2 dX8_feed_1 rfl rfl ?_
  refine mr_put C 0 5 dX8_feed_2 rfl fs_X8_59 rfl rfl rfl (Nat.le_of_ble_eq_true rfl) ?_
  refine mr_w (ws' := wM E a ((nI 0)) st la mn im ho fr wa ac tp (nI S) lt lg cu tk sr tl fa fp wh go se no al be gn gi gm ik ke tc tr) rfl ?_
  refine mr_iload_n C 6 dX8_feed_5 rfl rfl ?_
  refine mr_i2l C _ 7 dX8_feed_6 rfl rfl ?_
  refine mr_lconst C 1 8 dX8_feed_7 rfl rfl ?_
  refine mr_ldc2 C 11 dX8_feed_8 rfl kc_X8_84 ?_
  refine mr_callS C (c_inK E n0 (1) (8) _ _ rfl rfl) [] 14 dX8_feed_11 rfl mk_X8_in ms_X8_in ml_X8_69 rfl rfl rfl rfl (Nat.le_of_ble_eq_true rfl) (by decide) (by decide) (by decide) (fun r w1 hpost => ?_)
  obtain ⟨rfl, rfl⟩ := hpost
  refine mr_w (ws' := wM E a ((nI 0)) st la mn im ho fr wa ac tp (nI S) lt lg cu tk sr tl fa fp wh go se no al be gn gi gm ik ke tc tr) rfl ?_
  refine mr_ifne C 20 17 dX8_feed_14 (by decide) rfl (fun c_14 => ?_) (fun c_14 => ?_)
  · rw [bI_ne] at c_14
    obtain ⟨m, hm, rfl⟩ := tI_of (x := n0) (n := 9) (by omega) (by omega)
    have em_ : (nI m).toInt = (m : Int) := tI_n (by omega)
    have im_ : iN (nI m) = m := iN_n (by omega)
    refine mr_aload_n C 21 dX8_feed_20 rfl rfl ?_
    refine mr_get C 0 24 dX8_feed_21 rfl fl_X8_86 rfl rfl ?_
    refine mr_iload_n C 25 dX8_feed_24 rfl rfl ?_
    refine mr_iadd C (nI (S + m)) 26 dX8_feed_25 rfl (nI_add _ _) ?_
    refine mr_sipush C (nI 400) 29 dX8_feed_26 rfl rfl ?_
    refine mr_icmple C 35 32 dX8_feed_29 (by decide) rfl (fun c_29 => ?_) (fun c_29 => ?_)
    · rw [nI_leI (by omega) (by omega)] at c_29
      refine mr_iload_n C 36 dX8_feed_35 rfl rfl ?_
      refine mr_iconst C (nI 1) 37 dX8_feed_36 rfl rfl ?_
      refine mr_isub C (nI m - nI 1) 38 dX8_feed_37 rfl rfl ?_
      refine mr_istore C 40 dX8_feed_38 rfl (by decide) ?_
      have L : ∀ i, i ≤ m → ∀ f : FN, (∀ j, j < S → f j = tp j) → (∀ j, j < i → f (S + j) = byS w (m - 1 - j)) → V E mX8_feed (3, 0, 0) Z 0 0 (wM E a ((nI 0)) st la mn im ho fr wa ac f ((nI (S + i))) lt lg cu tk sr tl fa fp wh go se no al be gn gi gm ik ke tc tr) [(0, .ref (a 0)), (1, .long w), (3, .int (nI m)), (4, .int (nI (m - i) - nI 1))] [] 40 := by
        refine lp_up m ?_
        intro i hi ih f hf1 hf2
        refine mr_iload C 42 dX8_feed_40 rfl rfl ?_
        refine mr_iflt C 82 45 dX8_feed_42 (by decide) rfl (fun c_42 => ?_) (fun c_42 => ?_)
        · refine mr_aload_n C 83 dX8_feed_82 rfl rfl ?_
          refine mr_get C 0 86 dX8_feed_83 rfl fl_X8_86 rfl rfl ?_
          refine mr_iret C dX8_feed_86 rfl rfl (by decide) (by decide) hlen ?_
          rw [hO]
          have hi9 : i = m := by
            rcases Nat.lt_or_ge i m with h | h
            · exact absurd (by rw [pk_sub (by omega : 1 ≤ m - i)] at c_42; exact c_42) (nI_pos (by omega))
            · omega
          refine ⟨f, S + i, _, rfl, rfl, ?_⟩
          intro v9 t9 S9 hx9
          replace hx9 := (ifP_t (by omega)).mp ((ifP_t (by omega)).mp hx9)
          obtain ⟨rfl, rfl, b1, b2⟩ := hx9
          rw [im_] at b2 ⊢
          rw [← hi9] at b2 ⊢
          refine ⟨rfl, rfl, fun j hj => ?_⟩
          by_cases e : j < S
          · rw [hf1 j e, b1 j e]; exact htp j e
          · have e2 := hf2 (j - S) (by omega)
            have e3 := b2 (j - S) (by omega)
            rw [show S + (j - S) = j by omega] at e2 e3
            rw [e2, e3, ← hi9]
        · have hi2 : i < m := by
            rcases Nat.lt_or_ge i m with h | h
            · exact h
            · exact absurd (by rw [show m - i = 0 by omega]; decide) c_42
          refine mr_aload_n C 46 dX8_feed_45 rfl rfl ?_
          refine mr_get C 0 49 dX8_feed_46 rfl fl_X8_28 rfl rfl ?_
          refine mr_aload_n C 50 dX8_feed_49 rfl rfl ?_
          refine mr_get C 0 53 dX8_feed_50 rfl fl_X8_86 rfl rfl ?_
          refine mr_lload_n C 54 dX8_feed_53 rfl rfl ?_
          refine mr_bipush C (nI 8) 56 dX8_feed_54 rfl rfl ?_
          refine mr_iload C 58 dX8_feed_56 rfl rfl ?_
          refine mr_imul C (nI (8 * (m - i - 1))) 59 dX8_feed_58 rfl (by rw [pk_sub (by omega)]; exact pk_mul 8 _) ?_
          refine mr_lshr C _ 60 dX8_feed_59 rfl rfl ?_
          refine mr_ldc2 C 63 dX8_feed_60 rfl kc_X8_90 ?_
          refine mr_land C _ 64 dX8_feed_63 rfl rfl ?_
          refine mr_l2i C _ 65 dX8_feed_64 rfl rfl ?_
          refine mr_iast C 7 (S + i) 66 dX8_feed_65 rfl rfl rfl (by omega) (by decide) ?_
          refine mr_aload_n C 67 dX8_feed_66 rfl rfl ?_
          refine mr_dup C 68 dX8_feed_67 rfl rfl ?_
          refine mr_get C 0 71 dX8_feed_68 rfl fl_X8_86 rfl rfl ?_
          refine mr_iconst C (nI 1) 72 dX8_feed_71 rfl rfl ?_
          refine mr_iadd C (nI ((S + i) + 1)) 73 dX8_feed_72 rfl (nI_add _ _) ?_
          refine mr_put C 0 76 dX8_feed_73 rfl fs_X8_86 rfl rfl rfl (Nat.le_of_ble_eq_true rfl) ?_
          refine mr_iinc C (nI (m - (i + 1)) - nI 1) 79 dX8_feed_76 rfl rfl (by decide) (by rw [pk_sub (by omega : 1 ≤ m - i), show m - i - 1 = m - (i + 1) by omega]; exact sub1 _) ?_
          refine mr_goto C 40 dX8_feed_79 (by decide) ?_
          refine mr_at (ih (by omega) _ (fun j hj => ?_) (fun j hj => ?_)) rfl rfl rfl
          · rw [up_n (by omega)]; exact hf1 j hj
          · rw [up_at]
            by_cases e : j = i
            · subst e; rw [if_pos rfl, show m - 1 - j = m - j - 1 by omega]; exact byS_eq w (by omega)
            · rw [if_neg (by omega)]; exact hf2 j (by omega)
      exact mr_at (L 0 (Nat.zero_le _) tp (fun j _ => rfl) (fun j h => absurd h (Nat.not_lt_zero j))) rfl rfl rfl
    · rw [nI_leI (by omega) (by omega)] at c_29
      refine mr_ldc C 34 dX8_feed_32 rfl kc_X8_89 ?_
      refine mr_iret C dX8_feed_34 rfl rfl (by decide) (by decide) hlen ?_
      rw [hO]
      refine ⟨tp, S, _, rfl, rfl, ?_⟩
      intro v9 t9 S9 hx9
      replace hx9 := (ifP_f (by omega)).mp ((ifP_t (by omega)).mp hx9)
      obtain ⟨rfl, rfl, rfl⟩ := hx9
      exact ⟨rfl, rfl, htp⟩
  · rw [bI_eq] at c_14
    refine mr_ldc C 19 dX8_feed_17 rfl kc_X8_79 ?_
    refine mr_iret C dX8_feed_19 rfl rfl (by decide) (by decide) hlen ?_
    rw [hO]
    refine ⟨tp, S, _, rfl, rfl, ?_⟩
    intro v9 t9 S9 hx9
    replace hx9 := (ifP_f (by omega)).mp hx9
    obtain ⟨rfl, rfl, rfl⟩ := hx9
    exact ⟨rfl, rfl, htp⟩

