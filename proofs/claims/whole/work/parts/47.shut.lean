/-! Future: the door that is to be shut -/
def mtS (R K m : Nat) (sn so he : FN) (G : Nat) (be : FN) (l : Nat → Nat) (ca cb : Nat) : Prop := ∃ j, j < m ∧ (rgN (nI 0) 0 R K sn so he (G, be, l) (j + 1)).2.2 ca = (rgN (nI 0) 0 R K sn so he (G, be, l) (j + 1)).2.2 cb
/-- by number: six times the lesser room, and the other one -/
def drP (R K m : Nat) (sn so he : FN) (G : Nat) (be : FN) (l : Nat → Nat) (ca cb d : Nat) : Prop :=
  d / 6 < d % 6 ∧ d % 6 < R ∧ bt (sn (d / 6)) (d % 6) = true ∧ ¬ mtS R K m (drS sn (d / 6) (d % 6) (nI 0)) so he G be l ca cb
noncomputable def dsS (R K m : Nat) (sn so he : FN) (G : Nat) (be : FN) (l : Nat → Nat) (ca cb : Nat) : Int32 :=
  ifP (mtS R K m sn so he G be l ca cb) (ifP (fstN (drP R K m sn so he G be l ca cb) 36 0 < 36) (nI (fstN (drP R K m sn so he G be l ca cb) 36 0)) (-1000000)) (-1)
theorem dsS_no {R K m : Nat} {sn so he : FN} {G : Nat} {be : FN} {l : Nat → Nat} {ca cb : Nat} (h : ¬ mtS R K m sn so he G be l ca cb) : dsS R K m sn so he G be l ca cb = -1 := ifP_f h
theorem dsS_hit {R K m : Nat} {sn so he : FN} {G : Nat} {be : FN} {l : Nat → Nat} {ca cb d : Nat} (h : mtS R K m sn so he G be l ca cb) (hd : d < 36) (hf : ∀ j, j < d → ¬ drP R K m sn so he G be l ca cb j) (hp : drP R K m sn so he G be l ca cb d) : dsS R K m sn so he G be l ca cb = nI d := by
  have e := fstN_hit (P := drP R K m sn so he G be l ca cb) 36 0 d (by omega) (by omega) (fun j _ k => hf j k) hp
  unfold dsS
  rw [ifP_t h, e, ifP_t hd]
theorem dsS_miss {R K m : Nat} {sn so he : FN} {G : Nat} {be : FN} {l : Nat → Nat} {ca cb : Nat} (h : mtS R K m sn so he G be l ca cb) (hf : ∀ j, j < 36 → ¬ drP R K m sn so he G be l ca cb j) : dsS R K m sn so he G be l ca cb = -1000000 := by
  have e := fstN_miss (P := drP R K m sn so he G be l ca cb) 36 0 (fun j _ k => hf j (by omega))
  unfold dsS
  rw [ifP_t h, e, ifP_f (by omega)]
set_option maxRecDepth 20000 in
set_option maxHeartbeats 4000000 in
theorem c_doorToShut (E : EG) (a : Nat → Nat) (b b2 b3 b4 : Nat) (hh hr wy : Int32) (se sn be so lo he inn al go se0 sn0 be0 so0 lo0 he0 inn0 al0 go0 : FN) (gu gr ro0 cr0 gn0 gu0 : Int32) (R K G g : Nat) (l : Nat → Nat) (hR : R ≤ 6) (hK : K ≤ 5) (hG : G < 2 ^ 29) (hg : g < 6) (hl : ∀ c, c < K → lo c = nI (l c) ∧ l c < R) (ca cb m : Nat) (hca : ca < K) (hcb : cb < K) (hm : m ≤ 60) : Ctr E mX2_doorToShut (5, 0, 0) [.ref (a b), .int (nI ca), .int (nI cb), .int (nI m)] (wF E a b b2 b3 b4 hh hr wy ++ (wH E a b2 se sn be so lo he inn al go (nI R) (nI K) (nI G) gu gr ++ wH E a b3 se0 sn0 be0 so0 lo0 he0 inn0 al0 go0 ro0 cr0 gn0 gu0 (nI g))) (fun v w => ∃ wc, v = some (.int (dsS R K m sn so he G be l ca cb)) ∧ AnyH E a b3 wc ∧ w = wF E a b b2 b3 b4 hh hr wy ++ (wH E a b2 se sn be so lo he inn al go (nI R) (nI K) (nI G) gu gr ++ wc)) := by
  refine Ctr.of (by decide) (Nat.le_of_ble_eq_true rfl) ?_
  intro Z hO hn C
  have hlen : zn Z ≤ 21 := by rw [hn]; exact Nat.le_of_ble_eq_true rfl
  refine mr_aload_n C 1 dX2_doorToShut_0 rfl rfl ?_
  refine mr_get C 0 4 dX2_doorToShut_1 rfl fl_X2_12 rfl rfl ?_
  refine mr_aload_n C 5 dX2_doorToShut_4 rfl rfl ?_
  refine mr_get C 0 8 dX2_doorToShut_5 rfl fl_X2_25 rfl rfl ?_
  refine mr_callV C (c_take E a b3 b2 se0 sn0 be0 so0 lo0 he0 inn0 al0 go0 se sn be so lo he inn al go ro0 cr0 gn0 gu0 (nI g) (nI R) (nI K) (nI G) gu gr) [11, 12, 13, 14, 15, 16, 17, 18, 19, 20, 1, 2, 3, 4, 5, 6, 7, 8, 9, 10] 11 3 11 dX2_doorToShut_8 rfl mk_X3_take mi_X3_take ml_X2_28 rfl rfl rfl rfl rfl (Nat.le_of_ble_eq_true rfl) (by decide) (by decide) (by decide) rfl rfl (fun r w1 hpost => ?_)
  obtain ⟨f1, f2, f3, f4, f5, f6, rfl, rfl, -, h2, h3, h4, h5, h6⟩ := hpost
  refine mr_w (wput_swap (wF E a b b2 b3 b4 hh hr wy) (wH E a b2 se sn be so lo he inn al go (nI R) (nI K) (nI G) gu gr) _ (wH E a b3 f1 f2 f3 f4 f5 f6 inn0 al0 go0 (nI R) (nI K) (nI G) (nI 0) (nI g)) (wH E a b2 se sn be so lo he inn al go (nI R) (nI K) (nI G) gu gr) rfl rfl) ?_
  have hH : HR R K sn so he (G, be, l) f2 f3 f4 f5 f6 := HR.take hR hK hl h2 h3 h4 h5 h6
  refine mr_aload_n C 12 dX2_doorToShut_11 rfl rfl ?_
  refine mr_iload_n C 13 dX2_doorToShut_12 rfl rfl ?_
  refine mr_iload_n C 14 dX2_doorToShut_13 rfl rfl ?_
  refine mr_iload_n C 15 dX2_doorToShut_14 rfl rfl ?_
  refine mr_callV C (c_meet E a b b2 b3 b4 hh hr wy f1 f2 f3 f4 f5 f6 inn0 al0 go0 (nI 0) R K g sn so he (G, be, l) ca cb m (by omega) hca hcb hR hK hG hg hH) [0, 11, 12, 13, 14, 15, 16, 17, 18, 19, 20] 0 2 18 dX2_doorToShut_15 rfl mk_X2_meet mi_X2_meet ml_X2_75 rfl rfl rfl rfl rfl (Nat.le_of_ble_eq_true rfl) (by decide) (by decide) (by decide) rfl rfl (fun r w1 hpost => ?_)
  obtain ⟨be1, lo1, g1, g2, g3, G1, rfl, rfl⟩ := hpost
  refine mr_w (wput_outer (wF E a b b2 b3 b4 hh hr wy) (wH E a b2 se sn be so lo he inn al go (nI R) (nI K) (nI G) gu gr) _ (wF E a b b2 b3 b4 hh hr wy) (wH E a b3 f1 f2 be1 f4 lo1 f6 g1 g2 g3 (nI R) (nI K) (nI G1) (nI 0) (nI g)) rfl rfl) ?_
  simp only [rgN_g0]
  refine mr_ifne C 23 21 dX2_doorToShut_18 (by decide) rfl (fun c_18 => ?_) (fun c_18 => ?_)
  · rw [bP_ne] at c_18
    refine mr_iconst C (nI 0) 24 dX2_doorToShut_23 rfl rfl ?_
    refine mr_istore C 26 dX2_doorToShut_24 rfl (by decide) ?_
    have hmt : mtS R K m sn so he G be l ca cb := c_18
    have IN : ∀ i : Nat, i < R → (∀ wc : va_W, AnyH E a b3 wc → (∀ d, d < 6 * (i + 1) → ¬ drP R K m sn so he G be l ca cb d) → V E mX2_doorToShut (5, 0, 0) Z 0 0 (wF E a b b2 b3 b4 hh hr wy ++ (wH E a b2 se sn be so lo he inn al go (nI R) (nI K) (nI G) gu gr ++ wc)) [(0, .ref (a b)), (1, .int (nI ca)), (2, .int (nI cb)), (3, .int (nI m)), (4, .int (nI i)), (5, .int (nI R))] [] 100) → ∀ k, k ≤ R → i < k → ∀ wc : va_W, AnyH E a b3 wc → (∀ d, d < 6 * i + k → ¬ drP R K m sn so he G be l ca cb d) → V E mX2_doorToShut (5, 0, 0) Z 0 0 (wF E a b b2 b3 b4 hh hr wy ++ (wH E a b2 se sn be so lo he inn al go (nI R) (nI K) (nI G) gu gr ++ wc)) [(0, .ref (a b)), (1, .int (nI ca)), (2, .int (nI cb)), (3, .int (nI m)), (4, .int (nI i)), (5, .int (nI k))] [] 44 := by
      intro i hi6 behind
      refine lp_up R ?_
      intro k hk ihk hik wc hwc hfk
      refine mr_iload C 46 dX2_doorToShut_44 rfl rfl ?_
      refine mr_aload_n C 47 dX2_doorToShut_46 rfl rfl ?_
      refine mr_get C 0 50 dX2_doorToShut_47 rfl fl_X2_25 rfl rfl ?_
      refine mr_get C 1 53 dX2_doorToShut_50 rfl fl_X2_61 rfl rfl ?_
      refine mr_icmpge C 100 56 dX2_doorToShut_53 (by decide) rfl (fun c_53 => ?_) (fun c_53 => ?_)
      · rw [nI_leI (by omega) (by omega)] at c_53
        obtain rfl : k = R := by omega
        have hb2 := behind wc hwc (by
          intro d hd h
          by_cases e : d < 6 * i + k
          · exact hfk d e h
          · have h1 := h.2.1
            omega)
        exact mr_at hb2 rfl rfl rfl
      · rw [nI_leI (by omega) (by omega)] at c_53
        refine mr_aload_n C 57 dX2_doorToShut_56 rfl rfl ?_
        refine mr_get C 0 60 dX2_doorToShut_57 rfl fl_X2_25 rfl rfl ?_
        refine mr_iload C 62 dX2_doorToShut_60 rfl rfl ?_
        refine mr_iload C 64 dX2_doorToShut_62 rfl rfl ?_
        refine mr_callV C (c_doorBetween E a b2 se sn be so lo he inn al go (nI R) (nI K) (nI G) gu gr i k (by omega)) [1, 2, 3, 4, 5, 6, 7, 8, 9, 10] 1 3 67 dX2_doorToShut_64 rfl mk_X3_doorBetween mi_X3_doorBetween ml_X2_79 rfl rfl rfl rfl rfl (Nat.le_of_ble_eq_true rfl) (by decide) (by decide) (by decide) rfl rfl (fun r w1 hpost => ?_)
        obtain ⟨rfl, rfl⟩ := hpost
        refine mr_w (wput_mid (wH E a b2 se sn be so lo he inn al go (nI R) (nI K) (nI G) gu gr) (wF E a b b2 b3 b4 hh hr wy) wc (wH E a b2 se sn be so lo he inn al go (nI R) (nI K) (nI G) gu gr) rfl) ?_
        refine mr_iconst C (nI 1) 68 dX2_doorToShut_67 rfl rfl ?_
        refine mr_icmpne C 94 71 dX2_doorToShut_68 (by decide) rfl (fun c_68 => ?_) (fun c_68 => ?_)
        · rw [Ne, bt_is (by omega)] at c_68
          refine mr_iinc C (nI (k + 1)) 97 dX2_doorToShut_94 rfl rfl (by decide) (nI_add k 1) ?_
          refine mr_goto C 44 dX2_doorToShut_97 (by decide) ?_
          refine mr_at (ihk (by omega) (by omega) _ hwc ?_) rfl rfl rfl
          intro d hd h
          by_cases e : d = 6 * i + k
          · rw [e] at h
            unfold drP at h; rw [show (6 * i + k) / 6 = i by omega, show (6 * i + k) % 6 = k by omega] at h
            exact c_68 h.2.2.1
          · exact hfk d (by omega) h
        · rw [bt_is (by omega)] at c_68
          refine mr_aload_n C 72 dX2_doorToShut_71 rfl rfl ?_
          refine mr_iload C 74 dX2_doorToShut_72 rfl rfl ?_
          refine mr_iload C 76 dX2_doorToShut_74 rfl rfl ?_
          refine mr_iload_n C 77 dX2_doorToShut_76 rfl rfl ?_
          refine mr_iload_n C 78 dX2_doorToShut_77 rfl rfl ?_
          refine mr_iload_n C 79 dX2_doorToShut_78 rfl rfl ?_
          obtain ⟨se9, sn9, be9, so9, lo9, he9, inn9, al9, go9, ro9, cr9, gn9, gu9, g9, hg9, rfl⟩ := hwc
          refine mr_callV C (c_partedBy E a b b2 b3 b4 hh hr wy se sn be so lo he inn al go se9 sn9 be9 so9 lo9 he9 inn9 al9 go9 gu gr ro9 cr9 gn9 gu9 R K G g9 l hR hK hG hg9 hl i k ca cb m (by omega) (by omega) hca hcb hm) [0, 1, 2, 3, 4, 5, 6, 7, 8, 9, 10, 11, 12, 13, 14, 15, 16, 17, 18, 19, 20] 0 2 82 dX2_doorToShut_79 rfl mk_X2_partedBy mi_X2_partedBy ml_X2_82 rfl rfl rfl rfl rfl (Nat.le_of_ble_eq_true rfl) (by decide) (by decide) (by decide) rfl rfl (fun r w1 hpost => ?_)
          obtain ⟨wc2, rfl, hwc2, rfl⟩ := hpost
          obtain ⟨se8, sn8, be8, so8, lo8, he8, inn8, al8, go8, ro8, cr8, gn8, gu8, g8, hg8, rfl⟩ := hwc2
          have hwc2 : AnyH E a b3 (wH E a b3 se8 sn8 be8 so8 lo8 he8 inn8 al8 go8 ro8 cr8 gn8 gu8 (nI g8)) := ⟨_, _, _, _, _, _, _, _, _, _, _, _, _, _, hg8, rfl⟩
          refine mr_w (wput_all _ _ 21 rfl rfl) ?_
          refine mr_ifeq C 94 85 dX2_doorToShut_82 (by decide) rfl (fun c_82 => ?_) (fun c_82 => ?_)
          · rw [bP_eq] at c_82
            refine mr_iinc C (nI (k + 1)) 97 dX2_doorToShut_94 rfl rfl (by decide) (nI_add k 1) ?_
            refine mr_goto C 44 dX2_doorToShut_97 (by decide) ?_
            refine mr_at (ihk (by omega) (by omega) _ hwc2 ?_) rfl rfl rfl
            intro d hd h
            by_cases e : d = 6 * i + k
            · rw [e] at h
              unfold drP at h; rw [show (6 * i + k) / 6 = i by omega, show (6 * i + k) % 6 = k by omega] at h
              exact c_82 h.2.2.2
            · exact hfk d (by omega) h
          · rw [← Ne, bP_ne] at c_82
            refine mr_bipush C (nI 6) 87 dX2_doorToShut_85 rfl rfl ?_
            refine mr_iload C 89 dX2_doorToShut_87 rfl rfl ?_
            refine mr_imul C (nI (6 * i)) 90 dX2_doorToShut_89 rfl (pk_mul _ _) ?_
            refine mr_iload C 92 dX2_doorToShut_90 rfl rfl ?_
            refine mr_iadd C (nI ((6 * i) + k)) 93 dX2_doorToShut_92 rfl (nI_add _ _) ?_
            refine mr_iret C dX2_doorToShut_93 rfl rfl (by decide) (by decide) hlen ?_
            rw [hO]
            have e9 : dsS R K m sn so he G be l ca cb = nI (6 * i + k) := dsS_hit hmt (by omega) hfk (by unfold drP; rw [show (6 * i + k) / 6 = i by omega, show (6 * i + k) % 6 = k by omega]; exact ⟨by omega, by omega, c_68, c_82⟩)
            rw [e9]
            exact ⟨_, rfl, hwc2, rfl⟩
    have L : ∀ i, i ≤ R → ∀ wc : va_W, AnyH E a b3 wc → (∀ d, d < 6 * i → ¬ drP R K m sn so he G be l ca cb d) → V E mX2_doorToShut (5, 0, 0) Z 0 0 (wF E a b b2 b3 b4 hh hr wy ++ (wH E a b2 se sn be so lo he inn al go (nI R) (nI K) (nI G) gu gr ++ wc)) [(0, .ref (a b)), (1, .int (nI ca)), (2, .int (nI cb)), (3, .int (nI m)), (4, .int (nI i))] [] 26 := by
      refine lp_up R ?_
      intro i hi ih wc hwc hf
      refine mr_iload C 28 dX2_doorToShut_26 rfl rfl ?_
      refine mr_aload_n C 29 dX2_doorToShut_28 rfl rfl ?_
      refine mr_get C 0 32 dX2_doorToShut_29 rfl fl_X2_25 rfl rfl ?_
      refine mr_get C 1 35 dX2_doorToShut_32 rfl fl_X2_61 rfl rfl ?_
      refine mr_icmpge C 106 38 dX2_doorToShut_35 (by decide) rfl (fun c_35 => ?_) (fun c_35 => ?_)
      · rw [nI_leI (by omega) (by omega)] at c_35
        obtain ⟨se9, sn9, be9, so9, lo9, he9, inn9, al9, go9, ro9, cr9, gn9, gu9, g9, hg9, rfl⟩ := hwc
        have hwc : AnyH E a b3 (wH E a b3 se9 sn9 be9 so9 lo9 he9 inn9 al9 go9 ro9 cr9 gn9 gu9 (nI g9)) := ⟨_, _, _, _, _, _, _, _, _, _, _, _, _, _, hg9, rfl⟩
        refine mr_ldc C 108 dX2_doorToShut_106 rfl kc_X2_56 ?_
        refine mr_iret C dX2_doorToShut_108 rfl rfl (by decide) (by decide) hlen ?_
        rw [hO]
        have e9 : dsS R K m sn so he G be l ca cb = -1000000 := dsS_miss hmt (fun d _ h => by
          by_cases e : d < 6 * i
          · exact hf d e h
          · have h1 := h.1; have h2 := h.2.1
            omega)
        rw [e9]
        exact ⟨_, rfl, hwc, rfl⟩
      · rw [nI_leI (by omega) (by omega)] at c_35
        refine mr_iload C 40 dX2_doorToShut_38 rfl rfl ?_
        refine mr_iconst C (nI 1) 41 dX2_doorToShut_40 rfl rfl ?_
        refine mr_iadd C (nI (i + 1)) 42 dX2_doorToShut_41 rfl (nI_add _ _) ?_
        refine mr_istore C 44 dX2_doorToShut_42 rfl (by decide) ?_
        refine mr_at (IN i (by omega) (fun wc hwc hf2 => ?_) (i + 1) (by omega) (by omega) wc hwc (fun d hd h => ?_)) rfl rfl rfl
        · refine mr_iinc C (nI (i + 1)) 103 dX2_doorToShut_100 rfl rfl (by decide) (nI_add i 1) ?_
          refine mr_goto C 26 dX2_doorToShut_103 (by decide) ?_
          exact mr_at (ih (by omega) wc hwc hf2) rfl rfl rfl
        · by_cases e : d < 6 * i
          · exact hf d e h
          · have h1 := h.1
            omega
    exact mr_at (L 0 (Nat.zero_le _) _ ⟨_, _, _, _, _, _, _, _, _, _, _, _, _, _, hg, rfl⟩ (fun d h => absurd h (by omega))) rfl rfl rfl
  · rw [bP_eq] at c_18
    refine mr_iconst C (-1) 22 dX2_doorToShut_21 rfl rfl ?_
    refine mr_iret C dX2_doorToShut_22 rfl rfl (by decide) (by decide) hlen ?_
    rw [hO]
    have e9 : dsS R K m sn so he G be l ca cb = -1 := dsS_no c_18
    rw [e9]
    exact ⟨_, rfl, ⟨_, _, _, _, _, _, _, _, _, _, _, _, _, _, hg, rfl⟩, rfl⟩

