/-! the reference: bells by a row -/
theorem bP_cong {p q : Prop} (h : p ↔ q) : bP p = bP q := @bI_cong p q (Classical.propDecidable p) (Classical.propDecidable q) h
theorem shB {K : Nat} (hK : K ≤ 5) : (nI 1 <<< (nI K &&& 31) - nI 1).toInt64.toInt = (nI 1 <<< (nI K &&& 31)).toInt - 1 := by
  have h : K = 0 ∨ K = 1 ∨ K = 2 ∨ K = 3 ∨ K = 4 ∨ K = 5 := by omega
  rcases h with rfl | rfl | rfl | rfl | rfl | rfl <;> decide
theorem okB {x y : Int32} : (0 ≤ x.toInt ∧ x.toInt ≤ y.toInt - 1) ↔ (¬ x < 0 ∧ x < y) := by
  rw [tI_lt0, Int32.lt_iff_toInt_lt]; omega
/-- one bell of bells by a row -/
def STP (R K : Nat) (sn so f : FN) (i k : Nat) (y w : BST) : Prop := (∃ v, BellS R K sn so y.2.2.2.1 y.1 y.2.1 y.2.2.1 v w.1 w.2.1 w.2.2.1) ∧ w.2.2.2.2 = keepS y.2.2.2.2 sn y.2.1 y.2.2.1 y.2.2.2.1 y.1 ∧ ∀ c, c < K → w.2.2.2.1 c = adH y.2.2.2.1 (f (i + k)) c
theorem BellsS.chain {R K : Nat} {sn so f : FN} {i : Nat} {z : BST} : ∀ n z', BellsS R K sn so f i z n z' → ∃ zs : Nat → BST, zs 0 = z ∧ zs n = z' ∧ ∀ k, k < n → STP R K sn so f i k (zs k) (zs (k + 1))
  | 0, z', h => ⟨fun _ => z, rfl, h.symm, fun k hk => absurd hk (Nat.not_lt_zero k)⟩
  | n + 1, z', h => by
    obtain ⟨y, h1, h2, h3, h4⟩ := h
    obtain ⟨zs, e0, en, hs⟩ := BellsS.chain n y h1
    refine ⟨fun k => if k ≤ n then zs k else z', ?_, ?_, fun k hk => ?_⟩
    · show (if 0 ≤ n then zs 0 else z') = z
      rw [if_pos (Nat.zero_le n)]; exact e0
    · show (if n + 1 ≤ n then zs (n + 1) else z') = z'
      rw [if_neg (by omega)]
    · show STP R K sn so f i k (if k ≤ n then zs k else z') (if k + 1 ≤ n then zs (k + 1) else z')
      rw [if_pos (by omega)]
      by_cases e : k = n
      · rw [if_neg (by omega), e, en]; exact ⟨h2, h3, h4⟩
      · rw [if_pos (by omega)]; exact hs k (by omega)
theorem STP.all {R K : Nat} {sn so f : FN} {i n : Nat} {zs : Nat → BST} (hs : ∀ k, k < n → STP R K sn so f i k (zs k) (zs (k + 1))) (hR : R ≤ 6) (h0 : ∀ c, c < K → (zs 0).2.2.1 c = nI (lN_ (zs 0).2.2.1 c) ∧ lN_ (zs 0).2.2.1 c < R) (ha : (zs 0).2.2.2.2.2.1 ≤ 24 ∧ (zs 0).2.2.2.2.2.2 < 24) :
    ∀ k, k ≤ n → (zs k).1 = (zs 0).1 + k ∧ (∀ c, c < K → (zs k).2.2.1 c = nI (lN_ (zs k).2.2.1 c) ∧ lN_ (zs k).2.2.1 c < R) ∧ (zs k).2.2.2.2.2.1 ≤ 24 ∧ (zs k).2.2.2.2.2.2 < 24
  | 0, _ => ⟨rfl, h0, ha⟩
  | k + 1, hk => by
    obtain ⟨g1, g2, g3⟩ := STP.all hs hR h0 ha k (by omega)
    obtain ⟨⟨v, hB⟩, h3, -⟩ := hs k (by omega)
    refine ⟨?_, hB.lo hR g2, ?_⟩
    · rw [hB.2.1, g1]; omega
    · rw [h3]; exact keepS_ok g3
set_option maxRecDepth 20000 in
set_option maxHeartbeats 4000000 in
theorem c_haveRoom (E : EG) (a : Nat → Nat) (tn st ac td lt lg cu tk sr tl fa fp gn gi gm tr : Int32) (la mn im ho fr wa tp wh go se no al be ik ke tc : FN) (R K G : Nat) (se0 sn0 be0 so0 lo0 he0 : FN) (hR : R ≤ 6) (hK : K ≤ 5) (hG : G ≤ 9999) (hl : ∀ c, c < K → lo0 c = nI (lN_ lo0 c) ∧ lN_ lo0 c < R) (hso : ∀ c, c < K → ∃ k, 1 ≤ k ∧ k ≤ 5 ∧ so0 c = nI k) (hrh : RH ho R K G se0 sn0 be0 so0 lo0 he0) (fr_ i n : Nat) (f : FN) (hfr : fr_ + n ≤ 320) (hn40 : n ≤ 40) (hf : ∀ k, k < n → im (fr_ + k) = f (i + k)) : Ctr E mX8_haveRoom (3, 0, 0) [.ref (a 0), .int (nI fr_), .int (nI n)] (wM E a tn st la mn im ho fr wa ac tp td lt lg cu tk sr tl fa fp wh go se no al be gn gi gm ik ke tc tr) (fun v w => v = some (.int (bP (¬ fullP K G he0 f i n))) ∧ w = wM E a tn st la mn im ho fr wa ac tp td lt lg cu tk sr tl fa fp wh go se no al be gn gi gm ik ke tc tr) := by
  refine Ctr.of (by decide) (Nat.le_of_ble_eq_true rfl) ?_
  intro Z hO hn C
  have hlen : zn Z ≤ 17 := by rw [hn]; exact Nat.le_of_ble_eq_true rfl
  have h0 := hrh.1
  have h2 := hrh.2.1
  have h3 := hrh.2.2.1
  have hk : ∀ c, c < K → ∃ k, 1 ≤ k ∧ k ≤ 5 ∧ hoS ho c = nI k := fun c hc => by
    obtain ⟨k, e1, e2, e3⟩ := hso c hc
    exact ⟨k, e1, e2, (hrh.2.2.2.2.2 c hc).1.trans e3⟩
  have LO : ∀ c, c ≤ K → V E mX8_haveRoom (3, 0, 0) Z 0 0 (wM E a tn st la mn im ho fr wa ac tp td lt lg cu tk sr tl fa fp wh go se no al be gn gi gm ik ke tc tr) [(0, .ref (a 0)), (1, .int (nI fr_)), (2, .int (nI n)), (3, .int (bP (¬ 9999 < G + n ∧ ∀ j, j < c → he0 j + cbS f i (nI j) n ≤ nI 99))), (4, .int (nI c))] [] 23 := by
    refine lp_up K ?_
    intro c hc9 ih
    refine mr_iload C 25 dX8_haveRoom_23 rfl rfl ?_
    refine mr_aload_n C 26 dX8_haveRoom_25 rfl rfl ?_
    refine mr_get C 0 29 dX8_haveRoom_26 rfl fl_X8_19 rfl rfl ?_
    refine mr_iconst C (nI 2) 30 dX8_haveRoom_29 rfl rfl ?_
    refine mr_iale C 4 2 (nI K) 31 dX8_haveRoom_30 rfl rfl rfl (by omega) (by decide) h2 ?_
    refine mr_icmpge C 100 34 dX8_haveRoom_31 (by decide) rfl (fun c_31 => ?_) (fun c_31 => ?_)
    · rw [nI_leI (by omega) (by omega)] at c_31
      refine mr_iload_n C 101 dX8_haveRoom_100 rfl rfl ?_
      refine mr_iret C dX8_haveRoom_101 rfl bP_nar (by decide) (by decide) hlen ?_
      rw [hO]
      have hcK : c = K := by omega
      refine ⟨congrArg (fun z => some (Value.int z)) (bP_cong ⟨fun h9 h8 => ?_, fun h9 => ⟨fun h8 => h9 (Or.inl h8), fun j hj => Classical.byContradiction (fun h7 => h9 (Or.inr ⟨j, by omega, h7⟩))⟩⟩), rfl⟩
      rcases h8 with h8 | ⟨j, hj, h8⟩
      · exact h9.1 h8
      · exact h8 (h9.2 j (by omega))
    · rw [nI_leI (by omega) (by omega)] at c_31
      refine mr_aload_n C 35 dX8_haveRoom_34 rfl rfl ?_
      refine mr_iload C 37 dX8_haveRoom_35 rfl rfl ?_
      refine mr_iconst C (nI 2) 38 dX8_haveRoom_37 rfl rfl ?_
      refine mr_callV C (c_of E a tn st ac td lt lg cu tk sr tl fa fp gn gi gm tr la mn im ho fr wa tp wh go se no al be ik ke tc c 2 (by omega) (by decide) (he0 c) (hrh.2.2.2.2.2 c (by omega)).2.2) [0, 1, 2, 3, 4, 5, 6, 7, 8, 9, 10, 11, 12, 13, 14, 15, 16] 0 8 41 dX8_haveRoom_38 rfl mk_X8_of mi_X8_of ml_X8_201 rfl rfl rfl rfl rfl (Nat.le_of_ble_eq_true rfl) (by decide) (by decide) (by decide) rfl rfl (fun r w1 hpost => ?_)
      obtain ⟨rfl, rfl⟩ := hpost
      refine mr_w (wput_all _ _ 17 rfl rfl) ?_
      refine mr_istore C 43 dX8_haveRoom_41 rfl (by decide) ?_
      refine mr_iconst C (nI 0) 44 dX8_haveRoom_43 rfl rfl ?_
      refine mr_istore C 46 dX8_haveRoom_44 rfl (by decide) ?_
      have LI : ∀ k, k ≤ n → V E mX8_haveRoom (3, 0, 0) Z 0 0 (wM E a tn st la mn im ho fr wa ac tp td lt lg cu tk sr tl fa fp wh go se no al be gn gi gm ik ke tc tr) [(0, .ref (a 0)), (1, .int (nI fr_)), (2, .int (nI n)), (3, .int (bP (¬ 9999 < G + n ∧ ∀ j, j < c → he0 j + cbS f i (nI j) n ≤ nI 99))), (4, .int (nI c)), (5, .int (he0 c + cbS f i (nI c) k)), (6, .int (nI k))] [] 46 := by
        refine lp_up n ?_
        intro k hk9 ihk
        refine mr_iload C 48 dX8_haveRoom_46 rfl rfl ?_
        refine mr_iload_n C 49 dX8_haveRoom_48 rfl rfl ?_
        refine mr_icmpge C 77 52 dX8_haveRoom_49 (by decide) rfl (fun c_49 => ?_) (fun c_49 => ?_)
        · rw [nI_leI (by omega) (by omega)] at c_49
          have hkn : k = n := by omega
          rw [hkn]
          refine mr_iload_n C 78 dX8_haveRoom_77 rfl rfl ?_
          refine mr_ifeq C 92 81 dX8_haveRoom_78 (by decide) rfl (fun c_78 => ?_) (fun c_78 => ?_)
          · rw [bP_eq] at c_78
            refine mr_iconst C (nI 0) 93 dX8_haveRoom_92 rfl rfl ?_
            refine mr_istore_n C 94 dX8_haveRoom_93 rfl rfl (by decide) ?_
            refine mr_iinc C (nI (c + 1)) 97 dX8_haveRoom_94 rfl rfl (by decide) (nI_add c 1) ?_
            refine mr_goto C 23 dX8_haveRoom_97 (by decide) ?_
            have e9 : nI 0 = bP (¬ 9999 < G + n ∧ ∀ j, j < (c + 1) → he0 j + cbS f i (nI j) n ≤ nI 99) := bP_f (fun h => c_78 ⟨h.1, fun j hj => h.2 j (by omega)⟩)
            have ih2 := ih (by omega)
            rw [← e9] at ih2
            exact mr_at ih2 rfl rfl rfl
          · rw [← Ne, bP_ne] at c_78
            refine mr_iload C 83 dX8_haveRoom_81 rfl rfl ?_
            refine mr_bipush C (nI 99) 85 dX8_haveRoom_83 rfl rfl ?_
            refine mr_icmpgt C 92 88 dX8_haveRoom_85 (by decide) rfl (fun c_85 => ?_) (fun c_85 => ?_)
            · refine mr_iconst C (nI 0) 93 dX8_haveRoom_92 rfl rfl ?_
              refine mr_istore_n C 94 dX8_haveRoom_93 rfl rfl (by decide) ?_
              refine mr_iinc C (nI (c + 1)) 97 dX8_haveRoom_94 rfl rfl (by decide) (nI_add c 1) ?_
              refine mr_goto C 23 dX8_haveRoom_97 (by decide) ?_
              have e9 : nI 0 = bP (¬ 9999 < G + n ∧ ∀ j, j < (c + 1) → he0 j + cbS f i (nI j) n ≤ nI 99) := bP_f (fun h => Int32.not_lt.mpr (h.2 c (by omega)) c_85)
              have ih2 := ih (by omega)
              rw [← e9] at ih2
              exact mr_at ih2 rfl rfl rfl
            · refine mr_iconst C (nI 1) 89 dX8_haveRoom_88 rfl rfl ?_
              refine mr_goto C 93 dX8_haveRoom_89 (by decide) ?_
              refine mr_istore_n C 94 dX8_haveRoom_93 rfl rfl (by decide) ?_
              refine mr_iinc C (nI (c + 1)) 97 dX8_haveRoom_94 rfl rfl (by decide) (nI_add c 1) ?_
              refine mr_goto C 23 dX8_haveRoom_97 (by decide) ?_
              have e9 : nI 1 = bP (¬ 9999 < G + n ∧ ∀ j, j < (c + 1) → he0 j + cbS f i (nI j) n ≤ nI 99) := bP_t ⟨c_78.1, fun j hj => by by_cases e : j = c; rw [e]; exact Int32.not_lt.mp c_85; exact c_78.2 j (by omega)⟩
              have ih2 := ih (by omega)
              rw [← e9] at ih2
              exact mr_at ih2 rfl rfl rfl
        · rw [nI_leI (by omega) (by omega)] at c_49
          refine mr_iload C 54 dX8_haveRoom_52 rfl rfl ?_
          refine mr_aload_n C 55 dX8_haveRoom_54 rfl rfl ?_
          refine mr_get C 0 58 dX8_haveRoom_55 rfl fl_X8_16 rfl rfl ?_
          refine mr_iload_n C 59 dX8_haveRoom_58 rfl rfl ?_
          refine mr_iload C 61 dX8_haveRoom_59 rfl rfl ?_
          refine mr_iadd C (nI (fr_ + k)) 62 dX8_haveRoom_61 rfl (nI_add _ _) ?_
          refine mr_iale C 3 (fr_ + k) ((f (i + k))) 63 dX8_haveRoom_62 rfl rfl rfl (by omega) (by decide) (hf k (by omega)) ?_
          refine mr_iload C 65 dX8_haveRoom_63 rfl rfl ?_
          refine mr_ishr C _ 66 dX8_haveRoom_65 rfl rfl ?_
          refine mr_iconst C (nI 1) 67 dX8_haveRoom_66 rfl rfl ?_
          refine mr_iand C _ 68 dX8_haveRoom_67 rfl rfl ?_
          refine mr_iadd C _ 69 dX8_haveRoom_68 rfl rfl ?_
          refine mr_istore C 71 dX8_haveRoom_69 rfl (by decide) ?_
          refine mr_iinc C (nI (k + 1)) 74 dX8_haveRoom_71 rfl rfl (by decide) (nI_add k 1) ?_
          refine mr_goto C 46 dX8_haveRoom_74 (by decide) ?_
          have ih2 := ihk (by omega)
          rw [show he0 c + cbS f i (nI c) (k + 1) = he0 c + cbS f i (nI c) k + ((f (i + k) >>> (nI c &&& 31)) &&& nI 1) from (Int32.add_assoc _ _ _).symm] at ih2
          exact mr_at ih2 rfl rfl rfl
      have i0 := LI 0 (Nat.zero_le _)
      rw [show he0 c + cbS f i (nI c) 0 = he0 c from Int32.add_zero _] at i0
      exact mr_at i0 rfl rfl rfl
  refine mr_aload_n C 1 dX8_haveRoom_0 rfl rfl ?_
  refine mr_get C 0 4 dX8_haveRoom_1 rfl fl_X8_19 rfl rfl ?_
  refine mr_iconst C (nI 3) 5 dX8_haveRoom_4 rfl rfl ?_
  refine mr_iale C 4 3 (nI G) 6 dX8_haveRoom_5 rfl rfl rfl (by omega) (by decide) h3 ?_
  refine mr_iload_n C 7 dX8_haveRoom_6 rfl rfl ?_
  refine mr_iadd C (nI (G + n)) 8 dX8_haveRoom_7 rfl (nI_add _ _) ?_
  refine mr_sipush C (nI 9999) 11 dX8_haveRoom_8 rfl rfl ?_
  refine mr_icmpgt C 18 14 dX8_haveRoom_11 (by decide) rfl (fun c_11 => ?_) (fun c_11 => ?_)
  · rw [nI_ltI (by omega) (by omega)] at c_11
    refine mr_iconst C (nI 0) 19 dX8_haveRoom_18 rfl rfl ?_
    refine mr_istore_n C 20 dX8_haveRoom_19 rfl rfl (by decide) ?_
    refine mr_iconst C (nI 0) 21 dX8_haveRoom_20 rfl rfl ?_
    refine mr_istore C 23 dX8_haveRoom_21 rfl (by decide) ?_
    have e9 : nI 0 = bP (¬ 9999 < G + n ∧ ∀ j, j < 0 → he0 j + cbS f i (nI j) n ≤ nI 99) := bP_f (fun h => h.1 (by omega))
    have ih2 := LO 0 (Nat.zero_le _)
    rw [← e9] at ih2
    exact mr_at ih2 rfl rfl rfl
  · rw [nI_ltI (by omega) (by omega)] at c_11
    refine mr_iconst C (nI 1) 15 dX8_haveRoom_14 rfl rfl ?_
    refine mr_goto C 19 dX8_haveRoom_15 (by decide) ?_
    refine mr_istore_n C 20 dX8_haveRoom_19 rfl rfl (by decide) ?_
    refine mr_iconst C (nI 0) 21 dX8_haveRoom_20 rfl rfl ?_
    refine mr_istore C 23 dX8_haveRoom_21 rfl (by decide) ?_
    have e9 : nI 1 = bP (¬ 9999 < G + n ∧ ∀ j, j < 0 → he0 j + cbS f i (nI j) n ≤ nI 99) := bP_t ⟨by omega, fun j h => absurd h (Nat.not_lt_zero j)⟩
    have ih2 := LO 0 (Nat.zero_le _)
    rw [← e9] at ih2
    exact mr_at ih2 rfl rfl rfl

set_option maxRecDepth 20000 in
set_option maxHeartbeats 4000000 in
theorem c_m_bells (E : EG) (a : Nat → Nat) (tn st td lt lg cu tk sr tl fa fp gn gi gm tr : Int32) (la mn im ho fr wa tp wh go se no al be ik ke tc : FN) (R K G : Nat) (se0 sn0 be0 so0 lo0 he0 : FN) (hR : R ≤ 6) (hK : K ≤ 5) (hG : G ≤ 9999) (hl : ∀ c, c < K → lo0 c = nI (lN_ lo0 c) ∧ lN_ lo0 c < R) (hso : ∀ c, c < K → ∃ k, 1 ≤ k ∧ k ≤ 5 ∧ so0 c = nI k) (hrh : RH ho R K G se0 sn0 be0 so0 lo0 he0) (kp : FN) (h x : Nat) (hh : h ≤ 24) (hx : x < 24) (hA : RA wa (kp, h, x) R K se0 so0) (it : Nat → FN) (th ln sz : FN) (hrr : RRow it th ln sz la mn im) (r0 i0 n0 : Int32) (v9 fd9 : Int32) (z9 : BST) (hx9 : NxBells r0 i0 n0 R K sn0 so0 it th sz st (G, be0, lo0, he0, (kp, h, x)) v9 fd9 z9) : Ctr E mX8_bells (6, 0, 0) [.ref (a 0), .int r0, .int i0, .int n0] (wM E a tn st la mn im ho fr wa ((nI h)) tp td lt lg cu tk sr tl fa fp wh go se no al be gn gi gm ik ke tc tr) (fun v w => ∃ (ho' wa' wh' go' se' no' al' be1' : FN) (gn' gi' gm' : Int32), v = some (.int v9) ∧ w = wM E a ((nI 0)) fd9 la mn im (ho') fr (wa') ((nI z9.2.2.2.2.2.1)) tp td lt lg cu tk sr tl fa fp (wh') (go') (se') (no') (al') (be1') (gn') (gi') (gm') ik ke tc tr ∧ RH ho' R K z9.1 se0 sn0 z9.2.1 so0 z9.2.2.1 z9.2.2.2.1 ∧ RA wa' z9.2.2.2.2 R K se0 so0) := by
  refine Ctr.of (by decide) (Nat.le_of_ble_eq_true rfl) ?_
  intro Z hO hn C
  have hlen : zn Z ≤ 17 := by rw [hn]; exact Nat.le_of_ble_eq_true rfl
  have h0 := hrh.1
  have h2 := hrh.2.1
  have h3 := hrh.2.2.1
  have hk : ∀ c, c < K → ∃ k, 1 ≤ k ∧ k ≤ 5 ∧ hoS ho c = nI k := fun c hc => by
    obtain ⟨k, e1, e2, e3⟩ := hso c hc
    exact ⟨k, e1, e2, (hrh.2.2.2.2.2 c hc).1.trans e3⟩
  refine mr_aload_n C 1 dX8_bells_0 rfl rfl ?_
  refine mr_iconst C (nI 0) 2 dX8_bells_1 rfl rfl ?_
  refine mr_put C 0 5 dX8_bells_2 rfl fs_X8_59 rfl rfl rfl (Nat.le_of_ble_eq_true rfl) ?_
  refine mr_w (ws' := wM E a ((nI 0)) st la mn im ho fr wa (nI h) tp td lt lg cu tk sr tl fa fp wh go se no al be gn gi gm ik ke tc tr) rfl ?_
  refine mr_aload_n C 6 dX8_bells_5 rfl rfl ?_
  refine mr_callV C (c_m_isThere E a ((nI 0)) st (nI h) td lt lg cu tk sr tl fa fp gn gi gm tr la mn im ho fr wa tp wh go se no al be ik ke tc R hR h0) [0, 1, 2, 3, 4, 5, 6, 7, 8, 9, 10, 11, 12, 13, 14, 15, 16] 0 8 9 dX8_bells_6 rfl mk_X8_isThere mi_X8_isThere ml_X8_222 rfl rfl rfl rfl rfl (Nat.le_of_ble_eq_true rfl) (by decide) (by decide) (by decide) rfl rfl (fun r w1 hpost => ?_)
  obtain ⟨rfl, rfl⟩ := hpost
  refine mr_w (wput_all _ _ 17 rfl rfl) ?_
  refine mr_ifne C 15 12 dX8_bells_9 (by decide) rfl (fun c_9 => ?_) (fun c_9 => ?_)
  · rw [bI_ne] at c_9
    refine mr_iload_n C 16 dX8_bells_15 rfl rfl ?_
    refine mr_callS C (c_m_isRow E r0) [] 19 dX8_bells_16 rfl mk_X8_isRow ms_X8_isRow ml_X8_73 rfl rfl rfl rfl (Nat.le_of_ble_eq_true rfl) (by decide) (by decide) (by decide) (fun r w1 hpost => ?_)
    obtain ⟨rfl, rfl⟩ := hpost
    refine mr_w (ws' := wM E a ((nI 0)) st la mn im ho fr wa (nI h) tp td lt lg cu tk sr tl fa fp wh go se no al be gn gi gm ik ke tc tr) rfl ?_
    refine mr_ifeq C 34 22 dX8_bells_19 (by decide) rfl (fun c_19 => ?_) (fun c_19 => ?_)
    · rw [bI_eq] at c_19
      refine mr_ldc C 36 dX8_bells_34 rfl kc_X8_79 ?_
      refine mr_iret C dX8_bells_36 rfl rfl (by decide) (by decide) hlen ?_
      rw [hO]
      replace hx9 := (ifP_f (by omega)).mp ((ifP_f (by omega)).mp (hx9))
      obtain ⟨rfl, rfl, rfl⟩ := hx9
      exact ⟨ho, wa, _, _, _, _, _, _, _, _, _, rfl, rfl, hrh, hA⟩
    · rw [← Ne, bI_ne] at c_19
      refine mr_iload_n C 23 dX8_bells_22 rfl rfl ?_
      refine mr_i2l C _ 24 dX8_bells_23 rfl rfl ?_
      refine mr_lconst C 1 25 dX8_bells_24 rfl rfl ?_
      refine mr_ldc2 C 28 dX8_bells_25 rfl kc_X8_230 ?_
      refine mr_callS C (c_inK E n0 (1) (24) _ _ rfl rfl) [] 31 dX8_bells_28 rfl mk_X8_in ms_X8_in ml_X8_69 rfl rfl rfl rfl (Nat.le_of_ble_eq_true rfl) (by decide) (by decide) (by decide) (fun r w1 hpost => ?_)
      obtain ⟨rfl, rfl⟩ := hpost
      refine mr_w (ws' := wM E a ((nI 0)) st la mn im ho fr wa (nI h) tp td lt lg cu tk sr tl fa fp wh go se no al be gn gi gm ik ke tc tr) rfl ?_
      refine mr_ifne C 37 34 dX8_bells_31 (by decide) rfl (fun c_31 => ?_) (fun c_31 => ?_)
      · rw [bI_ne] at c_31
        obtain ⟨r, hr, rfl⟩ := tI_of (x := r0) (n := 8) (by omega) (by omega)
        have er : (nI r).toInt = (r : Int) := tI_n (by omega)
        have ir_ : iN (nI r) = r := iN_n (by omega)
        obtain ⟨n, hn, rfl⟩ := tI_of (x := n0) (n := 25) (by omega) (by omega)
        have en : (nI n).toInt = (n : Int) := tI_n (by omega)
        have in_ : iN (nI n) = n := iN_n (by omega)
        refine mr_aload_n C 38 dX8_bells_37 rfl rfl ?_
        refine mr_get C 0 41 dX8_bells_38 rfl fl_X8_7 rfl rfl ?_
        refine mr_iload_n C 42 dX8_bells_41 rfl rfl ?_
        refine mr_iald C 1 r 43 dX8_bells_42 rfl rfl rfl (by omega) (by decide) ?_
        refine mr_ifge C 52 46 dX8_bells_43 (by decide) rfl (fun c_43 => ?_) (fun c_43 => ?_)
        · obtain ⟨hr1_, hr2_, ⟨lq, hlq, hlq2⟩, m, hm9, hsz, hmn, him⟩ := hrr.at hr c_43
          have em : (nI m).toInt = (m : Int) := tI_n (by omega)
          refine mr_iload_n C 53 dX8_bells_52 rfl rfl ?_
          refine mr_iflt C 72 56 dX8_bells_53 (by decide) rfl (fun c_53 => ?_) (fun c_53 => ?_)
          · rw [tI_lt0] at c_53
            refine mr_aload_n C 73 dX8_bells_72 rfl rfl ?_
            refine mr_iconst C (nI 2) 74 dX8_bells_73 rfl rfl ?_
            refine mr_callV C (c_m_finding E a ((nI 0)) st (nI h) td lt lg cu tk sr tl fa fp gn gi gm tr la mn im ho fr wa tp wh go se no al be ik ke tc 2) [0, 1, 2, 3, 4, 5, 6, 7, 8, 9, 10, 11, 12, 13, 14, 15, 16] 0 8 77 dX8_bells_74 rfl mk_X8_finding mi_X8_finding ml_X8_80 rfl rfl rfl rfl rfl (Nat.le_of_ble_eq_true rfl) (by decide) (by decide) (by decide) rfl rfl (fun r w1 hpost => ?_)
            obtain ⟨rfl, rfl⟩ := hpost
            refine mr_w (wput_all _ _ 17 rfl rfl) ?_
            refine mr_iret C dX8_bells_77 rfl rfl (by decide) (by decide) hlen ?_
            rw [hO]
            replace hx9 := (ifP_f (by rw [ir_, hsz]; omega)).mp ((ifP_f (by rw [ir_]; exact th_01 hr1_)).mp ((ifP_t (by omega)).mp ((ifP_f (by omega)).mp (hx9))))
            obtain ⟨rfl, rfl, rfl⟩ := hx9
            exact ⟨ho, wa, _, _, _, _, _, _, _, _, _, rfl, rfl, hrh, hA⟩
          · rw [tI_lt0] at c_53
            refine mr_iload_n C 57 dX8_bells_56 rfl rfl ?_
            refine mr_i2l C _ 58 dX8_bells_57 rfl rfl ?_
            refine mr_iload_n C 59 dX8_bells_58 rfl rfl ?_
            refine mr_i2l C _ 60 dX8_bells_59 rfl rfl ?_
            refine mr_ladd C _ 61 dX8_bells_60 rfl rfl ?_
            refine mr_aload_n C 62 dX8_bells_61 rfl rfl ?_
            refine mr_get C 0 65 dX8_bells_62 rfl fl_X8_13 rfl rfl ?_
            refine mr_iload_n C 66 dX8_bells_65 rfl rfl ?_
            refine mr_iale C 2 r (nI m) 67 dX8_bells_66 rfl rfl rfl (by omega) (by decide) hmn ?_
            refine mr_i2l C _ 68 dX8_bells_67 rfl rfl ?_
            refine mr_lcmp C 69 dX8_bells_68 rfl ?_
            refine mr_ifle C 78 72 dX8_bells_69 (by decide) rfl (fun c_69 => ?_) (fun c_69 => ?_)
            · rw [lcmp_le, addL (by omega) (by omega), tL] at c_69
              obtain ⟨i, hi, rfl⟩ := tI_of (x := i0) (n := 41) (by omega) (by omega)
              have ei : (nI i).toInt = (i : Int) := tI_n (by omega)
              have ii_ : iN (nI i) = i := iN_n (by omega)
              have hpl : 0 ≤ (nI i).toInt ∧ (nI i).toInt + (nI n).toInt ≤ (sz (iN (nI r))).toInt := by rw [ir_, hsz]; omega
              have hin : i + n ≤ m := by omega
              refine mr_bipush C (nI 40) 80 dX8_bells_78 rfl rfl ?_
              refine mr_iload_n C 81 dX8_bells_80 rfl rfl ?_
              refine mr_imul C (nI (40 * r)) 82 dX8_bells_81 rfl (pk_mul _ _) ?_
              refine mr_iload_n C 83 dX8_bells_82 rfl rfl ?_
              refine mr_iadd C (nI ((40 * r) + i)) 84 dX8_bells_83 rfl (nI_add _ _) ?_
              refine mr_istore C 86 dX8_bells_84 rfl (by decide) ?_
              refine mr_iconst C (nI 0) 87 dX8_bells_86 rfl rfl ?_
              refine mr_istore C 89 dX8_bells_87 rfl (by decide) ?_
              have L1 : ∀ j, j ≤ n → (∀ t, t < j → ¬ it r (i + t) < 0 ∧ it r (i + t) < nI 1 <<< (nI K &&& 31)) → V E mX8_bells (6, 0, 0) Z 0 0 (wM E a ((nI 0)) st la mn im ho fr wa ((nI h)) tp td lt lg cu tk sr tl fa fp wh go se no al be gn gi gm ik ke tc tr) [(0, .ref (a 0)), (1, .int (nI r)), (2, .int (nI i)), (3, .int (nI n)), (4, .int (nI (40 * r + i))), (5, .int (nI j))] [] 89 := by
                refine lp_up n ?_
                intro j hj9 ih hj2
                refine mr_iload C 91 dX8_bells_89 rfl rfl ?_
                refine mr_iload_n C 92 dX8_bells_91 rfl rfl ?_
                refine mr_icmpge C 133 95 dX8_bells_92 (by decide) rfl (fun c_92 => ?_) (fun c_92 => ?_)
                · rw [nI_leI (by omega) (by omega)] at c_92
                  refine mr_aload_n C 134 dX8_bells_133 rfl rfl ?_
                  refine mr_iload C 136 dX8_bells_134 rfl rfl ?_
                  refine mr_iload_n C 137 dX8_bells_136 rfl rfl ?_
                  have hjn : j = n := by omega
                  rw [hjn] at hj2
                  refine mr_callV C (c_haveRoom E a ((nI 0)) st (nI h) td lt lg cu tk sr tl fa fp gn gi gm tr la mn im ho fr wa tp wh go se no al be ik ke tc R K G se0 sn0 be0 so0 lo0 he0 hR hK hG hl hso hrh (40 * r + i) i n (it r) (by omega) (by omega) (fun k hk => by rw [Nat.add_assoc]; exact him (i + k) (by omega))) [0, 1, 2, 3, 4, 5, 6, 7, 8, 9, 10, 11, 12, 13, 14, 15, 16] 0 8 140 dX8_bells_137 rfl mk_X8_haveRoom mi_X8_haveRoom ml_X8_232 rfl rfl rfl rfl rfl (Nat.le_of_ble_eq_true rfl) (by decide) (by decide) (by decide) rfl rfl (fun r w1 hpost => ?_)
                  obtain ⟨rfl, rfl⟩ := hpost
                  refine mr_w (wput_all _ _ 17 rfl rfl) ?_
                  refine mr_ifne C 146 143 dX8_bells_140 (by decide) rfl (fun c_140 => ?_) (fun c_140 => ?_)
                  · rw [bP_ne] at c_140
                    refine mr_aload_n C 147 dX8_bells_146 rfl rfl ?_
                    refine mr_iconst C (nI 0) 148 dX8_bells_147 rfl rfl ?_
                    refine mr_put C 0 151 dX8_bells_148 rfl fs_X8_63 rfl rfl rfl (Nat.le_of_ble_eq_true rfl) ?_
                    refine mr_w (ws' := wM E a ((nI 0)) ((nI 0)) la mn im ho fr wa (nI h) tp td lt lg cu tk sr tl fa fp wh go se no al be gn gi gm ik ke tc tr) rfl ?_
                    refine mr_iconst C (nI 0) 152 dX8_bells_151 rfl rfl ?_
                    refine mr_istore C 154 dX8_bells_152 rfl (by decide) ?_
                    have hset : ∀ j, j < iN (nI n) → ¬ it (iN (nI r)) (iN (nI i) + j) < 0 ∧ it (iN (nI r)) (iN (nI i) + j) < nI 1 <<< (nI K &&& 31) := by rw [ir_, ii_, in_]; exact hj2
                    have hful : ¬ fullP K G he0 (it (iN (nI r))) (iN (nI i)) (iN (nI n)) := by rw [ir_, ii_, in_]; exact c_140
                    replace hx9 := (ifP_f (hful)).mp ((ifP_t (hset)).mp ((ifP_t (hpl)).mp ((ifP_f (by rw [ir_]; exact th_01 hr1_)).mp ((ifP_t (by omega)).mp ((ifP_f (by omega)).mp (hx9))))))
                    rw [ir_, ii_, in_] at hx9
                    obtain ⟨rfl, rfl, hBs⟩ := hx9
                    obtain ⟨zs, hz0, hzn, hst⟩ := BellsS.chain n z9 hBs
                    have hful2 : ¬ 9999 < G + n := fun e => c_140 (Or.inl e)
                    have hall := STP.all hst hR (by rw [hz0]; exact hl) (by rw [hz0]; exact ⟨hh, hx⟩)
                    rw [hz0] at hall
                    have hk0 : RH ho R K (zs 0).1 se0 sn0 (zs 0).2.1 so0 (zs 0).2.2.1 (zs 0).2.2.2.1 ∧ RA wa (zs 0).2.2.2.2 R K se0 so0 := by rw [hz0]; exact ⟨hrh, hA⟩
                    have L2 : ∀ k, k ≤ n → ∀ (hk_ wk s1 s2 s3 s4 s5 s6 : FN) (s7 s8 s9 : Int32), (RH hk_ R K (zs k).1 se0 sn0 (zs k).2.1 so0 (zs k).2.2.1 (zs k).2.2.2.1 ∧ RA wk (zs k).2.2.2.2 R K se0 so0) → V E mX8_bells (6, 0, 0) Z 0 0 (wM E a ((nI 0)) ((nI 0)) la mn im hk_ fr wk ((nI (zs k).2.2.2.2.2.1)) tp td lt lg cu tk sr tl fa fp s1 s2 s3 s4 s5 s6 s7 s8 s9 ik ke tc tr) [(0, .ref (a 0)), (1, .int (nI r)), (2, .int (nI i)), (3, .int (nI n)), (4, .int (nI (40 * r + i))), (5, .int (nI k))] [] 154 := by
                      refine lp_up n ?_
                      intro k hk9 ih hk_ wk s1 s2 s3 s4 s5 s6 s7 s8 s9 hk2
                      refine mr_iload C 156 dX8_bells_154 rfl rfl ?_
                      refine mr_iload_n C 157 dX8_bells_156 rfl rfl ?_
                      refine mr_icmpge C 224 160 dX8_bells_157 (by decide) rfl (fun c_157 => ?_) (fun c_157 => ?_)
                      · rw [nI_leI (by omega) (by omega)] at c_157
                        refine mr_aload_n C 225 dX8_bells_224 rfl rfl ?_
                        have hkn : k = n := by omega
                        have hz9 : zs k = z9 := by rw [hkn]; exact hzn
                        refine mr_callV C (c_headsOfAll E a ((nI 0)) ((nI 0)) (nI ((zs k).2.2.2.2.2.1)) td lt lg cu tk sr tl fa fp s7 s8 s9 tr la mn im hk_ fr wk tp s1 s2 s3 s4 s5 s6 ik ke tc K hK hk2.1.2.1 (zs k).2.2.2.1 (fun c hc => (hk2.1.2.2.2.2.2 c hc).2.2)) [0, 1, 2, 3, 4, 5, 6, 7, 8, 9, 10, 11, 12, 13, 14, 15, 16] 0 8 228 dX8_bells_225 rfl mk_X8_headsOfAll mi_X8_headsOfAll ml_X8_236 rfl rfl rfl rfl rfl (Nat.le_of_ble_eq_true rfl) (by decide) (by decide) (by decide) rfl rfl (fun r w1 hpost => ?_)
                        obtain ⟨rfl, rfl⟩ := hpost
                        refine mr_w (wput_all _ _ 17 rfl rfl) ?_
                        refine mr_iret C dX8_bells_228 rfl rfl (by decide) (by decide) hlen ?_
                        rw [hO]
                        rw [← hz9]
                        exact ⟨hk_, wk, _, _, _, _, _, _, _, _, _, rfl, rfl, hk2⟩
                      · rw [nI_leI (by omega) (by omega)] at c_157
                        refine mr_aload_n C 161 dX8_bells_160 rfl rfl ?_
                        obtain ⟨g1, g2, g3, g4⟩ := hall k (by omega)
                        obtain ⟨hrk, hak⟩ := hk2
                        obtain ⟨⟨vq, q1, q2, q3, q4⟩, q5, q6⟩ := hst k (by omega)
                        have e5 : min ((zs k).2.2.2.2.2.1 + 1) 24 = (zs (k + 1)).2.2.2.2.2.1 := by rw [q5]; rfl
                        refine mr_callV C (c_ring_m E a ((nI 0)) ((nI 0)) td lt lg cu tk sr tl fa fp s7 s8 s9 tr la mn im hk_ fr wk tp s1 s2 s3 s4 s5 s6 ik ke tc R K (zs k).1 se0 sn0 (zs k).2.1 so0 (zs k).2.2.1 (zs k).2.2.2.1 hR hK (by omega) g2 hso hrk (zs k).2.2.2.2.1 (zs k).2.2.2.2.2.1 (zs k).2.2.2.2.2.2 g3 g4 hak) [0, 1, 2, 3, 4, 5, 6, 7, 8, 9, 10, 11, 12, 13, 14, 15, 16] 0 8 164 dX8_bells_161 rfl mk_X8_ring mi_X8_ring ml_X8_227 rfl rfl rfl rfl rfl (Nat.le_of_ble_eq_true rfl) (by decide) (by decide) (by decide) rfl rfl (fun r w1 hpost => ?_)
                        obtain ⟨ho1, wa2, wh2, go2, se2, no2, al2, be2, gn2, gi2, gm2, rfl, rfl, hrh2, hA2⟩ := hpost
                        rw [e5]
                        refine mr_w (wput_all _ _ 17 rfl rfl) ?_
                        refine mr_istore C 166 dX8_bells_164 rfl (by decide) ?_
                        refine mr_iconst C (nI 0) 167 dX8_bells_166 rfl rfl ?_
                        refine mr_istore C 169 dX8_bells_167 rfl (by decide) ?_
                        have hA3 : RA wa2 (zs (k + 1)).2.2.2.2 R K se0 so0 := by rw [q5]; exact hA2
                        have hrh3 : RH ho1 R K (zs (k + 1)).1 se0 sn0 (zs (k + 1)).2.1 so0 (zs (k + 1)).2.2.1 (fun d => if d < 0 then adH (zs k).2.2.2.1 (it r (i + k)) d else (zs k).2.2.2.1 d) := by
                          rw [q2]
                          exact RH.cg hrh2 hR hK (fun _ _ => rfl) (fun r9 hr9 => ⟨rfl, rfl, q3 r9 (by omega)⟩) (fun c hc => ⟨rfl, q4 c hc, if_neg (Nat.not_lt_zero c)⟩)
                        have L3 : ∀ c, c ≤ K → ∀ f : FN, RH f R K (zs (k + 1)).1 se0 sn0 (zs (k + 1)).2.1 so0 (zs (k + 1)).2.2.1 (fun d => if d < c then adH (zs k).2.2.2.1 (it r (i + k)) d else (zs k).2.2.2.1 d) → V E mX8_bells (6, 0, 0) Z 0 0 (wM E a ((nI 0)) ((nI 0)) la mn im f fr wa2 ((nI (zs (k + 1)).2.2.2.2.2.1)) tp td lt lg cu tk sr tl fa fp wh2 go2 se2 no2 al2 be2 gn2 gi2 gm2 ik ke tc tr) [(0, .ref (a 0)), (1, .int (nI r)), (2, .int (nI i)), (3, .int (nI n)), (4, .int (nI (40 * r + i))), (5, .int (nI k)), (7, .int (nI c))] [] 169 := by
                          refine lp_up K ?_
                          intro c hc9 ihc f hf
                          refine mr_iload C 171 dX8_bells_169 rfl rfl ?_
                          refine mr_aload_n C 172 dX8_bells_171 rfl rfl ?_
                          refine mr_get C 0 175 dX8_bells_172 rfl fl_X8_19 rfl rfl ?_
                          refine mr_iconst C (nI 2) 176 dX8_bells_175 rfl rfl ?_
                          refine mr_iale C 4 2 (nI K) 177 dX8_bells_176 rfl rfl rfl (by omega) (by decide) hf.2.1 ?_
                          refine mr_icmpge C 218 180 dX8_bells_177 (by decide) rfl (fun c_177 => ?_) (fun c_177 => ?_)
                          · rw [nI_leI (by omega) (by omega)] at c_177
                            refine mr_iinc C (nI (k + 1)) 221 dX8_bells_218 rfl rfl (by decide) (nI_add k 1) ?_
                            refine mr_goto C 154 dX8_bells_221 (by decide) ?_
                            have hcK : c = K := by omega
                            have hN : RH f R K (zs (k + 1)).1 se0 sn0 (zs (k + 1)).2.1 so0 (zs (k + 1)).2.2.1 (zs (k + 1)).2.2.2.1 ∧ RA wa2 (zs (k + 1)).2.2.2.2 R K se0 so0 := ⟨RH.cg hf hR hK (fun _ _ => rfl) (fun _ _ => ⟨rfl, rfl, rfl⟩) (fun d hd => ⟨rfl, rfl, (q6 d hd).trans (if_pos (by omega)).symm⟩), hA3⟩
                            exact mr_at (ih (by omega) _ _ _ _ _ _ _ _ _ _ _ hN) rfl rfl rfl
                          · rw [nI_leI (by omega) (by omega)] at c_177
                            refine mr_aload_n C 181 dX8_bells_180 rfl rfl ?_
                            refine mr_get C 0 184 dX8_bells_181 rfl fl_X8_19 rfl rfl ?_
                            refine mr_bipush C (nI 22) 186 dX8_bells_184 rfl rfl ?_
                            refine mr_iconst C (nI 3) 187 dX8_bells_186 rfl rfl ?_
                            refine mr_iload C 189 dX8_bells_187 rfl rfl ?_
                            refine mr_imul C (nI (3 * c)) 190 dX8_bells_189 rfl (pk_mul _ _) ?_
                            refine mr_iadd C (nI (22 + (3 * c))) 191 dX8_bells_190 rfl (nI_add _ _) ?_
                            refine mr_iconst C (nI 2) 192 dX8_bells_191 rfl rfl ?_
                            refine mr_iadd C (nI ((22 + (3 * c)) + 2)) 193 dX8_bells_192 rfl (nI_add _ _) ?_
                            refine mr_dup2 C 194 dX8_bells_193 rfl rfl rfl ?_
                            refine mr_iale C 4 ((22 + (3 * c)) + 2) (((zs k).2.2.2.1 c)) 195 dX8_bells_194 rfl rfl rfl (by omega) (by decide) ((hf.2.2.2.2.2 c (by omega)).2.2.trans (if_neg (Nat.lt_irrefl _))) ?_
                            refine mr_aload_n C 196 dX8_bells_195 rfl rfl ?_
                            refine mr_get C 0 199 dX8_bells_196 rfl fl_X8_16 rfl rfl ?_
                            refine mr_iload C 201 dX8_bells_199 rfl rfl ?_
                            refine mr_iload C 203 dX8_bells_201 rfl rfl ?_
                            refine mr_iadd C (nI ((40 * r + i) + k)) 204 dX8_bells_203 rfl (nI_add _ _) ?_
                            refine mr_iale C 3 ((40 * r + i) + k) ((it r (i + k))) 205 dX8_bells_204 rfl rfl rfl (by omega) (by decide) (by rw [Nat.add_assoc]; exact him (i + k) (by omega)) ?_
                            refine mr_iload C 207 dX8_bells_205 rfl rfl ?_
                            refine mr_ishr C _ 208 dX8_bells_207 rfl rfl ?_
                            refine mr_iconst C (nI 1) 209 dX8_bells_208 rfl rfl ?_
                            refine mr_iand C _ 210 dX8_bells_209 rfl rfl ?_
                            refine mr_iadd C _ 211 dX8_bells_210 rfl rfl ?_
                            refine mr_iast C 4 ((22 + (3 * c)) + 2) 212 dX8_bells_211 rfl rfl rfl (by omega) (by decide) ?_
                            refine mr_iinc C (nI (c + 1)) 215 dX8_bells_212 rfl rfl (by decide) (nI_add c 1) ?_
                            refine mr_goto C 169 dX8_bells_215 (by decide) ?_
                            refine mr_at (ihc (by omega) _ ?_) rfl rfl rfl
                            refine RH.cg (hf.head hR rfl _) hR hK (fun _ _ => rfl) (fun _ _ => ⟨rfl, rfl, rfl⟩) (fun d hd => ⟨rfl, rfl, ?_⟩)
                            rw [up_at]
                            by_cases e : d = c
                            · rw [if_pos e, e, if_pos (by omega)]; rfl
                            · rw [if_neg e]
                              by_cases e2 : d < c
                              · rw [if_pos e2, if_pos (by omega)]
                              · rw [if_neg e2, if_neg (by omega)]
                        exact mr_at (L3 0 (Nat.zero_le _) ho1 hrh3) rfl rfl rfl
                    have l0 := L2 0 (Nat.zero_le _) ho wa wh go se no al be gn gi gm hk0
                    rw [hz0] at l0
                    exact mr_at l0 rfl rfl rfl
                  · rw [bP_eq] at c_140
                    refine mr_ldc C 145 dX8_bells_143 rfl kc_X8_89 ?_
                    refine mr_iret C dX8_bells_145 rfl rfl (by decide) (by decide) hlen ?_
                    rw [hO]
                    have hset : ∀ j, j < iN (nI n) → ¬ it (iN (nI r)) (iN (nI i) + j) < 0 ∧ it (iN (nI r)) (iN (nI i) + j) < nI 1 <<< (nI K &&& 31) := by rw [ir_, ii_, in_]; exact hj2
                    replace hx9 := (ifP_t (by rw [ir_, ii_, in_]; exact Classical.byContradiction c_140)).mp ((ifP_t (hset)).mp ((ifP_t (hpl)).mp ((ifP_f (by rw [ir_]; exact th_01 hr1_)).mp ((ifP_t (by omega)).mp ((ifP_f (by omega)).mp (hx9))))))
                    obtain ⟨rfl, rfl, rfl⟩ := hx9
                    exact ⟨ho, wa, _, _, _, _, _, _, _, _, _, rfl, rfl, hrh, hA⟩
                · rw [nI_leI (by omega) (by omega)] at c_92
                  refine mr_aload_n C 96 dX8_bells_95 rfl rfl ?_
                  refine mr_get C 0 99 dX8_bells_96 rfl fl_X8_16 rfl rfl ?_
                  refine mr_iload C 101 dX8_bells_99 rfl rfl ?_
                  refine mr_iload C 103 dX8_bells_101 rfl rfl ?_
                  refine mr_iadd C (nI ((40 * r + i) + j)) 104 dX8_bells_103 rfl (nI_add _ _) ?_
                  refine mr_iale C 3 ((40 * r + i) + j) ((it r (i + j))) 105 dX8_bells_104 rfl rfl rfl (by omega) (by decide) (by rw [Nat.add_assoc]; exact him (i + j) (by omega)) ?_
                  refine mr_i2l C _ 106 dX8_bells_105 rfl rfl ?_
                  refine mr_lconst C 0 107 dX8_bells_106 rfl rfl ?_
                  refine mr_iconst C (nI 1) 108 dX8_bells_107 rfl rfl ?_
                  refine mr_aload_n C 109 dX8_bells_108 rfl rfl ?_
                  refine mr_get C 0 112 dX8_bells_109 rfl fl_X8_19 rfl rfl ?_
                  refine mr_iconst C (nI 2) 113 dX8_bells_112 rfl rfl ?_
                  refine mr_iale C 4 2 (nI K) 114 dX8_bells_113 rfl rfl rfl (by omega) (by decide) h2 ?_
                  refine mr_ishl C _ 115 dX8_bells_114 rfl rfl ?_
                  refine mr_iconst C (nI 1) 116 dX8_bells_115 rfl rfl ?_
                  refine mr_isub C _ 117 dX8_bells_116 rfl rfl ?_
                  refine mr_i2l C _ 118 dX8_bells_117 rfl rfl ?_
                  refine mr_callS C (c_inK E (it r (i + j)) (0) ((nI 1 <<< (nI K &&& 31)).toInt - 1) _ _ rfl (shB hK)) [] 121 dX8_bells_118 rfl mk_X8_in ms_X8_in ml_X8_69 rfl rfl rfl rfl (Nat.le_of_ble_eq_true rfl) (by decide) (by decide) (by decide) (fun r w1 hpost => ?_)
                  obtain ⟨rfl, rfl⟩ := hpost
                  refine mr_w (ws' := wM E a ((nI 0)) st la mn im ho fr wa (nI h) tp td lt lg cu tk sr tl fa fp wh go se no al be gn gi gm ik ke tc tr) rfl ?_
                  refine mr_ifne C 127 124 dX8_bells_121 (by decide) rfl (fun c_121 => ?_) (fun c_121 => ?_)
                  · rw [bI_ne] at c_121
                    refine mr_iinc C (nI (j + 1)) 130 dX8_bells_127 rfl rfl (by decide) (nI_add j 1) ?_
                    refine mr_goto C 89 dX8_bells_130 (by decide) ?_
                    refine mr_at (ih (by omega) ?_) rfl rfl rfl
                    intro t ht
                    by_cases e : t = j
                    · rw [e]; exact okB.mp c_121
                    · exact hj2 t (by omega)
                  · rw [bI_eq] at c_121
                    refine mr_ldc C 126 dX8_bells_124 rfl kc_X8_79 ?_
                    refine mr_iret C dX8_bells_126 rfl rfl (by decide) (by decide) hlen ?_
                    rw [hO]
                    replace hx9 := (ifP_f (by rw [ir_, ii_, in_]; exact fun h9 => c_121 (okB.mpr (h9 j (by omega))))).mp ((ifP_t (hpl)).mp ((ifP_f (by rw [ir_]; exact th_01 hr1_)).mp ((ifP_t (by omega)).mp ((ifP_f (by omega)).mp (hx9)))))
                    obtain ⟨rfl, rfl, rfl⟩ := hx9
                    exact ⟨ho, wa, _, _, _, _, _, _, _, _, _, rfl, rfl, hrh, hA⟩
              exact mr_at (L1 0 (Nat.zero_le _) (fun t h9 => absurd h9 (Nat.not_lt_zero t))) rfl rfl rfl
            · rw [lcmp_le, addL (by omega) (by omega), tL] at c_69
              refine mr_aload_n C 73 dX8_bells_72 rfl rfl ?_
              refine mr_iconst C (nI 2) 74 dX8_bells_73 rfl rfl ?_
              refine mr_callV C (c_m_finding E a ((nI 0)) st (nI h) td lt lg cu tk sr tl fa fp gn gi gm tr la mn im ho fr wa tp wh go se no al be ik ke tc 2) [0, 1, 2, 3, 4, 5, 6, 7, 8, 9, 10, 11, 12, 13, 14, 15, 16] 0 8 77 dX8_bells_74 rfl mk_X8_finding mi_X8_finding ml_X8_80 rfl rfl rfl rfl rfl (Nat.le_of_ble_eq_true rfl) (by decide) (by decide) (by decide) rfl rfl (fun r w1 hpost => ?_)
              obtain ⟨rfl, rfl⟩ := hpost
              refine mr_w (wput_all _ _ 17 rfl rfl) ?_
              refine mr_iret C dX8_bells_77 rfl rfl (by decide) (by decide) hlen ?_
              rw [hO]
              replace hx9 := (ifP_f (by rw [ir_, hsz]; omega)).mp ((ifP_f (by rw [ir_]; exact th_01 hr1_)).mp ((ifP_t (by omega)).mp ((ifP_f (by omega)).mp (hx9))))
              obtain ⟨rfl, rfl, rfl⟩ := hx9
              exact ⟨ho, wa, _, _, _, _, _, _, _, _, _, rfl, rfl, hrh, hA⟩
        · refine mr_aload_n C 47 dX8_bells_46 rfl rfl ?_
          refine mr_iconst C (nI 1) 48 dX8_bells_47 rfl rfl ?_
          refine mr_callV C (c_m_finding E a ((nI 0)) st (nI h) td lt lg cu tk sr tl fa fp gn gi gm tr la mn im ho fr wa tp wh go se no al be ik ke tc 1) [0, 1, 2, 3, 4, 5, 6, 7, 8, 9, 10, 11, 12, 13, 14, 15, 16] 0 8 51 dX8_bells_48 rfl mk_X8_finding mi_X8_finding ml_X8_80 rfl rfl rfl rfl rfl (Nat.le_of_ble_eq_true rfl) (by decide) (by decide) (by decide) rfl rfl (fun r w1 hpost => ?_)
          obtain ⟨rfl, rfl⟩ := hpost
          refine mr_w (wput_all _ _ 17 rfl rfl) ?_
          refine mr_iret C dX8_bells_51 rfl rfl (by decide) (by decide) hlen ?_
          rw [hO]
          replace hx9 := (ifP_t (by rw [ir_]; exact hrr.is hr c_43)).mp ((ifP_t (by omega)).mp ((ifP_f (by omega)).mp (hx9)))
          obtain ⟨rfl, rfl, rfl⟩ := hx9
          exact ⟨ho, wa, _, _, _, _, _, _, _, _, _, rfl, rfl, hrh, hA⟩
      · rw [bI_eq] at c_31
        refine mr_ldc C 36 dX8_bells_34 rfl kc_X8_79 ?_
        refine mr_iret C dX8_bells_36 rfl rfl (by decide) (by decide) hlen ?_
        rw [hO]
        replace hx9 := (ifP_f (by omega)).mp ((ifP_f (by omega)).mp (hx9))
        obtain ⟨rfl, rfl, rfl⟩ := hx9
        exact ⟨ho, wa, _, _, _, _, _, _, _, _, _, rfl, rfl, hrh, hA⟩
  · rw [bI_eq] at c_9
    refine mr_ldc C 14 dX8_bells_12 rfl kc_X8_226 ?_
    refine mr_iret C dX8_bells_14 rfl rfl (by decide) (by decide) hlen ?_
    rw [hO]
    replace hx9 := (ifP_t (by omega)).mp (hx9)
    obtain ⟨rfl, rfl, rfl⟩ := hx9
    exact ⟨ho, wa, _, _, _, _, _, _, _, _, _, rfl, rfl, hrh, hA⟩

