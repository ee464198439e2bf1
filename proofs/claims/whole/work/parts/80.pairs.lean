/-! each call, of both -/
theorem j_row {E : EG} {a a2 : Nat → Nat} {w1 w2 : va_W} (hJ : JJ E a a2 w1 w2) (r0 : Int32) (l0 : Int32) (n0 : Int32) : PAIR E a a2 mX7_row mX8_row (2, 0, 0) (2, 0, 0) [.int r0, .int l0, .int n0] w1 w2 := by
  refine hJ.elim (P := fun w1 w2 => PAIR E a a2 mX7_row mX8_row (2, 0, 0) (2, 0, 0) [.int r0, .int l0, .int n0] w1 w2) ?_
  intro fn fd it th ln sz t S tI rI pF pI se sn be so lo he n1 n2 n3 R K G iF iR iK iG iu ig kp h x uI cF cI cg fi sr s v1 f1_ v2 v3 v4 v5 v6 v7 v8 g1 g2 g3 g4 g5 g6 v9 v10 v11 la mn im ho wa tp ik ke tc n hrel
  obtain ⟨hrr, ⟨hS, htp, hby⟩, ⟨hq2, hqb⟩, ⟨hrh, hok⟩, ⟨hA, hak⟩, ⟨him, him2, hi3⟩, hcg, hrt⟩ := hrel
  obtain ⟨hR, hK, hG, hl, hso, hsy⟩ := id hok
  refine ⟨_, c_x_row E a fn fd it th ln sz t S tI rI pF pI se sn be so lo he n1 n2 n3 R K G iF iR iK iG iu ig kp h x uI cF cI cg fi sr s r0 l0 n0 , ?_⟩
  rintro v w ⟨it', th', ln', sz', fd', vv9, rfl, rfl, hx⟩
  refine ⟨_, rfl, rfl, _, c_m_row E a2 v1 fd ((nI h)) ((nI S)) fn v2 v3 v4 v5 v6 v7 v8 v9 v10 v11 ((nI n)) la mn im ho f1_ wa tp g1 g2 g3 g4 g5 g6 ik ke tc it th ln sz hrr r0 l0 n0, ?_⟩
  rintro v' w' ⟨la', mn', im', st', v2, rfl, rfl, hm⟩
  obtain ⟨rfl, rfl, hrr2⟩ := hm _ _ _ _ _ _ hx
  exact ⟨rfl, JJ.mk ⟨hrr2, ⟨hS, htp, hby⟩, ⟨hq2, hqb⟩, ⟨hrh, hok⟩, ⟨hA, hak⟩, ⟨him, him2, hi3⟩, hcg, hrt⟩⟩
theorem j_set {E : EG} {a a2 : Nat → Nat} {w1 w2 : va_W} (hJ : JJ E a a2 w1 w2) (r0 : Int32) (i0 : Int32) (z0 : Int32) : PAIR E a a2 mX7_set mX8_set (2, 0, 0) (2, 0, 0) [.int r0, .int i0, .int z0] w1 w2 := by
  refine hJ.elim (P := fun w1 w2 => PAIR E a a2 mX7_set mX8_set (2, 0, 0) (2, 0, 0) [.int r0, .int i0, .int z0] w1 w2) ?_
  intro fn fd it th ln sz t S tI rI pF pI se sn be so lo he n1 n2 n3 R K G iF iR iK iG iu ig kp h x uI cF cI cg fi sr s v1 f1_ v2 v3 v4 v5 v6 v7 v8 g1 g2 g3 g4 g5 g6 v9 v10 v11 la mn im ho wa tp ik ke tc n hrel
  obtain ⟨hrr, ⟨hS, htp, hby⟩, ⟨hq2, hqb⟩, ⟨hrh, hok⟩, ⟨hA, hak⟩, ⟨him, him2, hi3⟩, hcg, hrt⟩ := hrel
  obtain ⟨hR, hK, hG, hl, hso, hsy⟩ := id hok
  refine ⟨_, c_x_set E a fn fd it th ln sz t S tI rI pF pI se sn be so lo he n1 n2 n3 R K G iF iR iK iG iu ig kp h x uI cF cI cg fi sr s r0 i0 z0 hrr.ri, ?_⟩
  rintro v w ⟨it', th', ln', sz', fd', vv9, rfl, rfl, hx⟩
  refine ⟨_, rfl, rfl, _, c_m_set E a2 v1 fd ((nI h)) ((nI S)) fn v2 v3 v4 v5 v6 v7 v8 v9 v10 v11 ((nI n)) la mn im ho f1_ wa tp g1 g2 g3 g4 g5 g6 ik ke tc it th ln sz hrr r0 i0 z0, ?_⟩
  rintro v' w' ⟨la', mn', im', st', v2, rfl, rfl, hm⟩
  obtain ⟨rfl, rfl, hrr2⟩ := hm _ _ _ _ _ _ hx
  exact ⟨rfl, JJ.mk ⟨hrr2, ⟨hS, htp, hby⟩, ⟨hq2, hqb⟩, ⟨hrh, hok⟩, ⟨hA, hak⟩, ⟨him, him2, hi3⟩, hcg, hrt⟩⟩
theorem j_copy {E : EG} {a a2 : Nat → Nat} {w1 w2 : va_W} (hJ : JJ E a a2 w1 w2) (r0 : Int32) (i0 : Int32) (u0 : Int32) (j0 : Int32) (n0 : Int32) : PAIR E a a2 mX7_copy mX8_copy (2, 0, 0) (2, 0, 0) [.int r0, .int i0, .int u0, .int j0, .int n0] w1 w2 := by
  refine hJ.elim (P := fun w1 w2 => PAIR E a a2 mX7_copy mX8_copy (2, 0, 0) (2, 0, 0) [.int r0, .int i0, .int u0, .int j0, .int n0] w1 w2) ?_
  intro fn fd it th ln sz t S tI rI pF pI se sn be so lo he n1 n2 n3 R K G iF iR iK iG iu ig kp h x uI cF cI cg fi sr s v1 f1_ v2 v3 v4 v5 v6 v7 v8 g1 g2 g3 g4 g5 g6 v9 v10 v11 la mn im ho wa tp ik ke tc n hrel
  obtain ⟨hrr, ⟨hS, htp, hby⟩, ⟨hq2, hqb⟩, ⟨hrh, hok⟩, ⟨hA, hak⟩, ⟨him, him2, hi3⟩, hcg, hrt⟩ := hrel
  obtain ⟨hR, hK, hG, hl, hso, hsy⟩ := id hok
  refine ⟨_, c_x_copy E a fn fd it th ln sz t S tI rI pF pI se sn be so lo he n1 n2 n3 R K G iF iR iK iG iu ig kp h x uI cF cI cg fi sr s r0 i0 u0 j0 n0 hrr.ri, ?_⟩
  rintro v w ⟨it', th', ln', sz', fd', vv9, rfl, rfl, hx⟩
  refine ⟨_, rfl, rfl, _, c_m_copy E a2 v1 fd ((nI h)) ((nI S)) fn v2 v3 v4 v5 v6 v7 v8 v9 v10 v11 ((nI n)) la mn im ho f1_ wa tp g1 g2 g3 g4 g5 g6 ik ke tc it th ln sz hrr r0 i0 u0 j0 n0, ?_⟩
  rintro v' w' ⟨la', mn', im', st', v2, rfl, rfl, hm⟩
  obtain ⟨rfl, rfl, hrr2⟩ := hm _ _ _ _ _ _ hx
  exact ⟨rfl, JJ.mk ⟨hrr2, ⟨hS, htp, hby⟩, ⟨hq2, hqb⟩, ⟨hrh, hok⟩, ⟨hA, hak⟩, ⟨him, him2, hi3⟩, hcg, hrt⟩⟩
theorem j_drop {E : EG} {a a2 : Nat → Nat} {w1 w2 : va_W} (hJ : JJ E a a2 w1 w2) (r0 : Int32) : PAIR E a a2 mX7_drop mX8_drop (2, 0, 0) (2, 0, 0) [.int r0] w1 w2 := by
  refine hJ.elim (P := fun w1 w2 => PAIR E a a2 mX7_drop mX8_drop (2, 0, 0) (2, 0, 0) [.int r0] w1 w2) ?_
  intro fn fd it th ln sz t S tI rI pF pI se sn be so lo he n1 n2 n3 R K G iF iR iK iG iu ig kp h x uI cF cI cg fi sr s v1 f1_ v2 v3 v4 v5 v6 v7 v8 g1 g2 g3 g4 g5 g6 v9 v10 v11 la mn im ho wa tp ik ke tc n hrel
  obtain ⟨hrr, ⟨hS, htp, hby⟩, ⟨hq2, hqb⟩, ⟨hrh, hok⟩, ⟨hA, hak⟩, ⟨him, him2, hi3⟩, hcg, hrt⟩ := hrel
  obtain ⟨hR, hK, hG, hl, hso, hsy⟩ := id hok
  refine ⟨_, c_x_drop E a fn fd it th ln sz t S tI rI pF pI se sn be so lo he n1 n2 n3 R K G iF iR iK iG iu ig kp h x uI cF cI cg fi sr s r0 , ?_⟩
  rintro v w ⟨it', th', ln', sz', fd', vv9, rfl, rfl, hx⟩
  refine ⟨_, rfl, rfl, _, c_m_drop E a2 v1 fd ((nI h)) ((nI S)) fn v2 v3 v4 v5 v6 v7 v8 v9 v10 v11 ((nI n)) la mn im ho f1_ wa tp g1 g2 g3 g4 g5 g6 ik ke tc it th ln sz hrr r0, ?_⟩
  rintro v' w' ⟨la', mn', im', st', v2, rfl, rfl, hm⟩
  obtain ⟨rfl, rfl, hrr2⟩ := hm _ _ _ _ _ _ hx
  exact ⟨rfl, JJ.mk ⟨hrr2, ⟨hS, htp, hby⟩, ⟨hq2, hqb⟩, ⟨hrh, hok⟩, ⟨hA, hak⟩, ⟨him, him2, hi3⟩, hcg, hrt⟩⟩
theorem j_feed {E : EG} {a a2 : Nat → Nat} {w1 w2 : va_W} (hJ : JJ E a a2 w1 w2) (w : Int64) (n0 : Int32) : PAIR E a a2 mX7_feed mX8_feed (4, 0, 0) (3, 0, 0) [.long w, .int n0] w1 w2 := by
  refine hJ.elim (P := fun w1 w2 => PAIR E a a2 mX7_feed mX8_feed (4, 0, 0) (3, 0, 0) [.long w, .int n0] w1 w2) ?_
  intro fn fd it th ln sz t S tI rI pF pI se sn be so lo he n1 n2 n3 R K G iF iR iK iG iu ig kp h x uI cF cI cg fi sr s v1 f1_ v2 v3 v4 v5 v6 v7 v8 g1 g2 g3 g4 g5 g6 v9 v10 v11 la mn im ho wa tp ik ke tc n hrel
  obtain ⟨hrr, ⟨hS, htp, hby⟩, ⟨hq2, hqb⟩, ⟨hrh, hok⟩, ⟨hA, hak⟩, ⟨him, him2, hi3⟩, hcg, hrt⟩ := hrel
  obtain ⟨hR, hK, hG, hl, hso, hsy⟩ := id hok
  refine ⟨_, c_x_feed E a fn fd it th ln sz t S tI rI pF pI se sn be so lo he n1 n2 n3 R K G iF iR iK iG iu ig kp h x uI cF cI cg fi sr s w n0 hS, ?_⟩
  rintro v w' ⟨vv9, t', S', rfl, rfl, hx⟩
  refine ⟨_, rfl, rfl, _, c_m_feed E a2 v1 fd ((nI h)) fn v2 v3 v4 v5 v6 v7 v8 v9 v10 v11 ((nI n)) la mn im ho f1_ wa tp g1 g2 g3 g4 g5 g6 ik ke tc t S hS htp w n0, ?_⟩
  rintro v' w' ⟨tp', S2, v2, rfl, rfl, hm⟩
  obtain ⟨rfl, rfl, htp2⟩ := hm _ _ _ hx
  obtain ⟨hS2, hby2⟩ := hx.ok hS hby
  exact ⟨rfl, JJ.mk ⟨hrr, ⟨hS2, htp2, hby2⟩, ⟨hq2, hqb⟩, ⟨hrh, hok⟩, ⟨hA, hak⟩, ⟨him, him2, hi3⟩, hcg, hrt⟩⟩
theorem j_house {E : EG} {a a2 : Nat → Nat} {w1 w2 : va_W} (hJ : JJ E a a2 w1 w2)  : PAIR E a a2 mX7_house mX8_house (10, 0, 0) (7, 0, 0) [] w1 w2 := by
  refine hJ.elim (P := fun w1 w2 => PAIR E a a2 mX7_house mX8_house (10, 0, 0) (7, 0, 0) [] w1 w2) ?_
  intro fn fd it th ln sz t S tI rI pF pI se sn be so lo he n1 n2 n3 R K G iF iR iK iG iu ig kp h x uI cF cI cg fi sr s v1 f1_ v2 v3 v4 v5 v6 v7 v8 g1 g2 g3 g4 g5 g6 v9 v10 v11 la mn im ho wa tp ik ke tc n hrel
  obtain ⟨hrr, ⟨hS, htp, hby⟩, ⟨hq2, hqb⟩, ⟨hrh, hok⟩, ⟨hA, hak⟩, ⟨him, him2, hi3⟩, hcg, hrt⟩ := hrel
  obtain ⟨hR, hK, hG, hl, hso, hsy⟩ := id hok
  refine ⟨_, c_x_house E a fn fd it th ln sz t S tI rI pF pI se sn be so lo he n1 n2 n3 R K G iF iR iK iG iu ig kp h x uI cF cI cg fi sr s hS hq2 hqb, ?_⟩
  rintro v w ⟨vv9, fn9, z9, y9, tI9, rI9, pF9, pI9, rfl, rfl, hq3, hqc, se9, sn9, so9, lo9, he9, hsn9, hx⟩
  refine ⟨_, rfl, rfl, _, c_m_house E a2 v1 fd ((nI h)) fn v2 v3 v4 v5 v6 v7 v8 v9 v10 v11 ((nI n)) la mn im ho f1_ wa tp g1 g2 g3 g4 g5 g6 ik ke tc t S hS htp hby se9 sn9 so9 lo9 he9 hsn9, ?_⟩
  rintro v' w' ⟨f1', s1, s2, s3, s4, s5, s6, s7, ⟨e, k, hr, rfl, rfl⟩ | ⟨x9, ho9, hr, rfl, hfx, rfl⟩⟩
  · rw [hr] at hx
    obtain ⟨rfl, rfl, rfl, rfl⟩ := hx
    exact ⟨rfl, JJ.mk ⟨hrr, ⟨Nat.zero_le _, fun j h => absurd h (Nat.not_lt_zero j), fun j h => absurd h (Nat.not_lt_zero j)⟩, ⟨hq3, hqc⟩, ⟨hrh, hok⟩, ⟨hA, hak⟩, ⟨him, him2, hi3⟩, hcg, hrt⟩⟩
  · rw [hr] at hx
    obtain ⟨rfl, rfl, rfl, e1, e2, e3, hE⟩ := hx
    have hpk := PK.tape hsn9 hr
    obtain ⟨hrh2, hok2⟩ := hfx.rh hpk e1 e2 e3 hE
    exact ⟨rfl, JJ.mk ⟨hrr, ⟨Nat.zero_le _, fun j h => absurd h (Nat.not_lt_zero j), fun j h => absurd h (Nat.not_lt_zero j)⟩, ⟨hq3, hqc⟩, ⟨hrh2, hok2⟩, ⟨RA.none, AOK.none⟩, ⟨him, him2, hi3⟩, hcg, hrt⟩⟩
theorem j_fault {E : EG} {a a2 : Nat → Nat} {w1 w2 : va_W} (hJ : JJ E a a2 w1 w2)  : PAIR E a a2 mX7_fault mX8_fault (1, 0, 0) (1, 0, 0) [] w1 w2 := by
  refine hJ.elim (P := fun w1 w2 => PAIR E a a2 mX7_fault mX8_fault (1, 0, 0) (1, 0, 0) [] w1 w2) ?_
  intro fn fd it th ln sz t S tI rI pF pI se sn be so lo he n1 n2 n3 R K G iF iR iK iG iu ig kp h x uI cF cI cg fi sr s v1 f1_ v2 v3 v4 v5 v6 v7 v8 g1 g2 g3 g4 g5 g6 v9 v10 v11 la mn im ho wa tp ik ke tc n hrel
  obtain ⟨hrr, ⟨hS, htp, hby⟩, ⟨hq2, hqb⟩, ⟨hrh, hok⟩, ⟨hA, hak⟩, ⟨him, him2, hi3⟩, hcg, hrt⟩ := hrel
  obtain ⟨hR, hK, hG, hl, hso, hsy⟩ := id hok
  refine ⟨_, c_x_fault E a fn fd it th ln sz t S tI rI pF pI se sn be so lo he n1 n2 n3 R K G iF iR iK iG iu ig kp h x uI cF cI cg fi sr s , ?_⟩
  rintro v w ⟨rfl, rfl⟩
  refine ⟨_, rfl, rfl, _, c_m_fault E a2 v1 fd ((nI h)) ((nI S)) fn v2 v3 v4 v5 v6 v7 v8 v9 v10 v11 ((nI n)) la mn im ho f1_ wa tp g1 g2 g3 g4 g5 g6 ik ke tc , ?_⟩
  rintro v' w' ⟨rfl, rfl⟩
  exact ⟨rfl, JJ.mk ⟨hrr, ⟨hS, htp, hby⟩, ⟨hq2, hqb⟩, ⟨hrh, hok⟩, ⟨hA, hak⟩, ⟨him, him2, hi3⟩, hcg, hrt⟩⟩
theorem j_status {E : EG} {a a2 : Nat → Nat} {w1 w2 : va_W} (hJ : JJ E a a2 w1 w2)  : PAIR E a a2 mX7_status mX8_status (1, 0, 0) (1, 0, 0) [] w1 w2 := by
  refine hJ.elim (P := fun w1 w2 => PAIR E a a2 mX7_status mX8_status (1, 0, 0) (1, 0, 0) [] w1 w2) ?_
  intro fn fd it th ln sz t S tI rI pF pI se sn be so lo he n1 n2 n3 R K G iF iR iK iG iu ig kp h x uI cF cI cg fi sr s v1 f1_ v2 v3 v4 v5 v6 v7 v8 g1 g2 g3 g4 g5 g6 v9 v10 v11 la mn im ho wa tp ik ke tc n hrel
  obtain ⟨hrr, ⟨hS, htp, hby⟩, ⟨hq2, hqb⟩, ⟨hrh, hok⟩, ⟨hA, hak⟩, ⟨him, him2, hi3⟩, hcg, hrt⟩ := hrel
  obtain ⟨hR, hK, hG, hl, hso, hsy⟩ := id hok
  refine ⟨_, c_x_status E a fn fd it th ln sz t S tI rI pF pI se sn be so lo he n1 n2 n3 R K G iF iR iK iG iu ig kp h x uI cF cI cg fi sr s , ?_⟩
  rintro v w ⟨rfl, rfl⟩
  refine ⟨_, rfl, rfl, _, c_m_status E a2 v1 fd ((nI h)) ((nI S)) fn v2 v3 v4 v5 v6 v7 v8 v9 v10 v11 ((nI n)) la mn im ho f1_ wa tp g1 g2 g3 g4 g5 g6 ik ke tc , ?_⟩
  rintro v' w' ⟨rfl, rfl⟩
  exact ⟨rfl, JJ.mk ⟨hrr, ⟨hS, htp, hby⟩, ⟨hq2, hqb⟩, ⟨hrh, hok⟩, ⟨hA, hak⟩, ⟨him, him2, hi3⟩, hcg, hrt⟩⟩
theorem j_bell {E : EG} {a a2 : Nat → Nat} {w1 w2 : va_W} (hJ : JJ E a a2 w1 w2)  : PAIR E a a2 mX7_bell mX8_bell (4, 0, 0) (5, 0, 0) [] w1 w2 := by
  refine hJ.elim (P := fun w1 w2 => PAIR E a a2 mX7_bell mX8_bell (4, 0, 0) (5, 0, 0) [] w1 w2) ?_
  intro fn fd it th ln sz t S tI rI pF pI se sn be so lo he n1 n2 n3 R K G iF iR iK iG iu ig kp h x uI cF cI cg fi sr s v1 f1_ v2 v3 v4 v5 v6 v7 v8 g1 g2 g3 g4 g5 g6 v9 v10 v11 la mn im ho wa tp ik ke tc n hrel
  obtain ⟨hrr, ⟨hS, htp, hby⟩, ⟨hq2, hqb⟩, ⟨hrh, hok⟩, ⟨hA, hak⟩, ⟨him, him2, hi3⟩, hcg, hrt⟩ := hrel
  obtain ⟨hR, hK, hG, hl, hso, hsy⟩ := id hok
  refine ⟨_, c_x_bell E a fn fd it th ln sz t S tI rI pF pI se sn be so lo he n1 n2 n3 R K G iF iR iK iG iu ig kp h x uI cF cI cg fi sr s hR hK hG hl hak.1 hak.2.1, ?_⟩
  rintro v w ⟨vv9, G9, be9, lo9, n19, n29, n39, y9, rfl, rfl, hx⟩
  refine ⟨_, rfl, rfl, _, c_m_bell E a2 v1 fd ((nI S)) fn v2 v3 v4 v5 v6 v7 v8 v9 v10 v11 ((nI n)) la mn im ho f1_ wa tp g1 g2 g3 g4 g5 g6 ik ke tc R K G se sn be so lo he hR hK hG hl hso hrh kp h x hak.1 hak.2.1 hA, ?_⟩
  rintro v' w' ⟨ho2, wa2, h2, v2, wh2, go2, se2, no2, al2, be2, gn2, gi2, gm2, rfl, rfl, hm⟩
  obtain ⟨rfl, rfl, hrh2, hA2⟩ := hm _ _ _ _ _ hx
  have hn : HOK R K G9 sn so lo9 ∧ AOK y9 R K := by
    unfold NxBell at hx
    by_cases e1 : R = 0
    · rw [ifP_t e1] at hx; obtain ⟨-, rfl, rfl, rfl, rfl⟩ := hx; exact ⟨hok, hak⟩
    · rw [ifP_f e1] at hx
      by_cases e2 : 9999 ≤ G
      · rw [ifP_t e2] at hx; obtain ⟨-, rfl, rfl, rfl, rfl⟩ := hx; exact ⟨hok, hak⟩
      · rw [ifP_f e2] at hx; obtain ⟨hB, rfl⟩ := hx; exact ⟨hok.bell (by omega) hB, hak.keep hok⟩
  exact ⟨rfl, JJ.mk ⟨hrr, ⟨hS, htp, hby⟩, ⟨hq2, hqb⟩, ⟨hrh2, hn.1⟩, ⟨hA2, hn.2⟩, ⟨him, him2, hi3⟩, hcg, hrt⟩⟩
theorem j_bells {E : EG} {a a2 : Nat → Nat} {w1 w2 : va_W} (hJ : JJ E a a2 w1 w2) (r0 : Int32) (i0 : Int32) (n0 : Int32) : PAIR E a a2 mX7_bells mX8_bells (5, 0, 0) (6, 0, 0) [.int r0, .int i0, .int n0] w1 w2 := by
  refine hJ.elim (P := fun w1 w2 => PAIR E a a2 mX7_bells mX8_bells (5, 0, 0) (6, 0, 0) [.int r0, .int i0, .int n0] w1 w2) ?_
  intro fn fd it th ln sz t S tI rI pF pI se sn be so lo he n1 n2 n3 R K G iF iR iK iG iu ig kp h x uI cF cI cg fi sr s v1 f1_ v2 v3 v4 v5 v6 v7 v8 g1 g2 g3 g4 g5 g6 v9 v10 v11 la mn im ho wa tp ik ke tc n hrel
  obtain ⟨hrr, ⟨hS, htp, hby⟩, ⟨hq2, hqb⟩, ⟨hrh, hok⟩, ⟨hA, hak⟩, ⟨him, him2, hi3⟩, hcg, hrt⟩ := hrel
  obtain ⟨hR, hK, hG, hl, hso, hsy⟩ := id hok
  refine ⟨_, c_x_bells E a fn fd it th ln sz t S tI rI pF pI se sn be so lo he n1 n2 n3 R K G iF iR iK iG iu ig kp h x uI cF cI cg fi sr s r0 i0 n0 hrr.ri hR hK hG hl hak.1 hak.2.1, ?_⟩
  rintro v w ⟨vv9, fd9, G9, be9, lo9, he9, y9, n19, n29, n39, rfl, rfl, hx⟩
  refine ⟨_, rfl, rfl, _, c_m_bells E a2 v1 fd ((nI S)) fn v2 v3 v4 v5 v6 v7 v8 v9 v10 v11 ((nI n)) la mn im ho f1_ wa tp g1 g2 g3 g4 g5 g6 ik ke tc R K G se sn be so lo he hR hK hG hl hso hrh kp h x hak.1 hak.2.1 hA it th ln sz hrr r0 i0 n0 vv9 fd9 (G9, be9, lo9, he9, y9) hx, ?_⟩
  rintro v' w' ⟨ho2, wa2, wh2, go2, se2, no2, al2, be2, gn2, gi2, gm2, rfl, rfl, hrh2, hA2⟩
  have hn : HOK R K G9 sn so lo9 ∧ AOK y9 R K := by
    unfold NxBells at hx
    by_cases e1 : R = 0
    · rw [ifP_t e1] at hx; obtain ⟨-, -, hz⟩ := hx; cases hz; exact ⟨hok, hak⟩
    rw [ifP_f e1] at hx
    by_cases e2 : 0 ≤ r0.toInt ∧ r0.toInt < 8 ∧ 1 ≤ n0.toInt ∧ n0.toInt ≤ 24
    · rw [ifP_t e2] at hx
      by_cases e3 : th (iN r0) = nI 0
      · rw [ifP_t e3] at hx; obtain ⟨-, -, hz⟩ := hx; cases hz; exact ⟨hok, hak⟩
      rw [ifP_f e3] at hx
      by_cases e4 : 0 ≤ i0.toInt ∧ i0.toInt + n0.toInt ≤ (sz (iN r0)).toInt
      · rw [ifP_t e4] at hx
        by_cases e5 : ∀ j, j < iN n0 → ¬ it (iN r0) (iN i0 + j) < 0 ∧ it (iN r0) (iN i0 + j) < nI 1 <<< (nI K &&& 31)
        · rw [ifP_t e5] at hx
          by_cases e6 : fullP K G he (it (iN r0)) (iN i0) (iN n0)
          · rw [ifP_t e6] at hx; obtain ⟨-, -, hz⟩ := hx; cases hz; exact ⟨hok, hak⟩
          rw [ifP_f e6] at hx
          obtain ⟨-, -, hB⟩ := hx
          obtain ⟨zs, hz0, hzn, hst⟩ := BellsS.chain (iN n0) _ hB
          have hfull : ¬ 9999 < G + iN n0 := fun e => e6 (Or.inl e)
          have g := STP.ok hst (by rw [hz0]; exact hok) (by rw [hz0]; exact hak) (by rw [hz0]; show G + iN n0 ≤ 9999; omega) (iN n0) (Nat.le_refl _)
          rw [hzn] at g
          exact ⟨g.2.1, g.2.2⟩
        · rw [ifP_f e5] at hx; obtain ⟨-, -, hz⟩ := hx; cases hz; exact ⟨hok, hak⟩
      · rw [ifP_f e4] at hx; obtain ⟨-, -, hz⟩ := hx; cases hz; exact ⟨hok, hak⟩
    · rw [ifP_f e2] at hx; obtain ⟨-, -, hz⟩ := hx; cases hz; exact ⟨hok, hak⟩
  exact ⟨rfl, JJ.mk ⟨hrr, ⟨hS, htp, hby⟩, ⟨hq2, hqb⟩, ⟨hrh2, hn.1⟩, ⟨hA2, hn.2⟩, ⟨him, him2, hi3⟩, hcg, hrt⟩⟩
theorem j_door {E : EG} {a a2 : Nat → Nat} {w1 w2 : va_W} (hJ : JJ E a a2 w1 w2) (r0 : Int32) (u0 : Int32) (z0 : Int32) : PAIR E a a2 mX7_door mX8_door (4, 0, 0) (5, 0, 0) [.int r0, .int u0, .int z0] w1 w2 := by
  refine hJ.elim (P := fun w1 w2 => PAIR E a a2 mX7_door mX8_door (4, 0, 0) (5, 0, 0) [.int r0, .int u0, .int z0] w1 w2) ?_
  intro fn fd it th ln sz t S tI rI pF pI se sn be so lo he n1 n2 n3 R K G iF iR iK iG iu ig kp h x uI cF cI cg fi sr s v1 f1_ v2 v3 v4 v5 v6 v7 v8 g1 g2 g3 g4 g5 g6 v9 v10 v11 la mn im ho wa tp ik ke tc n hrel
  obtain ⟨hrr, ⟨hS, htp, hby⟩, ⟨hq2, hqb⟩, ⟨hrh, hok⟩, ⟨hA, hak⟩, ⟨him, him2, hi3⟩, hcg, hrt⟩ := hrel
  obtain ⟨hR, hK, hG, hl, hso, hsy⟩ := id hok
  refine ⟨_, c_x_door E a fn fd it th ln sz t S tI rI pF pI se sn be so lo he n1 n2 n3 R K G iF iR iK iG iu ig kp h x uI cF cI cg fi sr s r0 u0 z0 hR hak.1 hak.2.1, ?_⟩
  rintro v w ⟨vv9, sn9, y9, rfl, rfl, hx⟩
  refine ⟨_, rfl, rfl, _, c_m_door E a2 v1 fd ((nI S)) fn v2 v3 v4 v5 v6 v7 v8 v9 v10 v11 ((nI n)) la mn im ho f1_ wa tp g1 g2 g3 g4 g5 g6 ik ke tc R K G se sn be so lo he hR hK hG hl hso hrh r0 u0 z0 kp h x hak.1 hak.2.1 hA, ?_⟩
  rintro v' w' ⟨ho2, wa2, h2, v2, rfl, rfl, hm⟩
  obtain ⟨rfl, rfl, hrh2, hA2⟩ := hm _ _ _ hx
  have hn : HOK R K G sn9 so lo ∧ AOK y9 R K := by
    unfold NxDoor at hx
    by_cases e1 : 0 ≤ r0.toInt ∧ r0.toInt < R ∧ 0 ≤ u0.toInt ∧ u0.toInt < R ∧ r0.toInt ≠ u0.toInt ∧ 0 ≤ z0.toInt ∧ z0.toInt ≤ 1
    · rw [ifP_t e1] at hx
      obtain ⟨-, rfl, rfl⟩ := hx
      obtain ⟨r, hr, rfl⟩ := tI_of (x := r0) (n := R) (by omega) (by omega)
      obtain ⟨u, hu, rfl⟩ := tI_of (x := u0) (n := R) (by omega) (by omega)
      obtain ⟨z, hz, rfl⟩ := tI_of (x := z0) (n := 2) (by omega) (by omega)
      rw [tI_n (by omega), tI_n (by omega), tI_n (by omega)] at e1
      rw [iN_n (by omega), iN_n (by omega)]
      exact ⟨⟨hR, hK, hG, hl, hso, hsy.dr hR hr hu (by omega) (by omega)⟩, hak.keep hok⟩
    · rw [ifP_f e1] at hx; obtain ⟨-, rfl, rfl⟩ := hx; exact ⟨hok, hak⟩
  exact ⟨rfl, JJ.mk ⟨hrr, ⟨hS, htp, hby⟩, ⟨hq2, hqb⟩, ⟨hrh2, hn.1⟩, ⟨hA2, hn.2⟩, ⟨him, him2, hi3⟩, hcg, hrt⟩⟩
theorem j_heads {E : EG} {a a2 : Nat → Nat} {w1 w2 : va_W} (hJ : JJ E a a2 w1 w2) (c0 : Int32) (n0 : Int32) : PAIR E a a2 mX7_heads mX8_heads (4, 0, 0) (5, 0, 0) [.int c0, .int n0] w1 w2 := by
  refine hJ.elim (P := fun w1 w2 => PAIR E a a2 mX7_heads mX8_heads (4, 0, 0) (5, 0, 0) [.int c0, .int n0] w1 w2) ?_
  intro fn fd it th ln sz t S tI rI pF pI se sn be so lo he n1 n2 n3 R K G iF iR iK iG iu ig kp h x uI cF cI cg fi sr s v1 f1_ v2 v3 v4 v5 v6 v7 v8 g1 g2 g3 g4 g5 g6 v9 v10 v11 la mn im ho wa tp ik ke tc n hrel
  obtain ⟨hrr, ⟨hS, htp, hby⟩, ⟨hq2, hqb⟩, ⟨hrh, hok⟩, ⟨hA, hak⟩, ⟨him, him2, hi3⟩, hcg, hrt⟩ := hrel
  obtain ⟨hR, hK, hG, hl, hso, hsy⟩ := id hok
  refine ⟨_, c_x_heads E a fn fd it th ln sz t S tI rI pF pI se sn be so lo he n1 n2 n3 R K G iF iR iK iG iu ig kp h x uI cF cI cg fi sr s c0 n0 hK hak.1 hak.2.1, ?_⟩
  rintro v w ⟨vv9, he9, y9, rfl, rfl, hx⟩
  refine ⟨_, rfl, rfl, _, c_m_heads E a2 v1 fd ((nI S)) fn v2 v3 v4 v5 v6 v7 v8 v9 v10 v11 ((nI n)) la mn im ho f1_ wa tp g1 g2 g3 g4 g5 g6 ik ke tc R K G se sn be so lo he hR hK hG hl hso hrh c0 n0 kp h x hak.1 hak.2.1 hA, ?_⟩
  rintro v' w' ⟨ho2, wa2, h2, v2, rfl, rfl, hm⟩
  obtain ⟨rfl, rfl, hrh2, hA2⟩ := hm _ _ _ hx
  have hn : AOK y9 R K := by
    unfold NxHeads at hx
    by_cases e1 : 0 ≤ c0.toInt ∧ c0.toInt < K ∧ 1 ≤ n0.toInt ∧ n0.toInt ≤ 99
    · rw [ifP_t e1] at hx; obtain ⟨-, -, rfl⟩ := hx; exact hak.keep hok
    · rw [ifP_f e1] at hx; obtain ⟨-, -, rfl⟩ := hx; exact hak
  exact ⟨rfl, JJ.mk ⟨hrr, ⟨hS, htp, hby⟩, ⟨hq2, hqb⟩, ⟨hrh2, hok⟩, ⟨hA2, hn⟩, ⟨him, him2, hi3⟩, hcg, hrt⟩⟩
theorem j_undo {E : EG} {a a2 : Nat → Nat} {w1 w2 : va_W} (hJ : JJ E a a2 w1 w2)  : PAIR E a a2 mX7_undo mX8_undo (4, 0, 0) (5, 0, 0) [] w1 w2 := by
  refine hJ.elim (P := fun w1 w2 => PAIR E a a2 mX7_undo mX8_undo (4, 0, 0) (5, 0, 0) [] w1 w2) ?_
  intro fn fd it th ln sz t S tI rI pF pI se sn be so lo he n1 n2 n3 R K G iF iR iK iG iu ig kp h x uI cF cI cg fi sr s v1 f1_ v2 v3 v4 v5 v6 v7 v8 g1 g2 g3 g4 g5 g6 v9 v10 v11 la mn im ho wa tp ik ke tc n hrel
  obtain ⟨hrr, ⟨hS, htp, hby⟩, ⟨hq2, hqb⟩, ⟨hrh, hok⟩, ⟨hA, hak⟩, ⟨him, him2, hi3⟩, hcg, hrt⟩ := hrel
  obtain ⟨hR, hK, hG, hl, hso, hsy⟩ := id hok
  refine ⟨_, c_x_undo E a fn fd it th ln sz t S tI rI pF pI se sn be so lo he n1 n2 n3 R K G iF iR iK iG iu ig kp h x uI cF cI cg fi sr s hak.1 hak.2.1 (fun h0 => (hak.last h0).1.2.2), ?_⟩
  rintro v w ⟨vv9, sn9, be9, lo9, he9, G9, y9, rfl, rfl, hx⟩
  refine ⟨_, rfl, rfl, _, c_m_undo E a2 v1 fd ((nI S)) fn v2 v3 v4 v5 v6 v7 v8 v9 v10 v11 ((nI n)) la mn im ho f1_ wa tp g1 g2 g3 g4 g5 g6 ik ke tc R K G se sn be so lo he hR hK hG hl hso hrh kp h x hak.1 hak.2.1 hA, ?_⟩
  rintro v' w' ⟨ho2, wa2, h2, v2, rfl, rfl, hm⟩
  obtain ⟨rfl, rfl, hrh2, hA2⟩ := hm _ _ _ _ _ _ _ hx
  have hn : HOK R K G9 sn9 so lo9 ∧ AOK y9 R K := by
    unfold NxUndo at hx
    by_cases e1 : h = 0
    · replace hx := (ifP_t e1).mp hx; obtain ⟨-, rfl, rfl, rfl, rfl, rfl, rfl⟩ := hx; exact ⟨hok, hak⟩
    · replace hx := (ifP_f e1).mp hx
      obtain ⟨-, rfl, b1, b2, b3, b4, b5, b6⟩ := hx
      obtain ⟨⟨s1, s2, s3⟩, hk2⟩ := hak.last (by omega)
      refine ⟨⟨hR, hK, b5, fun c hc => ?_, hso, s1.ag b1⟩, hk2⟩
      unfold lN_
      rw [b3 c (by omega)]; exact s2 c hc
  exact ⟨rfl, JJ.mk ⟨hrr, ⟨hS, htp, hby⟩, ⟨hq2, hqb⟩, ⟨hrh2, hn.1⟩, ⟨hA2, hn.2⟩, ⟨him, him2, hi3⟩, hcg, hrt⟩⟩
theorem j_crowd {E : EG} {a a2 : Nat → Nat} {w1 w2 : va_W} (hJ : JJ E a a2 w1 w2) (c0 : Int32) (y0 : Int32) : PAIR E a a2 mX7_crowd mX8_crowd (2, 0, 0) (5, 0, 0) [.int c0, .int y0] w1 w2 := by
  refine hJ.elim (P := fun w1 w2 => PAIR E a a2 mX7_crowd mX8_crowd (2, 0, 0) (5, 0, 0) [.int c0, .int y0] w1 w2) ?_
  intro fn fd it th ln sz t S tI rI pF pI se sn be so lo he n1 n2 n3 R K G iF iR iK iG iu ig kp h x uI cF cI cg fi sr s v1 f1_ v2 v3 v4 v5 v6 v7 v8 g1 g2 g3 g4 g5 g6 v9 v10 v11 la mn im ho wa tp ik ke tc n hrel
  obtain ⟨hrr, ⟨hS, htp, hby⟩, ⟨hq2, hqb⟩, ⟨hrh, hok⟩, ⟨hA, hak⟩, ⟨him, him2, hi3⟩, hcg, hrt⟩ := hrel
  obtain ⟨hR, hK, hG, hl, hso, hsy⟩ := id hok
  refine ⟨_, c_x_crowd E a fn fd it th ln sz t S tI rI pF pI se sn be so lo he n1 n2 n3 R K G iF iR iK iG iu ig kp h x uI cF cI cg fi sr s c0 y0 hK, ?_⟩
  rintro v w ⟨rfl, rfl⟩
  refine ⟨_, rfl, rfl, _, c_m_crowd E a2 v1 fd ((nI h)) ((nI S)) fn v2 v3 v4 v5 v6 v7 v8 v9 v10 v11 ((nI n)) la mn im ho f1_ wa tp g1 g2 g3 g4 g5 g6 ik ke tc R K G se sn be so lo he hR hK hG hl hso hrh c0 y0, ?_⟩
  rintro v' w' ⟨wh', go', se', no', al', be', gn', gi', gm', rfl, rfl⟩
  exact ⟨rfl, JJ.mk ⟨hrr, ⟨hS, htp, hby⟩, ⟨hq2, hqb⟩, ⟨hrh, hok⟩, ⟨hA, hak⟩, ⟨him, him2, hi3⟩, hcg, hrt⟩⟩
theorem j_room {E : EG} {a a2 : Nat → Nat} {w1 w2 : va_W} (hJ : JJ E a a2 w1 w2) (r0 : Int32) (y0 : Int32) : PAIR E a a2 mX7_room mX8_room (2, 0, 0) (5, 0, 0) [.int r0, .int y0] w1 w2 := by
  refine hJ.elim (P := fun w1 w2 => PAIR E a a2 mX7_room mX8_room (2, 0, 0) (5, 0, 0) [.int r0, .int y0] w1 w2) ?_
  intro fn fd it th ln sz t S tI rI pF pI se sn be so lo he n1 n2 n3 R K G iF iR iK iG iu ig kp h x uI cF cI cg fi sr s v1 f1_ v2 v3 v4 v5 v6 v7 v8 g1 g2 g3 g4 g5 g6 v9 v10 v11 la mn im ho wa tp ik ke tc n hrel
  obtain ⟨hrr, ⟨hS, htp, hby⟩, ⟨hq2, hqb⟩, ⟨hrh, hok⟩, ⟨hA, hak⟩, ⟨him, him2, hi3⟩, hcg, hrt⟩ := hrel
  obtain ⟨hR, hK, hG, hl, hso, hsy⟩ := id hok
  refine ⟨_, c_x_room E a fn fd it th ln sz t S tI rI pF pI se sn be so lo he n1 n2 n3 R K G iF iR iK iG iu ig kp h x uI cF cI cg fi sr s r0 y0 hR hK, ?_⟩
  rintro v w ⟨rfl, rfl⟩
  refine ⟨_, rfl, rfl, _, c_m_room E a2 v1 fd ((nI h)) ((nI S)) fn v2 v3 v4 v5 v6 v7 v8 v9 v10 v11 ((nI n)) la mn im ho f1_ wa tp g1 g2 g3 g4 g5 g6 ik ke tc R K G se sn be so lo he hR hK hG hl hso hrh r0 y0, ?_⟩
  rintro v' w' ⟨wh', go', se', no', al', be', gn', gi', gm', rfl, rfl⟩
  exact ⟨rfl, JJ.mk ⟨hrr, ⟨hS, htp, hby⟩, ⟨hq2, hqb⟩, ⟨hrh, hok⟩, ⟨hA, hak⟩, ⟨him, him2, hi3⟩, hcg, hrt⟩⟩
theorem j_ahead {E : EG} {a a2 : Nat → Nat} {w1 w2 : va_W} (hJ : JJ E a a2 w1 w2) (c0 : Int32) (n0 : Int32) : PAIR E a a2 mX7_ahead mX8_ahead (8, 0, 0) (5, 0, 0) [.int c0, .int n0] w1 w2 := by
  refine hJ.elim (P := fun w1 w2 => PAIR E a a2 mX7_ahead mX8_ahead (8, 0, 0) (5, 0, 0) [.int c0, .int n0] w1 w2) ?_
  intro fn fd it th ln sz t S tI rI pF pI se sn be so lo he n1 n2 n3 R K G iF iR iK iG iu ig kp h x uI cF cI cg fi sr s v1 f1_ v2 v3 v4 v5 v6 v7 v8 g1 g2 g3 g4 g5 g6 v9 v10 v11 la mn im ho wa tp ik ke tc n hrel
  obtain ⟨hrr, ⟨hS, htp, hby⟩, ⟨hq2, hqb⟩, ⟨hrh, hok⟩, ⟨hA, hak⟩, ⟨him, him2, hi3⟩, hcg, hrt⟩ := hrel
  obtain ⟨hR, hK, hG, hl, hso, hsy⟩ := id hok
  refine ⟨_, c_x_ahead E a fn fd it th ln sz t S tI rI pF pI se sn be so lo he n1 n2 n3 R K G iF iR iK iG iu ig kp h x uI cF cI cg fi sr s c0 n0 hR hK hG hl hcg, ?_⟩
  rintro v w ⟨rfl, cF9, cI9, cg9, hcg9, rfl⟩
  refine ⟨_, rfl, rfl, _, c_m_ahead E a2 v1 fd ((nI h)) ((nI S)) fn v2 v3 v4 v5 v6 v7 v8 v9 v10 v11 ((nI n)) la mn im ho f1_ wa tp g1 g2 g3 g4 g5 g6 ik ke tc R K G se sn be so lo he hR hK hG hl hso hrh c0 n0 , ?_⟩
  rintro v' w' ⟨wh', go', se', no', al', be', gn', gi', gm', rfl, rfl⟩
  exact ⟨rfl, JJ.mk ⟨hrr, ⟨hS, htp, hby⟩, ⟨hq2, hqb⟩, ⟨hrh, hok⟩, ⟨hA, hak⟩, ⟨him, him2, hi3⟩, hcg9, hrt⟩⟩
theorem j_roomAhead {E : EG} {a a2 : Nat → Nat} {w1 w2 : va_W} (hJ : JJ E a a2 w1 w2) (r0 : Int32) (n0 : Int32) (y0 : Int32) : PAIR E a a2 mX7_roomAhead mX8_roomAhead (8, 0, 0) (5, 0, 0) [.int r0, .int n0, .int y0] w1 w2 := by
  refine hJ.elim (P := fun w1 w2 => PAIR E a a2 mX7_roomAhead mX8_roomAhead (8, 0, 0) (5, 0, 0) [.int r0, .int n0, .int y0] w1 w2) ?_
  intro fn fd it th ln sz t S tI rI pF pI se sn be so lo he n1 n2 n3 R K G iF iR iK iG iu ig kp h x uI cF cI cg fi sr s v1 f1_ v2 v3 v4 v5 v6 v7 v8 g1 g2 g3 g4 g5 g6 v9 v10 v11 la mn im ho wa tp ik ke tc n hrel
  obtain ⟨hrr, ⟨hS, htp, hby⟩, ⟨hq2, hqb⟩, ⟨hrh, hok⟩, ⟨hA, hak⟩, ⟨him, him2, hi3⟩, hcg, hrt⟩ := hrel
  obtain ⟨hR, hK, hG, hl, hso, hsy⟩ := id hok
  refine ⟨_, c_x_roomAhead E a fn fd it th ln sz t S tI rI pF pI se sn be so lo he n1 n2 n3 R K G iF iR iK iG iu ig kp h x uI cF cI cg fi sr s r0 n0 y0 hR hK hG hl hcg, ?_⟩
  rintro v w ⟨rfl, cF9, cI9, cg9, hcg9, rfl⟩
  refine ⟨_, rfl, rfl, _, c_m_roomAhead E a2 v1 fd ((nI h)) ((nI S)) fn v2 v3 v4 v5 v6 v7 v8 v9 v10 v11 ((nI n)) la mn im ho f1_ wa tp g1 g2 g3 g4 g5 g6 ik ke tc R K G se sn be so lo he hR hK hG hl hso hrh r0 n0 y0 , ?_⟩
  rintro v' w' ⟨wh', go', se', no', al', be', gn', gi', gm', rfl, rfl⟩
  exact ⟨rfl, JJ.mk ⟨hrr, ⟨hS, htp, hby⟩, ⟨hq2, hqb⟩, ⟨hrh, hok⟩, ⟨hA, hak⟩, ⟨him, him2, hi3⟩, hcg9, hrt⟩⟩
theorem j_rest {E : EG} {a a2 : Nat → Nat} {w1 w2 : va_W} (hJ : JJ E a a2 w1 w2) (y0 : Int32) : PAIR E a a2 mX7_rest mX8_rest (8, 0, 0) (6, 0, 0) [.int y0] w1 w2 := by
  refine hJ.elim (P := fun w1 w2 => PAIR E a a2 mX7_rest mX8_rest (8, 0, 0) (6, 0, 0) [.int y0] w1 w2) ?_
  intro fn fd it th ln sz t S tI rI pF pI se sn be so lo he n1 n2 n3 R K G iF iR iK iG iu ig kp h x uI cF cI cg fi sr s v1 f1_ v2 v3 v4 v5 v6 v7 v8 g1 g2 g3 g4 g5 g6 v9 v10 v11 la mn im ho wa tp ik ke tc n hrel
  obtain ⟨hrr, ⟨hS, htp, hby⟩, ⟨hq2, hqb⟩, ⟨hrh, hok⟩, ⟨hA, hak⟩, ⟨him, him2, hi3⟩, hcg, hrt⟩ := hrel
  obtain ⟨hR, hK, hG, hl, hso, hsy⟩ := id hok
  refine ⟨_, c_x_rest E a fn fd it th ln sz t S tI rI pF pI se sn be so lo he n1 n2 n3 R K G iF iR iK iG iu ig kp h x uI cF cI cg fi sr s y0 hR hK hG hl hcg, ?_⟩
  rintro v w ⟨rfl, cF9, cI9, cg9, hcg9, rfl⟩
  refine ⟨_, rfl, rfl, _, c_m_rest E a2 v1 fd ((nI h)) ((nI S)) fn v2 v3 v4 v5 v6 v7 v8 v9 v10 v11 ((nI n)) la mn im ho f1_ wa tp g1 g2 g3 g4 g5 g6 ik ke tc R K G se sn be so lo he hR hK hG hl hso hrh y0 , ?_⟩
  rintro v' w' ⟨wh', go', se', no', al', be', gn', gi', gm', rfl, rfl⟩
  exact ⟨rfl, JJ.mk ⟨hrr, ⟨hS, htp, hby⟩, ⟨hq2, hqb⟩, ⟨hrh, hok⟩, ⟨hA, hak⟩, ⟨him, him2, hi3⟩, hcg9, hrt⟩⟩
theorem j_hired {E : EG} {a a2 : Nat → Nat} {w1 w2 : va_W} (hJ : JJ E a a2 w1 w2) (r0 : Int32) (n0 : Int32) (y0 : Int32) : PAIR E a a2 mX7_hired mX8_hired (8, 0, 0) (7, 0, 0) [.int r0, .int n0, .int y0] w1 w2 := by
  refine hJ.elim (P := fun w1 w2 => PAIR E a a2 mX7_hired mX8_hired (8, 0, 0) (7, 0, 0) [.int r0, .int n0, .int y0] w1 w2) ?_
  intro fn fd it th ln sz t S tI rI pF pI se sn be so lo he n1 n2 n3 R K G iF iR iK iG iu ig kp h x uI cF cI cg fi sr s v1 f1_ v2 v3 v4 v5 v6 v7 v8 g1 g2 g3 g4 g5 g6 v9 v10 v11 la mn im ho wa tp ik ke tc n hrel
  obtain ⟨hrr, ⟨hS, htp, hby⟩, ⟨hq2, hqb⟩, ⟨hrh, hok⟩, ⟨hA, hak⟩, ⟨him, him2, hi3⟩, hcg, hrt⟩ := hrel
  obtain ⟨hR, hK, hG, hl, hso, hsy⟩ := id hok
  refine ⟨_, c_x_hired E a fn fd it th ln sz t S tI rI pF pI se sn be so lo he n1 n2 n3 R K G iF iR iK iG iu ig kp h x uI cF cI cg fi sr s r0 n0 y0 hR hK hG hl hcg, ?_⟩
  rintro v w ⟨rfl, cF9, uI9, cI9, cg9, hcg9, rfl⟩
  refine ⟨_, rfl, rfl, _, c_m_hired E a2 v1 fd ((nI h)) ((nI S)) fn v2 v3 v4 v5 v6 v7 v8 v9 v10 v11 ((nI n)) la mn im ho f1_ wa tp g1 g2 g3 g4 g5 g6 ik ke tc R K G se sn be so lo he hR hK hG hl hso hrh r0 n0 y0 , ?_⟩
  rintro v' w' ⟨wh', go', se', no', al', be', gn', gi', gm', rfl, rfl⟩
  exact ⟨rfl, JJ.mk ⟨hrr, ⟨hS, htp, hby⟩, ⟨hq2, hqb⟩, ⟨hrh, hok⟩, ⟨hA, hak⟩, ⟨him, him2, hi3⟩, hcg9, hrt⟩⟩
theorem j_empty {E : EG} {a a2 : Nat → Nat} {w1 w2 : va_W} (hJ : JJ E a a2 w1 w2) (r0 : Int32) (n0 : Int32) (y0 : Int32) : PAIR E a a2 mX7_empty mX8_empty (8, 0, 0) (7, 0, 0) [.int r0, .int n0, .int y0] w1 w2 := by
  refine hJ.elim (P := fun w1 w2 => PAIR E a a2 mX7_empty mX8_empty (8, 0, 0) (7, 0, 0) [.int r0, .int n0, .int y0] w1 w2) ?_
  intro fn fd it th ln sz t S tI rI pF pI se sn be so lo he n1 n2 n3 R K G iF iR iK iG iu ig kp h x uI cF cI cg fi sr s v1 f1_ v2 v3 v4 v5 v6 v7 v8 g1 g2 g3 g4 g5 g6 v9 v10 v11 la mn im ho wa tp ik ke tc n hrel
  obtain ⟨hrr, ⟨hS, htp, hby⟩, ⟨hq2, hqb⟩, ⟨hrh, hok⟩, ⟨hA, hak⟩, ⟨him, him2, hi3⟩, hcg, hrt⟩ := hrel
  obtain ⟨hR, hK, hG, hl, hso, hsy⟩ := id hok
  refine ⟨_, c_x_empty E a fn fd it th ln sz t S tI rI pF pI se sn be so lo he n1 n2 n3 R K G iF iR iK iG iu ig kp h x uI cF cI cg fi sr s r0 n0 y0 hR hK hG hl hcg, ?_⟩
  rintro v w ⟨rfl, cF9, uI9, cI9, cg9, hcg9, rfl⟩
  refine ⟨_, rfl, rfl, _, c_m_empty E a2 v1 fd ((nI h)) ((nI S)) fn v2 v3 v4 v5 v6 v7 v8 v9 v10 v11 ((nI n)) la mn im ho f1_ wa tp g1 g2 g3 g4 g5 g6 ik ke tc R K G se sn be so lo he hR hK hG hl hso hrh r0 n0 y0 , ?_⟩
  rintro v' w' ⟨wh', go', se', no', al', be', gn', gi', gm', rfl, rfl⟩
  exact ⟨rfl, JJ.mk ⟨hrr, ⟨hS, htp, hby⟩, ⟨hq2, hqb⟩, ⟨hrh, hok⟩, ⟨hA, hak⟩, ⟨him, him2, hi3⟩, hcg9, hrt⟩⟩
theorem j_apart {E : EG} {a a2 : Nat → Nat} {w1 w2 : va_W} (hJ : JJ E a a2 w1 w2) (c0 : Int32) (u0 : Int32) (n0 : Int32) : PAIR E a a2 mX7_apart mX8_apart (8, 0, 0) (6, 0, 0) [.int c0, .int u0, .int n0] w1 w2 := by
  refine hJ.elim (P := fun w1 w2 => PAIR E a a2 mX7_apart mX8_apart (8, 0, 0) (6, 0, 0) [.int c0, .int u0, .int n0] w1 w2) ?_
  intro fn fd it th ln sz t S tI rI pF pI se sn be so lo he n1 n2 n3 R K G iF iR iK iG iu ig kp h x uI cF cI cg fi sr s v1 f1_ v2 v3 v4 v5 v6 v7 v8 g1 g2 g3 g4 g5 g6 v9 v10 v11 la mn im ho wa tp ik ke tc n hrel
  obtain ⟨hrr, ⟨hS, htp, hby⟩, ⟨hq2, hqb⟩, ⟨hrh, hok⟩, ⟨hA, hak⟩, ⟨him, him2, hi3⟩, hcg, hrt⟩ := hrel
  obtain ⟨hR, hK, hG, hl, hso, hsy⟩ := id hok
  refine ⟨_, c_x_apart E a fn fd it th ln sz t S tI rI pF pI se sn be so lo he n1 n2 n3 R K G iF iR iK iG iu ig kp h x uI cF cI cg fi sr s c0 u0 n0 hR hK hG hl hcg, ?_⟩
  rintro v w ⟨rfl, cF9, cI9, cg9, hcg9, rfl⟩
  refine ⟨_, rfl, rfl, _, c_m_apart E a2 v1 fd ((nI h)) ((nI S)) fn v2 v3 v4 v5 v6 v7 v8 v9 v10 v11 ((nI n)) la mn im ho f1_ wa tp g1 g2 g3 g4 g5 g6 ik ke tc R K G se sn be so lo he hR hK hG hl hso hrh c0 u0 n0 hsy, ?_⟩
  rintro v' w' ⟨wh', go', se', no', al', be', gn', gi', gm', rfl, rfl⟩
  exact ⟨rfl, JJ.mk ⟨hrr, ⟨hS, htp, hby⟩, ⟨hq2, hqb⟩, ⟨hrh, hok⟩, ⟨hA, hak⟩, ⟨him, him2, hi3⟩, hcg9, hrt⟩⟩
theorem j_began {E : EG} {a a2 : Nat → Nat} {w1 w2 : va_W} (hJ : JJ E a a2 w1 w2) (c0 : Int32) (n0 : Int32) : PAIR E a a2 mX7_began mX8_began (8, 0, 0) (6, 0, 0) [.int c0, .int n0] w1 w2 := by
  refine hJ.elim (P := fun w1 w2 => PAIR E a a2 mX7_began mX8_began (8, 0, 0) (6, 0, 0) [.int c0, .int n0] w1 w2) ?_
  intro fn fd it th ln sz t S tI rI pF pI se sn be so lo he n1 n2 n3 R K G iF iR iK iG iu ig kp h x uI cF cI cg fi sr s v1 f1_ v2 v3 v4 v5 v6 v7 v8 g1 g2 g3 g4 g5 g6 v9 v10 v11 la mn im ho wa tp ik ke tc n hrel
  obtain ⟨hrr, ⟨hS, htp, hby⟩, ⟨hq2, hqb⟩, ⟨hrh, hok⟩, ⟨hA, hak⟩, ⟨him, him2, hi3⟩, hcg, hrt⟩ := hrel
  obtain ⟨hR, hK, hG, hl, hso, hsy⟩ := id hok
  refine ⟨_, c_x_began E a fn fd it th ln sz t S tI rI pF pI se sn be so lo he n1 n2 n3 R K G iF iR iK iG iu ig kp h x uI cF cI cg fi sr s c0 n0 hR hK hG hl hcg hsy, ?_⟩
  rintro v w ⟨rfl, cF9, uI9, cI9, fi9, sr9, cg9, hcg9, rfl⟩
  refine ⟨_, rfl, rfl, _, c_m_began E a2 v1 fd ((nI h)) ((nI S)) fn v2 v3 v4 v5 v6 v7 v8 v9 v10 v11 ((nI n)) la mn im ho f1_ wa tp g1 g2 g3 g4 g5 g6 ik ke tc R K G se sn be so lo he hR hK hG hl hso hrh c0 n0 , ?_⟩
  rintro v' w' ⟨wh', go', se', no', al', be', gn', gi', gm', rfl, rfl⟩
  exact ⟨rfl, JJ.mk ⟨hrr, ⟨hS, htp, hby⟩, ⟨hq2, hqb⟩, ⟨hrh, hok⟩, ⟨hA, hak⟩, ⟨him, him2, hi3⟩, hcg9, hrt⟩⟩
theorem j_image {E : EG} {a a2 : Nat → Nat} {w1 w2 : va_W} (hJ : JJ E a a2 w1 w2) (k0 : Int32) : PAIR E a a2 mX7_image mX8_image (12, 0, 0) (5, 0, 0) [.int k0] w1 w2 := by
  refine hJ.elim (P := fun w1 w2 => PAIR E a a2 mX7_image mX8_image (12, 0, 0) (5, 0, 0) [.int k0] w1 w2) ?_
  intro fn fd it th ln sz t S tI rI pF pI se sn be so lo he n1 n2 n3 R K G iF iR iK iG iu ig kp h x uI cF cI cg fi sr s v1 f1_ v2 v3 v4 v5 v6 v7 v8 g1 g2 g3 g4 g5 g6 v9 v10 v11 la mn im ho wa tp ik ke tc n hrel
  obtain ⟨hrr, ⟨hS, htp, hby⟩, ⟨hq2, hqb⟩, ⟨hrh, hok⟩, ⟨hA, hak⟩, ⟨him, him2, hi3⟩, hcg, hrt⟩ := hrel
  obtain ⟨hR, hK, hG, hl, hso, hsy⟩ := id hok
  refine ⟨_, c_x_image E a fn fd it th ln sz t S tI rI pF pI se sn be so lo he n1 n2 n3 R K G iF iR iK iG iu ig kp h x uI cF cI cg fi sr s k0 hR, ?_⟩
  rintro v w ⟨vv9, iF9, iR9, iK9, iG9, iu9, rfl, rfl, hx⟩
  refine ⟨_, rfl, rfl, _, c_m_image E a2 v1 fd ((nI h)) ((nI S)) fn v2 v3 v4 v5 v6 v7 v8 v9 v10 v11 ((nI n)) la mn im ho f1_ wa tp g1 g2 g3 g4 g5 g6 ik ke tc R K G se sn be so lo he hR hK hG hl hso hrh k0 iF iR iK iG him (fun i hi => ⟨(him2 i hi).1, (him2 i hi).2.1⟩), ?_⟩
  rintro v' w' ⟨ik2, ke2, v2, rfl, rfl, hm⟩
  obtain ⟨rfl, him3⟩ := hm _ _ hx
  have hn : (∀ i, i < 2 → HOK (iR9 i) (iK9 i) (iG9 i) (iF9 i 1) (iF9 i 3) (iF9 i 4)) ∧ ∀ i, iR9 i < 2 ^ 30 := by
    unfold NxImage at hx
    by_cases e1 : 0 ≤ k0.toInt ∧ k0.toInt < 2
    · rw [ifP_t e1] at hx
      by_cases e2 : R = 0
      · rw [ifP_t e2] at hx; obtain ⟨-, hy⟩ := hx; cases hy; exact ⟨him2, hi3⟩
      · rw [ifP_f e2] at hx
        obtain ⟨-, F, hy, c1, c2, c3, c4, c5, c6⟩ := hx
        cases hy
        refine ⟨fun i hi => ?_, fun i => ?_⟩
        · by_cases e : i = iN k0
          · rw [e, vu_s, vu_s, vu_s, vu_s]; exact hok.cong c2 c4 c5
          · rw [vu_n e, vu_n e, vu_n e, vu_n e]; exact him2 i hi
        · by_cases e : i = iN k0
          · rw [e, vu_s]; omega
          · rw [vu_n e]; exact hi3 i
    · rw [ifP_f e1] at hx; obtain ⟨-, hy⟩ := hx; cases hy; exact ⟨him2, hi3⟩
  exact ⟨rfl, JJ.mk ⟨hrr, ⟨hS, htp, hby⟩, ⟨hq2, hqb⟩, ⟨hrh, hok⟩, ⟨hA, hak⟩, ⟨him3, hn.1, hn.2⟩, hcg, hrt⟩⟩
theorem j_restore {E : EG} {a a2 : Nat → Nat} {w1 w2 : va_W} (hJ : JJ E a a2 w1 w2) (k0 : Int32) : PAIR E a a2 mX7_restore mX8_restore (12, 0, 0) (5, 0, 0) [.int k0] w1 w2 := by
  refine hJ.elim (P := fun w1 w2 => PAIR E a a2 mX7_restore mX8_restore (12, 0, 0) (5, 0, 0) [.int k0] w1 w2) ?_
  intro fn fd it th ln sz t S tI rI pF pI se sn be so lo he n1 n2 n3 R K G iF iR iK iG iu ig kp h x uI cF cI cg fi sr s v1 f1_ v2 v3 v4 v5 v6 v7 v8 g1 g2 g3 g4 g5 g6 v9 v10 v11 la mn im ho wa tp ik ke tc n hrel
  obtain ⟨hrr, ⟨hS, htp, hby⟩, ⟨hq2, hqb⟩, ⟨hrh, hok⟩, ⟨hA, hak⟩, ⟨him, him2, hi3⟩, hcg, hrt⟩ := hrel
  obtain ⟨hR, hK, hG, hl, hso, hsy⟩ := id hok
  refine ⟨_, c_x_restore E a fn fd it th ln sz t S tI rI pF pI se sn be so lo he n1 n2 n3 R K G iF iR iK iG iu ig kp h x uI cF cI cg fi sr s k0 hi3, ?_⟩
  rintro v w ⟨vv9, z9, y9, rfl, rfl, hx⟩
  refine ⟨_, rfl, rfl, _, c_m_restore E a2 v1 fd ((nI S)) fn v2 v3 v4 v5 v6 v7 v8 v9 v10 v11 ((nI n)) la mn im ho f1_ wa tp g1 g2 g3 g4 g5 g6 ik ke tc R K G se sn be so lo he hR hK hG hl hso hrh k0 iF iR iK iG him (fun i hi => ⟨(him2 i hi).1, (him2 i hi).2.1⟩) kp h x hA, ?_⟩
  rintro v' w' ⟨ho2, h2, v2, rfl, rfl, hm⟩
  obtain ⟨rfl, rfl, hrh2, hA2⟩ := hm _ _ _ hx
  have hn : HOK z9.1 z9.2.1 z9.2.2.1 z9.2.2.2.2.1 z9.2.2.2.2.2.2.1 z9.2.2.2.2.2.2.2.1 ∧ AOK y9 z9.1 z9.2.1 := by
    unfold NxRestore at hx
    by_cases e1 : 0 ≤ k0.toInt ∧ k0.toInt < 2
    · rw [ifP_t e1] at hx
      obtain ⟨k, hk, rfl⟩ := tI_of (x := k0) (n := 2) (by omega) (by omega)
      rw [iN_n (by omega)] at hx
      by_cases e2 : iR k = 0
      · replace hx := (ifP_t e2).mp hx; obtain ⟨-, rfl, rfl⟩ := hx; exact ⟨hok, hak⟩
      · replace hx := (ifP_f e2).mp hx
        obtain ⟨-, rfl, d1, d2, d3, c1, c2, c3, c4, c5, c6⟩ := hx
        refine ⟨?_, AOK.none⟩
        rw [d1, d2, d3]
        exact (him2 k hk).cong c2 c4 c5
    · rw [ifP_f e1] at hx; obtain ⟨-, rfl, rfl⟩ := hx; exact ⟨hok, hak⟩
  exact ⟨rfl, JJ.mk ⟨hrr, ⟨hS, htp, hby⟩, ⟨hq2, hqb⟩, ⟨hrh2, hn.1⟩, ⟨hA2, hn.2⟩, ⟨him, him2, hi3⟩, hcg, hrt⟩⟩
theorem j_kind {E : EG} {a a2 : Nat → Nat} {w1 w2 : va_W} (hJ : JJ E a a2 w1 w2) (c0 : Int32) : PAIR E a a2 mX7_kind mX8_kind (2, 0, 0) (3, 0, 0) [.int c0] w1 w2 := by
  refine hJ.elim (P := fun w1 w2 => PAIR E a a2 mX7_kind mX8_kind (2, 0, 0) (3, 0, 0) [.int c0] w1 w2) ?_
  intro fn fd it th ln sz t S tI rI pF pI se sn be so lo he n1 n2 n3 R K G iF iR iK iG iu ig kp h x uI cF cI cg fi sr s v1 f1_ v2 v3 v4 v5 v6 v7 v8 g1 g2 g3 g4 g5 g6 v9 v10 v11 la mn im ho wa tp ik ke tc n hrel
  obtain ⟨hrr, ⟨hS, htp, hby⟩, ⟨hq2, hqb⟩, ⟨hrh, hok⟩, ⟨hA, hak⟩, ⟨him, him2, hi3⟩, hcg, hrt⟩ := hrel
  obtain ⟨hR, hK, hG, hl, hso, hsy⟩ := id hok
  refine ⟨_, c_x_kind E a fn fd it th ln sz t S tI rI pF pI se sn be so lo he n1 n2 n3 R K G iF iR iK iG iu ig kp h x uI cF cI cg fi sr s c0 hK, ?_⟩
  rintro v w ⟨rfl, rfl⟩
  refine ⟨_, rfl, rfl, _, c_m_kind E a2 v1 fd ((nI h)) ((nI S)) fn v2 v3 v4 v5 v6 v7 v8 v9 v10 v11 ((nI n)) la mn im ho f1_ wa tp g1 g2 g3 g4 g5 g6 ik ke tc R K G se sn be so lo he hR hK hG hl hso hrh c0, ?_⟩
  rintro v' w' ⟨rfl, rfl⟩
  exact ⟨rfl, JJ.mk ⟨hrr, ⟨hS, htp, hby⟩, ⟨hq2, hqb⟩, ⟨hrh, hok⟩, ⟨hA, hak⟩, ⟨him, him2, hi3⟩, hcg, hrt⟩⟩
theorem j_as {E : EG} {a a2 : Nat → Nat} {w1 w2 : va_W} (hJ : JJ E a a2 w1 w2) (c0 : Int32) (k0 : Int32) : PAIR E a a2 mX7_as mX8_as (12, 0, 0) (3, 0, 0) [.int c0, .int k0] w1 w2 := by
  refine hJ.elim (P := fun w1 w2 => PAIR E a a2 mX7_as mX8_as (12, 0, 0) (3, 0, 0) [.int c0, .int k0] w1 w2) ?_
  intro fn fd it th ln sz t S tI rI pF pI se sn be so lo he n1 n2 n3 R K G iF iR iK iG iu ig kp h x uI cF cI cg fi sr s v1 f1_ v2 v3 v4 v5 v6 v7 v8 g1 g2 g3 g4 g5 g6 v9 v10 v11 la mn im ho wa tp ik ke tc n hrel
  obtain ⟨hrr, ⟨hS, htp, hby⟩, ⟨hq2, hqb⟩, ⟨hrh, hok⟩, ⟨hA, hak⟩, ⟨him, him2, hi3⟩, hcg, hrt⟩ := hrel
  obtain ⟨hR, hK, hG, hl, hso, hsy⟩ := id hok
  refine ⟨_, c_x_as E a fn fd it th ln sz t S tI rI pF pI se sn be so lo he n1 n2 n3 R K G iF iR iK iG iu ig kp h x uI cF cI cg fi sr s c0 k0 hK hso, ?_⟩
  rintro v w ⟨vv9, fd9, rfl, rfl, hx⟩
  refine ⟨_, rfl, rfl, _, c_m_as E a2 v1 fd ((nI h)) ((nI S)) fn v2 v3 v4 v5 v6 v7 v8 v9 v10 v11 ((nI n)) la mn im ho f1_ wa tp g1 g2 g3 g4 g5 g6 ik ke tc R K G se sn be so lo he hR hK hG hl hso hrh c0 k0, ?_⟩
  rintro v' w' ⟨st2, v2, rfl, rfl, hm⟩
  obtain ⟨rfl, rfl⟩ := hm _ _ hx
  exact ⟨rfl, JJ.mk ⟨hrr, ⟨hS, htp, hby⟩, ⟨hq2, hqb⟩, ⟨hrh, hok⟩, ⟨hA, hak⟩, ⟨him, him2, hi3⟩, hcg, hrt⟩⟩
theorem j_ask {E : EG} {a a2 : Nat → Nat} {w1 w2 : va_W} (hJ : JJ E a a2 w1 w2) (c0 : Int32) (y0 : Int32) : PAIR E a a2 mX7_ask mX8_ask (12, 0, 0) (6, 0, 0) [.int c0, .int y0] w1 w2 := by
  refine hJ.elim (P := fun w1 w2 => PAIR E a a2 mX7_ask mX8_ask (12, 0, 0) (6, 0, 0) [.int c0, .int y0] w1 w2) ?_
  intro fn fd it th ln sz t S tI rI pF pI se sn be so lo he n1 n2 n3 R K G iF iR iK iG iu ig kp h x uI cF cI cg fi sr s v1 f1_ v2 v3 v4 v5 v6 v7 v8 g1 g2 g3 g4 g5 g6 v9 v10 v11 la mn im ho wa tp ik ke tc n hrel
  obtain ⟨hrr, ⟨hS, htp, hby⟩, ⟨hq2, hqb⟩, ⟨hrh, hok⟩, ⟨hA, hak⟩, ⟨him, him2, hi3⟩, hcg, hrt⟩ := hrel
  obtain ⟨hR, hK, hG, hl, hso, hsy⟩ := id hok
  refine ⟨_, c_x_ask E a fn fd it th ln sz t S tI rI pF pI se sn be so lo he n1 n2 n3 R K G iF iR iK iG iu ig kp h x uI cF cI cg fi sr s c0 y0 hK hso, ?_⟩
  rintro v w ⟨vv9, s9, rfl, rfl, hx⟩
  refine ⟨_, rfl, rfl, _, c_m_ask E a2 v1 fd ((nI h)) ((nI S)) fn v2 v3 v4 v5 v6 v7 v8 v9 v10 v11 la mn im ho f1_ wa tp g1 g2 g3 g4 g5 g6 ik ke tc R K G se sn be so lo he hR hK hG hl hso hrh c0 y0 n s hrt, ?_⟩
  rintro v' w' ⟨tc2, n2, v2, rfl, rfl, hm⟩
  obtain ⟨rfl, hrt2⟩ := hm _ _ hx
  exact ⟨rfl, JJ.mk ⟨hrr, ⟨hS, htp, hby⟩, ⟨hq2, hqb⟩, ⟨hrh, hok⟩, ⟨hA, hak⟩, ⟨him, him2, hi3⟩, hcg, hrt2⟩⟩
theorem j_trace {E : EG} {a a2 : Nat → Nat} {w1 w2 : va_W} (hJ : JJ E a a2 w1 w2) (i0 : Int32) : PAIR E a a2 mX7_trace mX8_trace (1, 0, 0) (2, 0, 0) [.int i0] w1 w2 := by
  refine hJ.elim (P := fun w1 w2 => PAIR E a a2 mX7_trace mX8_trace (1, 0, 0) (2, 0, 0) [.int i0] w1 w2) ?_
  intro fn fd it th ln sz t S tI rI pF pI se sn be so lo he n1 n2 n3 R K G iF iR iK iG iu ig kp h x uI cF cI cg fi sr s v1 f1_ v2 v3 v4 v5 v6 v7 v8 g1 g2 g3 g4 g5 g6 v9 v10 v11 la mn im ho wa tp ik ke tc n hrel
  obtain ⟨hrr, ⟨hS, htp, hby⟩, ⟨hq2, hqb⟩, ⟨hrh, hok⟩, ⟨hA, hak⟩, ⟨him, him2, hi3⟩, hcg, hrt⟩ := hrel
  obtain ⟨hR, hK, hG, hl, hso, hsy⟩ := id hok
  refine ⟨_, c_x_trace E a fn fd it th ln sz t S tI rI pF pI se sn be so lo he n1 n2 n3 R K G iF iR iK iG iu ig kp h x uI cF cI cg fi sr s i0 hrt.2.1, ?_⟩
  rintro v w ⟨rfl, rfl⟩
  refine ⟨_, rfl, rfl, _, c_m_trace E a2 v1 fd ((nI h)) ((nI S)) fn v2 v3 v4 v5 v6 v7 v8 v9 v10 v11 la mn im ho f1_ wa tp g1 g2 g3 g4 g5 g6 ik ke tc i0 n (Nat.le_trans (Nat.le_of_eq hrt.1.symm) hrt.2.1) s hrt, ?_⟩
  rintro v' w' ⟨rfl, rfl⟩
  exact ⟨rfl, JJ.mk ⟨hrr, ⟨hS, htp, hby⟩, ⟨hq2, hqb⟩, ⟨hrh, hok⟩, ⟨hA, hak⟩, ⟨him, him2, hi3⟩, hcg, hrt⟩⟩
theorem j_count {E : EG} {a a2 : Nat → Nat} {w1 w2 : va_W} (hJ : JJ E a a2 w1 w2) (y0 : Int32) : PAIR E a a2 mX7_count mX8_count (12, 0, 0) (3, 0, 0) [.int y0] w1 w2 := by
  refine hJ.elim (P := fun w1 w2 => PAIR E a a2 mX7_count mX8_count (12, 0, 0) (3, 0, 0) [.int y0] w1 w2) ?_
  intro fn fd it th ln sz t S tI rI pF pI se sn be so lo he n1 n2 n3 R K G iF iR iK iG iu ig kp h x uI cF cI cg fi sr s v1 f1_ v2 v3 v4 v5 v6 v7 v8 g1 g2 g3 g4 g5 g6 v9 v10 v11 la mn im ho wa tp ik ke tc n hrel
  obtain ⟨hrr, ⟨hS, htp, hby⟩, ⟨hq2, hqb⟩, ⟨hrh, hok⟩, ⟨hA, hak⟩, ⟨him, him2, hi3⟩, hcg, hrt⟩ := hrel
  obtain ⟨hR, hK, hG, hl, hso, hsy⟩ := id hok
  refine ⟨_, c_x_count E a fn fd it th ln sz t S tI rI pF pI se sn be so lo he n1 n2 n3 R K G iF iR iK iG iu ig kp h x uI cF cI cg fi sr s y0 hK, ?_⟩
  rintro v w ⟨rfl, rfl⟩
  refine ⟨_, rfl, rfl, _, c_m_count E a2 v1 fd fn v2 v3 v4 v5 v6 v7 v8 v9 v10 v11 ((nI n)) la mn im ho f1_ wa tp g1 g2 g3 g4 g5 g6 ik ke tc R K G se sn be so lo he hR hK hG hl hso hrh y0 it th ln sz hrr h S, ?_⟩
  rintro v' w' ⟨rfl, rfl⟩
  exact ⟨rfl, JJ.mk ⟨hrr, ⟨hS, htp, hby⟩, ⟨hq2, hqb⟩, ⟨hrh, hok⟩, ⟨hA, hak⟩, ⟨him, him2, hi3⟩, hcg, hrt⟩⟩
