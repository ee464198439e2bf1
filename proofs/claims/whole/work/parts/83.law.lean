/-! the law: its loop, its start -/
set_option maxRecDepth 20000 in
set_option maxHeartbeats 4000000 in
theorem lw_loop {E : EG} {a a2 : Nat → Nat} {b L kc nc : Nat} {xs : Nat → Int32} {Z : ZX} (C : CX E mLw qLw Z) (hX : SX Z b L xs) (hL : L ≤ 3072) (hcl : kc ≤ 600000 ∧ nc ≤ 7302250) (hO : zO Z = fun v _ => v = some (.int 1)) (hn : zn Z = 0) : ∀ k, k ≤ L / 6 → ∀ w1 w2 : va_W, JJ E a a2 w1 w2 → V E mLw qLw Z kc nc (w1 ++ w2) [(0, .ref b), (1, .ref (a 0)), (2, .ref (a2 0)), (3, .int (nI (6 * k)))] [] 18 := by
  refine lp_up (L / 6) ?_
  intro k hk ih w1 w2 hJ
  refine mr_iload_n C 19 dL_law_18 rfl rfl ?_
  refine mr_aload_n C 20 dL_law_19 rfl rfl ?_
  refine mr_slen C hX 21 dL_law_20 rfl ?_
  refine mr_bipush C (nI 6) 23 dL_law_21 rfl rfl ?_
  refine mr_isub C _ 24 dL_law_23 rfl rfl ?_
  refine mr_icmpgt C 1097 27 dL_law_24 (by decide) rfl (fun c_24 => ?_) (fun c_24 => ?_)
  · refine mr_iconst C (nI 1) 1098 dL_law_1097 rfl rfl ?_
    refine mr_iret C dL_law_1098 rfl rfl hcl.1 hcl.2 (by rw [hn]; exact Nat.zero_le _) ?_
    rw [hO]; exact rfl
  · have hk6 : 6 * k + 6 ≤ L := by
      rw [Int32.lt_iff_toInt_lt, pk_sub_toInt (by omega) (by decide), tI_n (by omega)] at c_24
      omega
    have back : ∀ w1 w2 : va_W, JJ E a a2 w1 w2 → V E mLw qLw Z kc nc (w1 ++ w2) [(0, .ref b), (1, .ref (a 0)), (2, .ref (a2 0)), (3, .int (nI (6 * k)))] [] 1091 := by
      intro w1 w2 hJ
      refine mr_iinc C (nI (6 * (k + 1))) 1094 dL_law_1091 rfl rfl (by decide) (nI_add (6 * k) 6) ?_
      refine mr_goto C 18 dL_law_1094 (by decide) ?_
      exact mr_at (ih (by omega) w1 w2 hJ) rfl rfl rfl
    refine mr_aload_n C 28 dL_law_27 rfl rfl ?_
    refine mr_iload_n C 29 dL_law_28 rfl rfl ?_
    refine mr_sld C hX (6 * k) 30 dL_law_29 rfl rfl (by omega) (by omega) ?_
    refine mr_bipush C (nI 31) 32 dL_law_30 rfl rfl ?_
    refine mr_iand C _ 33 dL_law_32 rfl rfl ?_
    obtain ⟨j, hj, ej⟩ := and31 (xs (6 * k))
    rw [ej]
    have h32 : j = 0 ∨ j = 1 ∨ j = 2 ∨ j = 3 ∨ j = 4 ∨ j = 5 ∨ j = 6 ∨ j = 7 ∨ j = 8 ∨ j = 9 ∨ j = 10 ∨ j = 11 ∨ j = 12 ∨ j = 13 ∨ j = 14 ∨ j = 15 ∨ j = 16 ∨ j = 17 ∨ j = 18 ∨ j = 19 ∨ j = 20 ∨ j = 21 ∨ j = 22 ∨ j = 23 ∨ j = 24 ∨ j = 25 ∨ j = 26 ∨ j = 27 ∨ j = 28 ∨ j = 29 ∨ j = 30 ∨ j = 31 := by omega
    rcases h32 with rfl | rfl | rfl | rfl | rfl | rfl | rfl | rfl | rfl | rfl | rfl | rfl | rfl | rfl | rfl | rfl | rfl | rfl | rfl | rfl | rfl | rfl | rfl | rfl | rfl | rfl | rfl | rfl | rfl | rfl | rfl | rfl
    · refine mr_tabIn C 164 dL_law_33 (by decide) (by decide) rfl (by decide) ?_
      exact lc_row C hX hL hk6 hcl hJ back
    · refine mr_tabIn C 207 dL_law_33 (by decide) (by decide) rfl (by decide) ?_
      exact lc_set C hX hL hk6 hcl hJ back
    · refine mr_tabIn C 250 dL_law_33 (by decide) (by decide) rfl (by decide) ?_
      exact lc_copy C hX hL hk6 hcl hJ back
    · refine mr_tabIn C 313 dL_law_33 (by decide) (by decide) rfl (by decide) ?_
      exact lc_drop C hX hL hk6 hcl hJ back
    · refine mr_tabIn C 336 dL_law_33 (by decide) (by decide) rfl (by decide) ?_
      exact lc_feed C hX hL hk6 hcl hJ back
    · refine mr_tabIn C 399 dL_law_33 (by decide) (by decide) rfl (by decide) ?_
      exact lc_house C hX hL hk6 hcl hJ back
    · refine mr_tabIn C 412 dL_law_33 (by decide) (by decide) rfl (by decide) ?_
      exact lc_fault C hX hL hk6 hcl hJ back
    · refine mr_tabIn C 425 dL_law_33 (by decide) (by decide) rfl (by decide) ?_
      exact lc_bell C hX hL hk6 hcl hJ back
    · refine mr_tabIn C 438 dL_law_33 (by decide) (by decide) rfl (by decide) ?_
      exact lc_bells C hX hL hk6 hcl hJ back
    · refine mr_tabIn C 481 dL_law_33 (by decide) (by decide) rfl (by decide) ?_
      exact lc_door C hX hL hk6 hcl hJ back
    · refine mr_tabIn C 524 dL_law_33 (by decide) (by decide) rfl (by decide) ?_
      exact lc_heads C hX hL hk6 hcl hJ back
    · refine mr_tabIn C 557 dL_law_33 (by decide) (by decide) rfl (by decide) ?_
      exact lc_undo C hX hL hk6 hcl hJ back
    · refine mr_tabIn C 570 dL_law_33 (by decide) (by decide) rfl (by decide) ?_
      exact lc_crowd C hX hL hk6 hcl hJ back
    · refine mr_tabIn C 603 dL_law_33 (by decide) (by decide) rfl (by decide) ?_
      exact lc_room C hX hL hk6 hcl hJ back
    · refine mr_tabIn C 636 dL_law_33 (by decide) (by decide) rfl (by decide) ?_
      exact lc_ahead C hX hL hk6 hcl hJ back
    · refine mr_tabIn C 669 dL_law_33 (by decide) (by decide) rfl (by decide) ?_
      exact lc_roomAhead C hX hL hk6 hcl hJ back
    · refine mr_tabIn C 712 dL_law_33 (by decide) (by decide) rfl (by decide) ?_
      exact lc_rest C hX hL hk6 hcl hJ back
    · refine mr_tabIn C 735 dL_law_33 (by decide) (by decide) rfl (by decide) ?_
      exact lc_hired C hX hL hk6 hcl hJ back
    · refine mr_tabIn C 778 dL_law_33 (by decide) (by decide) rfl (by decide) ?_
      exact lc_empty C hX hL hk6 hcl hJ back
    · refine mr_tabIn C 821 dL_law_33 (by decide) (by decide) rfl (by decide) ?_
      exact lc_apart C hX hL hk6 hcl hJ back
    · refine mr_tabIn C 864 dL_law_33 (by decide) (by decide) rfl (by decide) ?_
      exact lc_began C hX hL hk6 hcl hJ back
    · refine mr_tabIn C 897 dL_law_33 (by decide) (by decide) rfl (by decide) ?_
      exact lc_image C hX hL hk6 hcl hJ back
    · refine mr_tabIn C 920 dL_law_33 (by decide) (by decide) rfl (by decide) ?_
      exact lc_restore C hX hL hk6 hcl hJ back
    · refine mr_tabIn C 943 dL_law_33 (by decide) (by decide) rfl (by decide) ?_
      exact lc_kind C hX hL hk6 hcl hJ back
    · refine mr_tabIn C 966 dL_law_33 (by decide) (by decide) rfl (by decide) ?_
      exact lc_as C hX hL hk6 hcl hJ back
    · refine mr_tabIn C 999 dL_law_33 (by decide) (by decide) rfl (by decide) ?_
      exact lc_ask C hX hL hk6 hcl hJ back
    · refine mr_tabIn C 1032 dL_law_33 (by decide) (by decide) rfl (by decide) ?_
      exact lc_trace C hX hL hk6 hcl hJ back
    · refine mr_tabIn C 1055 dL_law_33 (by decide) (by decide) rfl (by decide) ?_
      exact lc_count C hX hL hk6 hcl hJ back
    · refine mr_tabIn C 1078 dL_law_33 (by decide) (by decide) rfl (by decide) ?_
      exact lc_status C hX hL hk6 hcl hJ back
    · refine mr_tabOut C 1091 dL_law_33 (by decide) (by decide) ?_
      exact back w1 w2 hJ
    · refine mr_tabOut C 1091 dL_law_33 (by decide) (by decide) ?_
      exact back w1 w2 hJ
    · refine mr_tabOut C 1091 dL_law_33 (by decide) (by decide) ?_
      exact back w1 w2 hJ
theorem la_0 : ∀ r, r < 8 → (upd (upd (upd (upd (upd (upd (upd (upd (fun _ => 0) 0 (-1)) 1 (-1)) 2 (-1)) 3 (-1)) 4 (-1)) 5 (-1)) 6 (-1)) 7 (-1)) r = (-1 : Int32) := by
  intro r hr
  have h : r = 0 ∨ r = 1 ∨ r = 2 ∨ r = 3 ∨ r = 4 ∨ r = 5 ∨ r = 6 ∨ r = 7 := by omega
  rcases h with rfl | rfl | rfl | rfl | rfl | rfl | rfl | rfl <;> rfl
theorem HOK.zero : HOK 0 0 0 (fun _ => 0) (fun _ => 0) (fun _ => 0) := ⟨Nat.zero_le _, Nat.zero_le _, Nat.zero_le _, fun c h => absurd h (Nat.not_lt_zero c), fun c h => absurd h (Nat.not_lt_zero c), SY0 (fun _ _ => rfl)⟩
theorem JJ.start (E : EG) (a a2 : Nat → Nat) : JJ E a a2 (wX E a 0 0 (fun _ _ => 0) (fun _ => 0) (fun _ => 0) (fun _ => 0) (fun _ => 0) 0 (fun _ => 0) (fun _ => 0) (fun _ _ => 0) (fun _ => 0) (fun _ => 0) (fun _ => 0) (fun _ => 0) (fun _ => 0) (fun _ => 0) (fun _ => 0) (fun _ => 0) (fun _ => 0) (fun _ => 0) 0 0 0 (fun _ _ _ => 0) (fun _ => 0) (fun _ => 0) (fun _ => 0) (fun _ => 0) (fun _ => 0) (fun _ => 0) 0 0 (fun _ => 0) (fun _ _ => 0) (fun _ => 0) 0 (fun _ => 0) (fun _ => 0) (fun _ => 0, 0)) (wM E a2 0 0 ((upd (upd (upd (upd (upd (upd (upd (upd (fun _ => 0) 0 (-1)) 1 (-1)) 2 (-1)) 3 (-1)) 4 (-1)) 5 (-1)) 6 (-1)) 7 (-1))) ((fun _ => 0)) ((fun _ => 0)) ((fun _ => 0)) ((fun _ => 0)) ((fun _ => 0)) ((nI 0)) ((fun _ => 0)) ((nI 0)) 0 0 0 0 0 0 0 0 ((fun _ => 0)) ((fun _ => 0)) ((fun _ => 0)) ((fun _ => 0)) ((fun _ => 0)) ((fun _ => 0)) 0 0 0 ((fun _ => 0)) ((fun _ => 0)) ((fun _ => 0)) ((nI 0))) := by
  refine JJ.mk (n := 0) ⟨fun r hr => Or.inl ⟨rfl, la_0 r hr⟩, ⟨Nat.zero_le _, fun j h => absurd h (Nat.not_lt_zero j), fun j h => absurd h (Nat.not_lt_zero j)⟩, ⟨rfl, fun _ _ => rfl⟩, ⟨⟨rfl, rfl, rfl, fun r h => absurd h (Nat.not_lt_zero r), fun _ _ _ => rfl, fun c h => absurd h (Nat.not_lt_zero c)⟩, HOK.zero⟩, ⟨RA.none, AOK.none⟩, ⟨fun i _ => Or.inl ⟨rfl, rfl⟩, fun _ _ => HOK.zero, fun _ => (by show 0 < 2 ^ 30; decide)⟩, (by show 0 < 6; decide), ⟨rfl, Nat.zero_le _, fun j h => absurd h (Nat.not_lt_zero j)⟩⟩
set_option maxRecDepth 20000 in
set_option maxHeartbeats 4000000 in
theorem lw_body {E : EG} {b L : Nat} {xs : Nat → Int32} {Z : ZX} (C : CX E mLw qLw Z) (hX : SX Z b L xs) (hL : L ≤ 3072) (hO : zO Z = fun v _ => v = some (.int 1)) (hn : zn Z = 0) : V E mLw qLw Z 0 0 [] [(0, .ref b)] [] 0 := by
  refine mr_new C (ci := 7) [.null, .null, .null, .null, .null, .null, .null, .null, .int 0, .int 0] 3 dL_law_0 rfl rfl iw7 tyX7_ok cl_L_7 ins_7 ini_7 rfl ⟨Nat.le_of_ble_eq_true rfl, Nat.le_of_ble_eq_true rfl⟩ (fun x0 => ?_)
  refine mr_dup C 4 dL_law_3 rfl rfl ?_
  refine mr_callI C (c_MostRooms_init E x0) [0] 7 dL_law_4 rfl mk_X7_init rfl rfl mi_X7_init ml_L_9 rfl rfl rfl rfl (by decide) (Nat.le_of_ble_eq_true rfl) (Nat.le_of_ble_eq_true rfl) (Nat.le_of_ble_eq_true rfl) ⟨Nat.le_of_ble_eq_true rfl, Nat.le_of_ble_eq_true rfl⟩ (fun r w hp => ?_)
  obtain ⟨a, rfl, ha, rfl⟩ := hp
  subst ha
  refine mr_w (put_1 _ _ (fun h => by cases h)) ?_
  refine mr_astore_n C 8 dL_law_7 rfl rfl (by decide) ?_
  have hl1 : (wX E a 0 0 (fun _ _ => 0) (fun _ => 0) (fun _ => 0) (fun _ => 0) (fun _ => 0) 0 (fun _ => 0) (fun _ => 0) (fun _ _ => 0) (fun _ => 0) (fun _ => 0) (fun _ => 0) (fun _ => 0) (fun _ => 0) (fun _ => 0) (fun _ => 0) (fun _ => 0) (fun _ => 0) (fun _ => 0) 0 0 0 (fun _ _ _ => 0) (fun _ => 0) (fun _ => 0) (fun _ => 0) (fun _ => 0) (fun _ => 0) (fun _ => 0) 0 0 (fun _ => 0) (fun _ _ => 0) (fun _ => 0) 0 (fun _ => 0) (fun _ => 0) (fun _ => 0, 0)).length = 79 := rfl
  generalize hW1 : wX E a 0 0 (fun _ _ => 0) (fun _ => 0) (fun _ => 0) (fun _ => 0) (fun _ => 0) 0 (fun _ => 0) (fun _ => 0) (fun _ _ => 0) (fun _ => 0) (fun _ => 0) (fun _ => 0) (fun _ => 0) (fun _ => 0) (fun _ => 0) (fun _ => 0) (fun _ => 0) (fun _ => 0) (fun _ => 0) 0 0 0 (fun _ _ _ => 0) (fun _ => 0) (fun _ => 0) (fun _ => 0) (fun _ => 0) (fun _ => 0) (fun _ => 0) 0 0 (fun _ => 0) (fun _ _ => 0) (fun _ => 0) 0 (fun _ => 0) (fun _ => 0) (fun _ => 0, 0) = W1 at hl1 ⊢
  refine mr_new C (ci := 8) [.int 0, .int 0, .null, .null, .null, .null, .null, .null, .int 0, .null, .int 0, .int 0, .int 0, .int 0, .int 0, .int 0, .int 0, .int 0, .int 0, .null, .null, .null, .null, .null, .null, .int 0, .int 0, .int 0, .null, .null, .null, .int 0] 11 dL_law_8 rfl rfl iw8 tyX8_ok cl_L_10 ins_8 ini_8 rfl ⟨Nat.le_of_ble_eq_true rfl, Nat.le_of_ble_eq_true rfl⟩ (fun x1 => ?_)
  refine mr_dup C 12 dL_law_11 rfl rfl ?_
  refine mr_callI C (c_Model_init E x1) [79] 15 dL_law_12 rfl mk_X8_init rfl rfl mi_X8_init ml_L_12 rfl rfl rfl (cut_1 hl1) (by decide) (Nat.le_of_ble_eq_true rfl) (Nat.le_of_ble_eq_true rfl) (Nat.le_of_ble_eq_true rfl) ⟨Nat.le_of_ble_eq_true rfl, Nat.le_of_ble_eq_true rfl⟩ (fun r w hp => ?_)
  obtain ⟨a2, rfl, ha2, rfl⟩ := hp
  subst ha2
  refine mr_w (put_2 hl1 _ (fun h => by cases h)) ?_
  subst hW1
  refine mr_astore_n C 16 dL_law_15 rfl rfl (by decide) ?_
  refine mr_iconst C (nI 0) 17 dL_law_16 rfl rfl ?_
  refine mr_istore_n C 18 dL_law_17 rfl rfl (by decide) ?_
  exact mr_at (lw_loop C hX hL ⟨Nat.le_of_ble_eq_true rfl, Nat.le_of_ble_eq_true rfl⟩ hO hn 0 (Nat.zero_le _) _ _ (JJ.start E a a2)) rfl rfl rfl
theorem whole_start {p : Program} {e : Env} {s : State} {m : MethodId} {below : List Frame} {meth : Method} {c : Code} (l : Launch) (hflags : l.flags = flags0) {b L : Nat} {xs : Nat → Int32} (hL : L ≤ 3072) (C0 : lw_At p s m meth c b L xs) : W p l e room_1 s m #[Value.ref b] below meth c s.heap [] 0 0 (lw_Z below #[Value.ref b] s) (entryFrame m ([Value.ref b] : List Value).toArray 4) := by
  obtain ⟨hx, hb, hr, hml, hown, hts, hX, hbl, hlocks, hgv⟩ := C0
  obtain ⟨D, ad, hG⟩ := lw_env l hts hgv
  have C : CX (D, ad, l) mLw qLw (fun v _ => v = some (.int 1), 0, p, e, s, m, #[Value.ref b], below, meth, c, fun q => s.heap.size ≤ q) := ⟨hx, hb, hml, hr, hown, fun w hw => hts w (gw_tbl hw), hlocks, fun q h => h, hG, fun h => absurd h (by decide)⟩
  have K := lw_body C ⟨hX, hbl, Nat.not_le.mpr hbl⟩ hL rfl rfl s.heap [] _ (fun k q h => absurd h (by simp)) ⟨fun i j p q h => absurd h (by simp), fun k q h => absurd h (by simp)⟩ va_S.rf (lv_entry ([Value.ref b]) (n := 4) (Nat.le_of_ble_eq_true rfl))
  rw [lg_entry_eq]
  exact lw_more (Nat.le_of_ble_eq_true rfl) (Nat.le_of_ble_eq_true rfl) (Nat.le_of_ble_eq_true rfl) (Nat.le_of_ble_eq_true rfl) (lw_end (fun v w h => h)) K
