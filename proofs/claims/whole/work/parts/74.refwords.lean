/-! the reference: words, numbers, ends -/
theorem s_l8 : (((nI 8).toInt64 &&& 63).toBitVec.smod 64).toNat = 8 := by decide +kernel
theorem b_i64 : ∀ b, b < 256 → (nI b).toInt64.toBitVec = BitVec.ofNat 64 b := by decide +kernel
/-- bytes as one number -/
def pkB (β : Nat → Nat) : Nat → Nat
  | 0 => 0
  | n + 1 => 256 * pkB β n + β n
theorem pkB_lt {β : Nat → Nat} (hβ : ∀ k, β k < 256) : ∀ n, pkB β n < 256 ^ n
  | 0 => Nat.zero_lt_one
  | n + 1 => by
    have := pkB_lt hβ n
    have := hβ n
    show 256 * pkB β n + β n < 256 ^ n * 256
    omega
theorem pk8_B {t : FN} {s : Nat} {β : Nat → Nat} {m : Nat} (hβ : ∀ k, β k < 256) (ht : ∀ k, k < m → t (s + k) = nI (β k)) : ∀ n, n ≤ m → (pk8 t s n).toBitVec = BitVec.ofNat 64 (pkB β n)
  | 0, _ => rfl
  | n + 1, hn => by
    have ih := pk8_B hβ ht n (by omega)
    have hb := hβ n
    show ((pk8 t s n <<< ((nI 8).toInt64 &&& 63)) ||| (t (s + n)).toInt64).toBitVec = _
    rw [Int64.toBitVec_or, ht n (by omega), b_i64 _ hb, Int64.toBitVec_shiftLeft, ih]
    show (BitVec.ofNat 64 (pkB β n) <<< (((nI 8).toInt64 &&& 63).toBitVec.smod 64).toNat) ||| BitVec.ofNat 64 (β n) = _
    rw [s_l8]
    apply BitVec.eq_of_toNat_eq
    rw [BitVec.toNat_or, BitVec.toNat_shiftLeft, BitVec.toNat_ofNat, BitVec.toNat_ofNat, BitVec.toNat_ofNat]
    show ((pkB β n % 2 ^ 64) <<< 8 % 2 ^ 64) ||| (β n % 2 ^ 64) = (256 * pkB β n + β n) % 2 ^ 64
    rw [Nat.shiftLeft_eq, Nat.mod_eq_of_lt (show β n < 2 ^ 64 by omega)]
    have e1 : pkB β n % 2 ^ 64 * 2 ^ 8 % 2 ^ 64 = (pkB β n % 2 ^ 56) <<< 8 := by rw [Nat.shiftLeft_eq]; omega
    rw [e1, ← Nat.shiftLeft_add_eq_or_of_lt (show β n < 2 ^ 8 by omega), Nat.shiftLeft_eq]
    omega
theorem scn_all {P : Int32 → Prop} [DecidablePred P] {t : FN} : ∀ d p j, p ≤ j → j < scn P t d p → P (t j)
  | 0, p, j, h1, h2 => absurd (show j < p from h2) (by omega)
  | d + 1, p, j, h1, h2 => by
    unfold scn at h2
    by_cases e : P (t p)
    · rw [if_pos e] at h2
      by_cases e2 : j = p
      · rw [e2]; exact e
      · exact scn_all d (p + 1) j (by omega) h2
    · rw [if_neg e] at h2; omega
theorem tk1_L {t : FN} {S p : Nat} (h : tkS t S p = 1) : ∀ j, stS t S p ≤ j → j < nxS t S p → pL (t j) := by
  have h1 : ¬ S ≤ stS t S p := fun k => by unfold tkS at h; rw [if_pos k] at h; cases h
  have h2 : pL (t (stS t S p)) := by
    by_cases e : pL (t (stS t S p))
    · exact e
    · unfold tkS at h
      rw [if_neg h1, if_neg e] at h
      by_cases e2 : pF (t (stS t S p))
      · rw [if_pos e2] at h; split at h <;> omega
      · rw [if_neg e2] at h; split at h <;> omega
  have e : nxS t S p = scn pL t (S - stS t S p) (stS t S p) := (if_neg h1).trans (if_pos h2)
  intro j hj1 hj2
  rw [e] at hj2
  exact scn_all _ _ j hj1 hj2
theorem pL_b {x : Int32} (h : pL x) : x = nI (iN x) ∧ 97 ≤ iN x ∧ iN x ≤ 122 := by
  have h1 := (tI_ge (by omega)).mp h.1
  have h2 := (tI_le (by omega)).mp h.2
  obtain ⟨k, hk, rfl⟩ := tI_of (x := x) (n := 123) (by omega) (by omega)
  rw [tI_n (by omega)] at h1 h2
  rw [iN_n (by omega)]
  exact ⟨rfl, by omega, by omega⟩
theorem pkB_0 {β : Nat → Nat} {n : Nat} (hn : n < 8) (hβ : ∀ k, k < n → 97 ≤ β k ∧ β k ≤ 122) : pkB β n = 1919905645 ↔ n = 4 ∧ β 0 = 114 ∧ β 1 = 111 ∧ β 2 = 111 ∧ β 3 = 109 := by
  have hc : n = 0 ∨ n = 1 ∨ n = 2 ∨ n = 3 ∨ n = 4 ∨ n = 5 ∨ n = 6 ∨ n = 7 := by omega
  rcases hc with rfl | rfl | rfl | rfl | rfl | rfl | rfl | rfl
  · show 0 = 1919905645 ↔ _; omega
  · have h0 := hβ 0 (by decide); show 256 * (0) + β 0 = 1919905645 ↔ _; omega
  · have h0 := hβ 0 (by decide); have h1 := hβ 1 (by decide); show 256 * (256 * (0) + β 0) + β 1 = 1919905645 ↔ _; omega
  · have h0 := hβ 0 (by decide); have h1 := hβ 1 (by decide); have h2 := hβ 2 (by decide); show 256 * (256 * (256 * (0) + β 0) + β 1) + β 2 = 1919905645 ↔ _; omega
  · have h0 := hβ 0 (by decide); have h1 := hβ 1 (by decide); have h2 := hβ 2 (by decide); have h3 := hβ 3 (by decide); show 256 * (256 * (256 * (256 * (0) + β 0) + β 1) + β 2) + β 3 = 1919905645 ↔ _; omega
  · have h0 := hβ 0 (by decide); have h1 := hβ 1 (by decide); have h2 := hβ 2 (by decide); have h3 := hβ 3 (by decide); have h4 := hβ 4 (by decide); show 256 * (256 * (256 * (256 * (256 * (0) + β 0) + β 1) + β 2) + β 3) + β 4 = 1919905645 ↔ _; omega
  · have h0 := hβ 0 (by decide); have h1 := hβ 1 (by decide); have h2 := hβ 2 (by decide); have h3 := hβ 3 (by decide); have h4 := hβ 4 (by decide); have h5 := hβ 5 (by decide); show 256 * (256 * (256 * (256 * (256 * (256 * (0) + β 0) + β 1) + β 2) + β 3) + β 4) + β 5 = 1919905645 ↔ _; omega
  · have h0 := hβ 0 (by decide); have h1 := hβ 1 (by decide); have h2 := hβ 2 (by decide); have h3 := hβ 3 (by decide); have h4 := hβ 4 (by decide); have h5 := hβ 5 (by decide); have h6 := hβ 6 (by decide); show 256 * (256 * (256 * (256 * (256 * (256 * (256 * (0) + β 0) + β 1) + β 2) + β 3) + β 4) + β 5) + β 6 = 1919905645 ↔ _; omega
theorem nm_0 (t : FN) (S p : Nat) (hp : p ≤ S) : nmS t S p = 1919905645 ↔ isW t S p 0 := by
  have hst := stS_le (t := t) hp
  have hnx := nxS_le (t := t) hp
  unfold nmS isW wordS
  show _ ↔ tkS t S p = 1 ∧ nxS t S p - stS t S p = 4 ∧ ∀ k, k < 4 → t (stS t S p + k) = ([114, 111, 111, 109] : List Int32).getD k 0
  by_cases e : tkS t S p = 1 ∧ nxS t S p - stS t S p < 8
  · rw [if_pos e]
    have hL : ∀ k, k < nxS t S p - stS t S p → pL (t (stS t S p + k)) := fun k hk => tk1_L e.1 _ (by omega) (by omega)
    have hβ : ∀ k, k < nxS t S p - stS t S p → 97 ≤ (iN (t (stS t S p + k)) % 256) ∧ (iN (t (stS t S p + k)) % 256) ≤ 122 := fun k hk => by have := pL_b (hL k hk); omega
    have hB := pk8_B (t := t) (s := stS t S p) (β := fun k => iN (t (stS t S p + k)) % 256) (m := nxS t S p - stS t S p) (fun k => Nat.mod_lt _ (by decide)) (fun k hk => by
      have := pL_b (hL k hk)
      rw [show iN (t (stS t S p + k)) % 256 = iN (t (stS t S p + k)) by omega]; exact this.1) _ (Nat.le_refl _)
    have hlt := pkB_lt (β := fun k => iN (t (stS t S p + k)) % 256) (fun k => Nat.mod_lt _ (by decide)) (nxS t S p - stS t S p)
    have hp7 : 256 ^ (nxS t S p - stS t S p) ≤ 256 ^ 7 := Nat.pow_le_pow_right (by decide) (by omega)
    rw [show (256 : Nat) ^ 7 = 72057594037927936 from rfl] at hp7
    have h1 : pk8 t (stS t S p) (nxS t S p - stS t S p) = 1919905645 ↔ pkB (fun k => iN (t (stS t S p + k)) % 256) (nxS t S p - stS t S p) = 1919905645 := by
      rw [← Int64.toBitVec_inj, hB]
      constructor
      · intro h
        have h2 := congrArg BitVec.toNat h
        rw [BitVec.toNat_ofNat, Nat.mod_eq_of_lt (by omega)] at h2
        exact h2
      · intro h; rw [h]; rfl
    rw [h1, pkB_0 e.2 hβ]
    constructor
    · rintro ⟨a0, a1, a2, a3, a4⟩
      refine ⟨e.1, a0, fun k hk => ?_⟩
      have g := pL_b (hL k (by omega))
      have hk2 : k = 0 ∨ k = 1 ∨ k = 2 ∨ k = 3 := by omega
      rw [g.1]
      rcases hk2 with rfl | rfl | rfl | rfl
      all_goals first | (rw [show iN (t (stS t S p + 0)) = 114 by omega]; rfl) | (rw [show iN (t (stS t S p + 1)) = 111 by omega]; rfl) | (rw [show iN (t (stS t S p + 2)) = 111 by omega]; rfl) | (rw [show iN (t (stS t S p + 3)) = 109 by omega]; rfl)
    · rintro ⟨-, a0, a1⟩
      refine ⟨a0, ?_, ?_, ?_, ?_⟩
      · show iN (t (stS t S p + 0)) % 256 = 114; rw [a1 0 (by decide)]; rfl
      · show iN (t (stS t S p + 1)) % 256 = 111; rw [a1 1 (by decide)]; rfl
      · show iN (t (stS t S p + 2)) % 256 = 111; rw [a1 2 (by decide)]; rfl
      · show iN (t (stS t S p + 3)) % 256 = 109; rw [a1 3 (by decide)]; rfl
  · rw [if_neg e]
    refine ⟨fun h => absurd h (by decide), fun h => absurd ⟨h.1, by omega⟩ e⟩
theorem pkB_1 {β : Nat → Nat} {n : Nat} (hn : n < 8) (hβ : ∀ k, k < n → 97 ≤ β k ∧ β k ≤ 122) : pkB β n = 1685024626 ↔ n = 4 ∧ β 0 = 100 ∧ β 1 = 111 ∧ β 2 = 111 ∧ β 3 = 114 := by
  have hc : n = 0 ∨ n = 1 ∨ n = 2 ∨ n = 3 ∨ n = 4 ∨ n = 5 ∨ n = 6 ∨ n = 7 := by omega
  rcases hc with rfl | rfl | rfl | rfl | rfl | rfl | rfl | rfl
  · show 0 = 1685024626 ↔ _; omega
  · have h0 := hβ 0 (by decide); show 256 * (0) + β 0 = 1685024626 ↔ _; omega
  · have h0 := hβ 0 (by decide); have h1 := hβ 1 (by decide); show 256 * (256 * (0) + β 0) + β 1 = 1685024626 ↔ _; omega
  · have h0 := hβ 0 (by decide); have h1 := hβ 1 (by decide); have h2 := hβ 2 (by decide); show 256 * (256 * (256 * (0) + β 0) + β 1) + β 2 = 1685024626 ↔ _; omega
  · have h0 := hβ 0 (by decide); have h1 := hβ 1 (by decide); have h2 := hβ 2 (by decide); have h3 := hβ 3 (by decide); show 256 * (256 * (256 * (256 * (0) + β 0) + β 1) + β 2) + β 3 = 1685024626 ↔ _; omega
  · have h0 := hβ 0 (by decide); have h1 := hβ 1 (by decide); have h2 := hβ 2 (by decide); have h3 := hβ 3 (by decide); have h4 := hβ 4 (by decide); show 256 * (256 * (256 * (256 * (256 * (0) + β 0) + β 1) + β 2) + β 3) + β 4 = 1685024626 ↔ _; omega
  · have h0 := hβ 0 (by decide); have h1 := hβ 1 (by decide); have h2 := hβ 2 (by decide); have h3 := hβ 3 (by decide); have h4 := hβ 4 (by decide); have h5 := hβ 5 (by decide); show 256 * (256 * (256 * (256 * (256 * (256 * (0) + β 0) + β 1) + β 2) + β 3) + β 4) + β 5 = 1685024626 ↔ _; omega
  · have h0 := hβ 0 (by decide); have h1 := hβ 1 (by decide); have h2 := hβ 2 (by decide); have h3 := hβ 3 (by decide); have h4 := hβ 4 (by decide); have h5 := hβ 5 (by decide); have h6 := hβ 6 (by decide); show 256 * (256 * (256 * (256 * (256 * (256 * (256 * (0) + β 0) + β 1) + β 2) + β 3) + β 4) + β 5) + β 6 = 1685024626 ↔ _; omega
theorem nm_1 (t : FN) (S p : Nat) (hp : p ≤ S) : nmS t S p = 1685024626 ↔ isW t S p 1 := by
  have hst := stS_le (t := t) hp
  have hnx := nxS_le (t := t) hp
  unfold nmS isW wordS
  show _ ↔ tkS t S p = 1 ∧ nxS t S p - stS t S p = 4 ∧ ∀ k, k < 4 → t (stS t S p + k) = ([100, 111, 111, 114] : List Int32).getD k 0
  by_cases e : tkS t S p = 1 ∧ nxS t S p - stS t S p < 8
  · rw [if_pos e]
    have hL : ∀ k, k < nxS t S p - stS t S p → pL (t (stS t S p + k)) := fun k hk => tk1_L e.1 _ (by omega) (by omega)
    have hβ : ∀ k, k < nxS t S p - stS t S p → 97 ≤ (iN (t (stS t S p + k)) % 256) ∧ (iN (t (stS t S p + k)) % 256) ≤ 122 := fun k hk => by have := pL_b (hL k hk); omega
    have hB := pk8_B (t := t) (s := stS t S p) (β := fun k => iN (t (stS t S p + k)) % 256) (m := nxS t S p - stS t S p) (fun k => Nat.mod_lt _ (by decide)) (fun k hk => by
      have := pL_b (hL k hk)
      rw [show iN (t (stS t S p + k)) % 256 = iN (t (stS t S p + k)) by omega]; exact this.1) _ (Nat.le_refl _)
    have hlt := pkB_lt (β := fun k => iN (t (stS t S p + k)) % 256) (fun k => Nat.mod_lt _ (by decide)) (nxS t S p - stS t S p)
    have hp7 : 256 ^ (nxS t S p - stS t S p) ≤ 256 ^ 7 := Nat.pow_le_pow_right (by decide) (by omega)
    rw [show (256 : Nat) ^ 7 = 72057594037927936 from rfl] at hp7
    have h1 : pk8 t (stS t S p) (nxS t S p - stS t S p) = 1685024626 ↔ pkB (fun k => iN (t (stS t S p + k)) % 256) (nxS t S p - stS t S p) = 1685024626 := by
      rw [← Int64.toBitVec_inj, hB]
      constructor
      · intro h
        have h2 := congrArg BitVec.toNat h
        rw [BitVec.toNat_ofNat, Nat.mod_eq_of_lt (by omega)] at h2
        exact h2
      · intro h; rw [h]; rfl
    rw [h1, pkB_1 e.2 hβ]
    constructor
    · rintro ⟨a0, a1, a2, a3, a4⟩
      refine ⟨e.1, a0, fun k hk => ?_⟩
      have g := pL_b (hL k (by omega))
      have hk2 : k = 0 ∨ k = 1 ∨ k = 2 ∨ k = 3 := by omega
      rw [g.1]
      rcases hk2 with rfl | rfl | rfl | rfl
      all_goals first | (rw [show iN (t (stS t S p + 0)) = 100 by omega]; rfl) | (rw [show iN (t (stS t S p + 1)) = 111 by omega]; rfl) | (rw [show iN (t (stS t S p + 2)) = 111 by omega]; rfl) | (rw [show iN (t (stS t S p + 3)) = 114 by omega]; rfl)
    · rintro ⟨-, a0, a1⟩
      refine ⟨a0, ?_, ?_, ?_, ?_⟩
      · show iN (t (stS t S p + 0)) % 256 = 100; rw [a1 0 (by decide)]; rfl
      · show iN (t (stS t S p + 1)) % 256 = 111; rw [a1 1 (by decide)]; rfl
      · show iN (t (stS t S p + 2)) % 256 = 111; rw [a1 2 (by decide)]; rfl
      · show iN (t (stS t S p + 3)) % 256 = 114; rw [a1 3 (by decide)]; rfl
  · rw [if_neg e]
    refine ⟨fun h => absurd h (by decide), fun h => absurd ⟨h.1, by omega⟩ e⟩
theorem pkB_2 {β : Nat → Nat} {n : Nat} (hn : n < 8) (hβ : ∀ k, k < n → 97 ≤ β k ∧ β k ≤ 122) : pkB β n = 427121669988 ↔ n = 5 ∧ β 0 = 99 ∧ β 1 = 114 ∧ β 2 = 111 ∧ β 3 = 119 ∧ β 4 = 100 := by
  have hc : n = 0 ∨ n = 1 ∨ n = 2 ∨ n = 3 ∨ n = 4 ∨ n = 5 ∨ n = 6 ∨ n = 7 := by omega
  rcases hc with rfl | rfl | rfl | rfl | rfl | rfl | rfl | rfl
  · show 0 = 427121669988 ↔ _; omega
  · have h0 := hβ 0 (by decide); show 256 * (0) + β 0 = 427121669988 ↔ _; omega
  · have h0 := hβ 0 (by decide); have h1 := hβ 1 (by decide); show 256 * (256 * (0) + β 0) + β 1 = 427121669988 ↔ _; omega
  · have h0 := hβ 0 (by decide); have h1 := hβ 1 (by decide); have h2 := hβ 2 (by decide); show 256 * (256 * (256 * (0) + β 0) + β 1) + β 2 = 427121669988 ↔ _; omega
  · have h0 := hβ 0 (by decide); have h1 := hβ 1 (by decide); have h2 := hβ 2 (by decide); have h3 := hβ 3 (by decide); show 256 * (256 * (256 * (256 * (0) + β 0) + β 1) + β 2) + β 3 = 427121669988 ↔ _; omega
  · have h0 := hβ 0 (by decide); have h1 := hβ 1 (by decide); have h2 := hβ 2 (by decide); have h3 := hβ 3 (by decide); have h4 := hβ 4 (by decide); show 256 * (256 * (256 * (256 * (256 * (0) + β 0) + β 1) + β 2) + β 3) + β 4 = 427121669988 ↔ _; omega
  · have h0 := hβ 0 (by decide); have h1 := hβ 1 (by decide); have h2 := hβ 2 (by decide); have h3 := hβ 3 (by decide); have h4 := hβ 4 (by decide); have h5 := hβ 5 (by decide); show 256 * (256 * (256 * (256 * (256 * (256 * (0) + β 0) + β 1) + β 2) + β 3) + β 4) + β 5 = 427121669988 ↔ _; omega
  · have h0 := hβ 0 (by decide); have h1 := hβ 1 (by decide); have h2 := hβ 2 (by decide); have h3 := hβ 3 (by decide); have h4 := hβ 4 (by decide); have h5 := hβ 5 (by decide); have h6 := hβ 6 (by decide); show 256 * (256 * (256 * (256 * (256 * (256 * (256 * (0) + β 0) + β 1) + β 2) + β 3) + β 4) + β 5) + β 6 = 427121669988 ↔ _; omega
theorem nm_2 (t : FN) (S p : Nat) (hp : p ≤ S) : nmS t S p = 427121669988 ↔ isW t S p 2 := by
  have hst := stS_le (t := t) hp
  have hnx := nxS_le (t := t) hp
  unfold nmS isW wordS
  show _ ↔ tkS t S p = 1 ∧ nxS t S p - stS t S p = 5 ∧ ∀ k, k < 5 → t (stS t S p + k) = ([99, 114, 111, 119, 100] : List Int32).getD k 0
  by_cases e : tkS t S p = 1 ∧ nxS t S p - stS t S p < 8
  · rw [if_pos e]
    have hL : ∀ k, k < nxS t S p - stS t S p → pL (t (stS t S p + k)) := fun k hk => tk1_L e.1 _ (by omega) (by omega)
    have hβ : ∀ k, k < nxS t S p - stS t S p → 97 ≤ (iN (t (stS t S p + k)) % 256) ∧ (iN (t (stS t S p + k)) % 256) ≤ 122 := fun k hk => by have := pL_b (hL k hk); omega
    have hB := pk8_B (t := t) (s := stS t S p) (β := fun k => iN (t (stS t S p + k)) % 256) (m := nxS t S p - stS t S p) (fun k => Nat.mod_lt _ (by decide)) (fun k hk => by
      have := pL_b (hL k hk)
      rw [show iN (t (stS t S p + k)) % 256 = iN (t (stS t S p + k)) by omega]; exact this.1) _ (Nat.le_refl _)
    have hlt := pkB_lt (β := fun k => iN (t (stS t S p + k)) % 256) (fun k => Nat.mod_lt _ (by decide)) (nxS t S p - stS t S p)
    have hp7 : 256 ^ (nxS t S p - stS t S p) ≤ 256 ^ 7 := Nat.pow_le_pow_right (by decide) (by omega)
    rw [show (256 : Nat) ^ 7 = 72057594037927936 from rfl] at hp7
    have h1 : pk8 t (stS t S p) (nxS t S p - stS t S p) = 427121669988 ↔ pkB (fun k => iN (t (stS t S p + k)) % 256) (nxS t S p - stS t S p) = 427121669988 := by
      rw [← Int64.toBitVec_inj, hB]
      constructor
      · intro h
        have h2 := congrArg BitVec.toNat h
        rw [BitVec.toNat_ofNat, Nat.mod_eq_of_lt (by omega)] at h2
        exact h2
      · intro h; rw [h]; rfl
    rw [h1, pkB_2 e.2 hβ]
    constructor
    · rintro ⟨a0, a1, a2, a3, a4, a5⟩
      refine ⟨e.1, a0, fun k hk => ?_⟩
      have g := pL_b (hL k (by omega))
      have hk2 : k = 0 ∨ k = 1 ∨ k = 2 ∨ k = 3 ∨ k = 4 := by omega
      rw [g.1]
      rcases hk2 with rfl | rfl | rfl | rfl | rfl
      all_goals first | (rw [show iN (t (stS t S p + 0)) = 99 by omega]; rfl) | (rw [show iN (t (stS t S p + 1)) = 114 by omega]; rfl) | (rw [show iN (t (stS t S p + 2)) = 111 by omega]; rfl) | (rw [show iN (t (stS t S p + 3)) = 119 by omega]; rfl) | (rw [show iN (t (stS t S p + 4)) = 100 by omega]; rfl)
    · rintro ⟨-, a0, a1⟩
      refine ⟨a0, ?_, ?_, ?_, ?_, ?_⟩
      · show iN (t (stS t S p + 0)) % 256 = 99; rw [a1 0 (by decide)]; rfl
      · show iN (t (stS t S p + 1)) % 256 = 114; rw [a1 1 (by decide)]; rfl
      · show iN (t (stS t S p + 2)) % 256 = 111; rw [a1 2 (by decide)]; rfl
      · show iN (t (stS t S p + 3)) % 256 = 119; rw [a1 3 (by decide)]; rfl
      · show iN (t (stS t S p + 4)) % 256 = 100; rw [a1 4 (by decide)]; rfl
  · rw [if_neg e]
    refine ⟨fun h => absurd h (by decide), fun h => absurd ⟨h.1, by omega⟩ e⟩
theorem pkB_3 {β : Nat → Nat} {n : Nat} (hn : n < 8) (hβ : ∀ k, k < n → 97 ≤ β k ∧ β k ≤ 122) : pkB β n = 1836020596 ↔ n = 4 ∧ β 0 = 109 ∧ β 1 = 111 ∧ β 2 = 115 ∧ β 3 = 116 := by
  have hc : n = 0 ∨ n = 1 ∨ n = 2 ∨ n = 3 ∨ n = 4 ∨ n = 5 ∨ n = 6 ∨ n = 7 := by omega
  rcases hc with rfl | rfl | rfl | rfl | rfl | rfl | rfl | rfl
  · show 0 = 1836020596 ↔ _; omega
  · have h0 := hβ 0 (by decide); show 256 * (0) + β 0 = 1836020596 ↔ _; omega
  · have h0 := hβ 0 (by decide); have h1 := hβ 1 (by decide); show 256 * (256 * (0) + β 0) + β 1 = 1836020596 ↔ _; omega
  · have h0 := hβ 0 (by decide); have h1 := hβ 1 (by decide); have h2 := hβ 2 (by decide); show 256 * (256 * (256 * (0) + β 0) + β 1) + β 2 = 1836020596 ↔ _; omega
  · have h0 := hβ 0 (by decide); have h1 := hβ 1 (by decide); have h2 := hβ 2 (by decide); have h3 := hβ 3 (by decide); show 256 * (256 * (256 * (256 * (0) + β 0) + β 1) + β 2) + β 3 = 1836020596 ↔ _; omega
  · have h0 := hβ 0 (by decide); have h1 := hβ 1 (by decide); have h2 := hβ 2 (by decide); have h3 := hβ 3 (by decide); have h4 := hβ 4 (by decide); show 256 * (256 * (256 * (256 * (256 * (0) + β 0) + β 1) + β 2) + β 3) + β 4 = 1836020596 ↔ _; omega
  · have h0 := hβ 0 (by decide); have h1 := hβ 1 (by decide); have h2 := hβ 2 (by decide); have h3 := hβ 3 (by decide); have h4 := hβ 4 (by decide); have h5 := hβ 5 (by decide); show 256 * (256 * (256 * (256 * (256 * (256 * (0) + β 0) + β 1) + β 2) + β 3) + β 4) + β 5 = 1836020596 ↔ _; omega
  · have h0 := hβ 0 (by decide); have h1 := hβ 1 (by decide); have h2 := hβ 2 (by decide); have h3 := hβ 3 (by decide); have h4 := hβ 4 (by decide); have h5 := hβ 5 (by decide); have h6 := hβ 6 (by decide); show 256 * (256 * (256 * (256 * (256 * (256 * (256 * (0) + β 0) + β 1) + β 2) + β 3) + β 4) + β 5) + β 6 = 1836020596 ↔ _; omega
theorem nm_3 (t : FN) (S p : Nat) (hp : p ≤ S) : nmS t S p = 1836020596 ↔ isW t S p 3 := by
  have hst := stS_le (t := t) hp
  have hnx := nxS_le (t := t) hp
  unfold nmS isW wordS
  show _ ↔ tkS t S p = 1 ∧ nxS t S p - stS t S p = 4 ∧ ∀ k, k < 4 → t (stS t S p + k) = ([109, 111, 115, 116] : List Int32).getD k 0
  by_cases e : tkS t S p = 1 ∧ nxS t S p - stS t S p < 8
  · rw [if_pos e]
    have hL : ∀ k, k < nxS t S p - stS t S p → pL (t (stS t S p + k)) := fun k hk => tk1_L e.1 _ (by omega) (by omega)
    have hβ : ∀ k, k < nxS t S p - stS t S p → 97 ≤ (iN (t (stS t S p + k)) % 256) ∧ (iN (t (stS t S p + k)) % 256) ≤ 122 := fun k hk => by have := pL_b (hL k hk); omega
    have hB := pk8_B (t := t) (s := stS t S p) (β := fun k => iN (t (stS t S p + k)) % 256) (m := nxS t S p - stS t S p) (fun k => Nat.mod_lt _ (by decide)) (fun k hk => by
      have := pL_b (hL k hk)
      rw [show iN (t (stS t S p + k)) % 256 = iN (t (stS t S p + k)) by omega]; exact this.1) _ (Nat.le_refl _)
    have hlt := pkB_lt (β := fun k => iN (t (stS t S p + k)) % 256) (fun k => Nat.mod_lt _ (by decide)) (nxS t S p - stS t S p)
    have hp7 : 256 ^ (nxS t S p - stS t S p) ≤ 256 ^ 7 := Nat.pow_le_pow_right (by decide) (by omega)
    rw [show (256 : Nat) ^ 7 = 72057594037927936 from rfl] at hp7
    have h1 : pk8 t (stS t S p) (nxS t S p - stS t S p) = 1836020596 ↔ pkB (fun k => iN (t (stS t S p + k)) % 256) (nxS t S p - stS t S p) = 1836020596 := by
      rw [← Int64.toBitVec_inj, hB]
      constructor
      · intro h
        have h2 := congrArg BitVec.toNat h
        rw [BitVec.toNat_ofNat, Nat.mod_eq_of_lt (by omega)] at h2
        exact h2
      · intro h; rw [h]; rfl
    rw [h1, pkB_3 e.2 hβ]
    constructor
    · rintro ⟨a0, a1, a2, a3, a4⟩
      refine ⟨e.1, a0, fun k hk => ?_⟩
      have g := pL_b (hL k (by omega))
      have hk2 : k = 0 ∨ k = 1 ∨ k = 2 ∨ k = 3 := by omega
      rw [g.1]
      rcases hk2 with rfl | rfl | rfl | rfl
      all_goals first | (rw [show iN (t (stS t S p + 0)) = 109 by omega]; rfl) | (rw [show iN (t (stS t S p + 1)) = 111 by omega]; rfl) | (rw [show iN (t (stS t S p + 2)) = 115 by omega]; rfl) | (rw [show iN (t (stS t S p + 3)) = 116 by omega]; rfl)
    · rintro ⟨-, a0, a1⟩
      refine ⟨a0, ?_, ?_, ?_, ?_⟩
      · show iN (t (stS t S p + 0)) % 256 = 109; rw [a1 0 (by decide)]; rfl
      · show iN (t (stS t S p + 1)) % 256 = 111; rw [a1 1 (by decide)]; rfl
      · show iN (t (stS t S p + 2)) % 256 = 115; rw [a1 2 (by decide)]; rfl
      · show iN (t (stS t S p + 3)) % 256 = 116; rw [a1 3 (by decide)]; rfl
  · rw [if_neg e]
    refine ⟨fun h => absurd h (by decide), fun h => absurd ⟨h.1, by omega⟩ e⟩
theorem pkB_4 {β : Nat → Nat} {n : Nat} (hn : n < 8) (hβ : ∀ k, k < n → 97 ≤ β k ∧ β k ≤ 122) : pkB β n = 1818848101 ↔ n = 4 ∧ β 0 = 108 ∧ β 1 = 105 ∧ β 2 = 107 ∧ β 3 = 101 := by
  have hc : n = 0 ∨ n = 1 ∨ n = 2 ∨ n = 3 ∨ n = 4 ∨ n = 5 ∨ n = 6 ∨ n = 7 := by omega
  rcases hc with rfl | rfl | rfl | rfl | rfl | rfl | rfl | rfl
  · show 0 = 1818848101 ↔ _; omega
  · have h0 := hβ 0 (by decide); show 256 * (0) + β 0 = 1818848101 ↔ _; omega
  · have h0 := hβ 0 (by decide); have h1 := hβ 1 (by decide); show 256 * (256 * (0) + β 0) + β 1 = 1818848101 ↔ _; omega
  · have h0 := hβ 0 (by decide); have h1 := hβ 1 (by decide); have h2 := hβ 2 (by decide); show 256 * (256 * (256 * (0) + β 0) + β 1) + β 2 = 1818848101 ↔ _; omega
  · have h0 := hβ 0 (by decide); have h1 := hβ 1 (by decide); have h2 := hβ 2 (by decide); have h3 := hβ 3 (by decide); show 256 * (256 * (256 * (256 * (0) + β 0) + β 1) + β 2) + β 3 = 1818848101 ↔ _; omega
  · have h0 := hβ 0 (by decide); have h1 := hβ 1 (by decide); have h2 := hβ 2 (by decide); have h3 := hβ 3 (by decide); have h4 := hβ 4 (by decide); show 256 * (256 * (256 * (256 * (256 * (0) + β 0) + β 1) + β 2) + β 3) + β 4 = 1818848101 ↔ _; omega
  · have h0 := hβ 0 (by decide); have h1 := hβ 1 (by decide); have h2 := hβ 2 (by decide); have h3 := hβ 3 (by decide); have h4 := hβ 4 (by decide); have h5 := hβ 5 (by decide); show 256 * (256 * (256 * (256 * (256 * (256 * (0) + β 0) + β 1) + β 2) + β 3) + β 4) + β 5 = 1818848101 ↔ _; omega
  · have h0 := hβ 0 (by decide); have h1 := hβ 1 (by decide); have h2 := hβ 2 (by decide); have h3 := hβ 3 (by decide); have h4 := hβ 4 (by decide); have h5 := hβ 5 (by decide); have h6 := hβ 6 (by decide); show 256 * (256 * (256 * (256 * (256 * (256 * (256 * (0) + β 0) + β 1) + β 2) + β 3) + β 4) + β 5) + β 6 = 1818848101 ↔ _; omega
theorem nm_4 (t : FN) (S p : Nat) (hp : p ≤ S) : nmS t S p = 1818848101 ↔ isW t S p 4 := by
  have hst := stS_le (t := t) hp
  have hnx := nxS_le (t := t) hp
  unfold nmS isW wordS
  show _ ↔ tkS t S p = 1 ∧ nxS t S p - stS t S p = 4 ∧ ∀ k, k < 4 → t (stS t S p + k) = ([108, 105, 107, 101] : List Int32).getD k 0
  by_cases e : tkS t S p = 1 ∧ nxS t S p - stS t S p < 8
  · rw [if_pos e]
    have hL : ∀ k, k < nxS t S p - stS t S p → pL (t (stS t S p + k)) := fun k hk => tk1_L e.1 _ (by omega) (by omega)
    have hβ : ∀ k, k < nxS t S p - stS t S p → 97 ≤ (iN (t (stS t S p + k)) % 256) ∧ (iN (t (stS t S p + k)) % 256) ≤ 122 := fun k hk => by have := pL_b (hL k hk); omega
    have hB := pk8_B (t := t) (s := stS t S p) (β := fun k => iN (t (stS t S p + k)) % 256) (m := nxS t S p - stS t S p) (fun k => Nat.mod_lt _ (by decide)) (fun k hk => by
      have := pL_b (hL k hk)
      rw [show iN (t (stS t S p + k)) % 256 = iN (t (stS t S p + k)) by omega]; exact this.1) _ (Nat.le_refl _)
    have hlt := pkB_lt (β := fun k => iN (t (stS t S p + k)) % 256) (fun k => Nat.mod_lt _ (by decide)) (nxS t S p - stS t S p)
    have hp7 : 256 ^ (nxS t S p - stS t S p) ≤ 256 ^ 7 := Nat.pow_le_pow_right (by decide) (by omega)
    rw [show (256 : Nat) ^ 7 = 72057594037927936 from rfl] at hp7
    have h1 : pk8 t (stS t S p) (nxS t S p - stS t S p) = 1818848101 ↔ pkB (fun k => iN (t (stS t S p + k)) % 256) (nxS t S p - stS t S p) = 1818848101 := by
      rw [← Int64.toBitVec_inj, hB]
      constructor
      · intro h
        have h2 := congrArg BitVec.toNat h
        rw [BitVec.toNat_ofNat, Nat.mod_eq_of_lt (by omega)] at h2
        exact h2
      · intro h; rw [h]; rfl
    rw [h1, pkB_4 e.2 hβ]
    constructor
    · rintro ⟨a0, a1, a2, a3, a4⟩
      refine ⟨e.1, a0, fun k hk => ?_⟩
      have g := pL_b (hL k (by omega))
      have hk2 : k = 0 ∨ k = 1 ∨ k = 2 ∨ k = 3 := by omega
      rw [g.1]
      rcases hk2 with rfl | rfl | rfl | rfl
      all_goals first | (rw [show iN (t (stS t S p + 0)) = 108 by omega]; rfl) | (rw [show iN (t (stS t S p + 1)) = 105 by omega]; rfl) | (rw [show iN (t (stS t S p + 2)) = 107 by omega]; rfl) | (rw [show iN (t (stS t S p + 3)) = 101 by omega]; rfl)
    · rintro ⟨-, a0, a1⟩
      refine ⟨a0, ?_, ?_, ?_, ?_⟩
      · show iN (t (stS t S p + 0)) % 256 = 108; rw [a1 0 (by decide)]; rfl
      · show iN (t (stS t S p + 1)) % 256 = 105; rw [a1 1 (by decide)]; rfl
      · show iN (t (stS t S p + 2)) % 256 = 107; rw [a1 2 (by decide)]; rfl
      · show iN (t (stS t S p + 3)) % 256 = 101; rw [a1 3 (by decide)]; rfl
  · rw [if_neg e]
    refine ⟨fun h => absurd h (by decide), fun h => absurd ⟨h.1, by omega⟩ e⟩
theorem pkB_5 {β : Nat → Nat} {n : Nat} (hn : n < 8) (hβ : ∀ k, k < n → 97 ≤ β k ∧ β k ≤ 122) : pkB β n = 1818326117 ↔ n = 4 ∧ β 0 = 108 ∧ β 1 = 97 ∧ β 2 = 116 ∧ β 3 = 101 := by
  have hc : n = 0 ∨ n = 1 ∨ n = 2 ∨ n = 3 ∨ n = 4 ∨ n = 5 ∨ n = 6 ∨ n = 7 := by omega
  rcases hc with rfl | rfl | rfl | rfl | rfl | rfl | rfl | rfl
  · show 0 = 1818326117 ↔ _; omega
  · have h0 := hβ 0 (by decide); show 256 * (0) + β 0 = 1818326117 ↔ _; omega
  · have h0 := hβ 0 (by decide); have h1 := hβ 1 (by decide); show 256 * (256 * (0) + β 0) + β 1 = 1818326117 ↔ _; omega
  · have h0 := hβ 0 (by decide); have h1 := hβ 1 (by decide); have h2 := hβ 2 (by decide); show 256 * (256 * (256 * (0) + β 0) + β 1) + β 2 = 1818326117 ↔ _; omega
  · have h0 := hβ 0 (by decide); have h1 := hβ 1 (by decide); have h2 := hβ 2 (by decide); have h3 := hβ 3 (by decide); show 256 * (256 * (256 * (256 * (0) + β 0) + β 1) + β 2) + β 3 = 1818326117 ↔ _; omega
  · have h0 := hβ 0 (by decide); have h1 := hβ 1 (by decide); have h2 := hβ 2 (by decide); have h3 := hβ 3 (by decide); have h4 := hβ 4 (by decide); show 256 * (256 * (256 * (256 * (256 * (0) + β 0) + β 1) + β 2) + β 3) + β 4 = 1818326117 ↔ _; omega
  · have h0 := hβ 0 (by decide); have h1 := hβ 1 (by decide); have h2 := hβ 2 (by decide); have h3 := hβ 3 (by decide); have h4 := hβ 4 (by decide); have h5 := hβ 5 (by decide); show 256 * (256 * (256 * (256 * (256 * (256 * (0) + β 0) + β 1) + β 2) + β 3) + β 4) + β 5 = 1818326117 ↔ _; omega
  · have h0 := hβ 0 (by decide); have h1 := hβ 1 (by decide); have h2 := hβ 2 (by decide); have h3 := hβ 3 (by decide); have h4 := hβ 4 (by decide); have h5 := hβ 5 (by decide); have h6 := hβ 6 (by decide); show 256 * (256 * (256 * (256 * (256 * (256 * (256 * (0) + β 0) + β 1) + β 2) + β 3) + β 4) + β 5) + β 6 = 1818326117 ↔ _; omega
theorem nm_5 (t : FN) (S p : Nat) (hp : p ≤ S) : nmS t S p = 1818326117 ↔ isW t S p 5 := by
  have hst := stS_le (t := t) hp
  have hnx := nxS_le (t := t) hp
  unfold nmS isW wordS
  show _ ↔ tkS t S p = 1 ∧ nxS t S p - stS t S p = 4 ∧ ∀ k, k < 4 → t (stS t S p + k) = ([108, 97, 116, 101] : List Int32).getD k 0
  by_cases e : tkS t S p = 1 ∧ nxS t S p - stS t S p < 8
  · rw [if_pos e]
    have hL : ∀ k, k < nxS t S p - stS t S p → pL (t (stS t S p + k)) := fun k hk => tk1_L e.1 _ (by omega) (by omega)
    have hβ : ∀ k, k < nxS t S p - stS t S p → 97 ≤ (iN (t (stS t S p + k)) % 256) ∧ (iN (t (stS t S p + k)) % 256) ≤ 122 := fun k hk => by have := pL_b (hL k hk); omega
    have hB := pk8_B (t := t) (s := stS t S p) (β := fun k => iN (t (stS t S p + k)) % 256) (m := nxS t S p - stS t S p) (fun k => Nat.mod_lt _ (by decide)) (fun k hk => by
      have := pL_b (hL k hk)
      rw [show iN (t (stS t S p + k)) % 256 = iN (t (stS t S p + k)) by omega]; exact this.1) _ (Nat.le_refl _)
    have hlt := pkB_lt (β := fun k => iN (t (stS t S p + k)) % 256) (fun k => Nat.mod_lt _ (by decide)) (nxS t S p - stS t S p)
    have hp7 : 256 ^ (nxS t S p - stS t S p) ≤ 256 ^ 7 := Nat.pow_le_pow_right (by decide) (by omega)
    rw [show (256 : Nat) ^ 7 = 72057594037927936 from rfl] at hp7
    have h1 : pk8 t (stS t S p) (nxS t S p - stS t S p) = 1818326117 ↔ pkB (fun k => iN (t (stS t S p + k)) % 256) (nxS t S p - stS t S p) = 1818326117 := by
      rw [← Int64.toBitVec_inj, hB]
      constructor
      · intro h
        have h2 := congrArg BitVec.toNat h
        rw [BitVec.toNat_ofNat, Nat.mod_eq_of_lt (by omega)] at h2
        exact h2
      · intro h; rw [h]; rfl
    rw [h1, pkB_5 e.2 hβ]
    constructor
    · rintro ⟨a0, a1, a2, a3, a4⟩
      refine ⟨e.1, a0, fun k hk => ?_⟩
      have g := pL_b (hL k (by omega))
      have hk2 : k = 0 ∨ k = 1 ∨ k = 2 ∨ k = 3 := by omega
      rw [g.1]
      rcases hk2 with rfl | rfl | rfl | rfl
      all_goals first | (rw [show iN (t (stS t S p + 0)) = 108 by omega]; rfl) | (rw [show iN (t (stS t S p + 1)) = 97 by omega]; rfl) | (rw [show iN (t (stS t S p + 2)) = 116 by omega]; rfl) | (rw [show iN (t (stS t S p + 3)) = 101 by omega]; rfl)
    · rintro ⟨-, a0, a1⟩
      refine ⟨a0, ?_, ?_, ?_, ?_⟩
      · show iN (t (stS t S p + 0)) % 256 = 108; rw [a1 0 (by decide)]; rfl
      · show iN (t (stS t S p + 1)) % 256 = 97; rw [a1 1 (by decide)]; rfl
      · show iN (t (stS t S p + 2)) % 256 = 116; rw [a1 2 (by decide)]; rfl
      · show iN (t (stS t S p + 3)) % 256 = 101; rw [a1 3 (by decide)]; rfl
  · rw [if_neg e]
    refine ⟨fun h => absurd h (by decide), fun h => absurd ⟨h.1, by omega⟩ e⟩
theorem pkB_6 {β : Nat → Nat} {n : Nat} (hn : n < 8) (hβ : ∀ k, k < n → 97 ≤ β k ∧ β k ≤ 122) : pkB β n = 1937006969 ↔ n = 4 ∧ β 0 = 115 ∧ β 1 = 116 ∧ β 2 = 97 ∧ β 3 = 121 := by
  have hc : n = 0 ∨ n = 1 ∨ n = 2 ∨ n = 3 ∨ n = 4 ∨ n = 5 ∨ n = 6 ∨ n = 7 := by omega
  rcases hc with rfl | rfl | rfl | rfl | rfl | rfl | rfl | rfl
  · show 0 = 1937006969 ↔ _; omega
  · have h0 := hβ 0 (by decide); show 256 * (0) + β 0 = 1937006969 ↔ _; omega
  · have h0 := hβ 0 (by decide); have h1 := hβ 1 (by decide); show 256 * (256 * (0) + β 0) + β 1 = 1937006969 ↔ _; omega
  · have h0 := hβ 0 (by decide); have h1 := hβ 1 (by decide); have h2 := hβ 2 (by decide); show 256 * (256 * (256 * (0) + β 0) + β 1) + β 2 = 1937006969 ↔ _; omega
  · have h0 := hβ 0 (by decide); have h1 := hβ 1 (by decide); have h2 := hβ 2 (by decide); have h3 := hβ 3 (by decide); show 256 * (256 * (256 * (256 * (0) + β 0) + β 1) + β 2) + β 3 = 1937006969 ↔ _; omega
  · have h0 := hβ 0 (by decide); have h1 := hβ 1 (by decide); have h2 := hβ 2 (by decide); have h3 := hβ 3 (by decide); have h4 := hβ 4 (by decide); show 256 * (256 * (256 * (256 * (256 * (0) + β 0) + β 1) + β 2) + β 3) + β 4 = 1937006969 ↔ _; omega
  · have h0 := hβ 0 (by decide); have h1 := hβ 1 (by decide); have h2 := hβ 2 (by decide); have h3 := hβ 3 (by decide); have h4 := hβ 4 (by decide); have h5 := hβ 5 (by decide); show 256 * (256 * (256 * (256 * (256 * (256 * (0) + β 0) + β 1) + β 2) + β 3) + β 4) + β 5 = 1937006969 ↔ _; omega
  · have h0 := hβ 0 (by decide); have h1 := hβ 1 (by decide); have h2 := hβ 2 (by decide); have h3 := hβ 3 (by decide); have h4 := hβ 4 (by decide); have h5 := hβ 5 (by decide); have h6 := hβ 6 (by decide); show 256 * (256 * (256 * (256 * (256 * (256 * (256 * (0) + β 0) + β 1) + β 2) + β 3) + β 4) + β 5) + β 6 = 1937006969 ↔ _; omega
theorem nm_6 (t : FN) (S p : Nat) (hp : p ≤ S) : nmS t S p = 1937006969 ↔ isW t S p 6 := by
  have hst := stS_le (t := t) hp
  have hnx := nxS_le (t := t) hp
  unfold nmS isW wordS
  show _ ↔ tkS t S p = 1 ∧ nxS t S p - stS t S p = 4 ∧ ∀ k, k < 4 → t (stS t S p + k) = ([115, 116, 97, 121] : List Int32).getD k 0
  by_cases e : tkS t S p = 1 ∧ nxS t S p - stS t S p < 8
  · rw [if_pos e]
    have hL : ∀ k, k < nxS t S p - stS t S p → pL (t (stS t S p + k)) := fun k hk => tk1_L e.1 _ (by omega) (by omega)
    have hβ : ∀ k, k < nxS t S p - stS t S p → 97 ≤ (iN (t (stS t S p + k)) % 256) ∧ (iN (t (stS t S p + k)) % 256) ≤ 122 := fun k hk => by have := pL_b (hL k hk); omega
    have hB := pk8_B (t := t) (s := stS t S p) (β := fun k => iN (t (stS t S p + k)) % 256) (m := nxS t S p - stS t S p) (fun k => Nat.mod_lt _ (by decide)) (fun k hk => by
      have := pL_b (hL k hk)
      rw [show iN (t (stS t S p + k)) % 256 = iN (t (stS t S p + k)) by omega]; exact this.1) _ (Nat.le_refl _)
    have hlt := pkB_lt (β := fun k => iN (t (stS t S p + k)) % 256) (fun k => Nat.mod_lt _ (by decide)) (nxS t S p - stS t S p)
    have hp7 : 256 ^ (nxS t S p - stS t S p) ≤ 256 ^ 7 := Nat.pow_le_pow_right (by decide) (by omega)
    rw [show (256 : Nat) ^ 7 = 72057594037927936 from rfl] at hp7
    have h1 : pk8 t (stS t S p) (nxS t S p - stS t S p) = 1937006969 ↔ pkB (fun k => iN (t (stS t S p + k)) % 256) (nxS t S p - stS t S p) = 1937006969 := by
      rw [← Int64.toBitVec_inj, hB]
      constructor
      · intro h
        have h2 := congrArg BitVec.toNat h
        rw [BitVec.toNat_ofNat, Nat.mod_eq_of_lt (by omega)] at h2
        exact h2
      · intro h; rw [h]; rfl
    rw [h1, pkB_6 e.2 hβ]
    constructor
    · rintro ⟨a0, a1, a2, a3, a4⟩
      refine ⟨e.1, a0, fun k hk => ?_⟩
      have g := pL_b (hL k (by omega))
      have hk2 : k = 0 ∨ k = 1 ∨ k = 2 ∨ k = 3 := by omega
      rw [g.1]
      rcases hk2 with rfl | rfl | rfl | rfl
      all_goals first | (rw [show iN (t (stS t S p + 0)) = 115 by omega]; rfl) | (rw [show iN (t (stS t S p + 1)) = 116 by omega]; rfl) | (rw [show iN (t (stS t S p + 2)) = 97 by omega]; rfl) | (rw [show iN (t (stS t S p + 3)) = 121 by omega]; rfl)
    · rintro ⟨-, a0, a1⟩
      refine ⟨a0, ?_, ?_, ?_, ?_⟩
      · show iN (t (stS t S p + 0)) % 256 = 115; rw [a1 0 (by decide)]; rfl
      · show iN (t (stS t S p + 1)) % 256 = 116; rw [a1 1 (by decide)]; rfl
      · show iN (t (stS t S p + 2)) % 256 = 97; rw [a1 2 (by decide)]; rfl
      · show iN (t (stS t S p + 3)) % 256 = 121; rw [a1 3 (by decide)]; rfl
  · rw [if_neg e]
    refine ⟨fun h => absurd h (by decide), fun h => absurd ⟨h.1, by omega⟩ e⟩
theorem pkB_7 {β : Nat → Nat} {n : Nat} (hn : n < 8) (hβ : ∀ k, k < n → 97 ≤ β k ∧ β k ≤ 122) : pkB β n = 6710647 ↔ n = 3 ∧ β 0 = 102 ∧ β 1 = 101 ∧ β 2 = 119 := by
  have hc : n = 0 ∨ n = 1 ∨ n = 2 ∨ n = 3 ∨ n = 4 ∨ n = 5 ∨ n = 6 ∨ n = 7 := by omega
  rcases hc with rfl | rfl | rfl | rfl | rfl | rfl | rfl | rfl
  · show 0 = 6710647 ↔ _; omega
  · have h0 := hβ 0 (by decide); show 256 * (0) + β 0 = 6710647 ↔ _; omega
  · have h0 := hβ 0 (by decide); have h1 := hβ 1 (by decide); show 256 * (256 * (0) + β 0) + β 1 = 6710647 ↔ _; omega
  · have h0 := hβ 0 (by decide); have h1 := hβ 1 (by decide); have h2 := hβ 2 (by decide); show 256 * (256 * (256 * (0) + β 0) + β 1) + β 2 = 6710647 ↔ _; omega
  · have h0 := hβ 0 (by decide); have h1 := hβ 1 (by decide); have h2 := hβ 2 (by decide); have h3 := hβ 3 (by decide); show 256 * (256 * (256 * (256 * (0) + β 0) + β 1) + β 2) + β 3 = 6710647 ↔ _; omega
  · have h0 := hβ 0 (by decide); have h1 := hβ 1 (by decide); have h2 := hβ 2 (by decide); have h3 := hβ 3 (by decide); have h4 := hβ 4 (by decide); show 256 * (256 * (256 * (256 * (256 * (0) + β 0) + β 1) + β 2) + β 3) + β 4 = 6710647 ↔ _; omega
  · have h0 := hβ 0 (by decide); have h1 := hβ 1 (by decide); have h2 := hβ 2 (by decide); have h3 := hβ 3 (by decide); have h4 := hβ 4 (by decide); have h5 := hβ 5 (by decide); show 256 * (256 * (256 * (256 * (256 * (256 * (0) + β 0) + β 1) + β 2) + β 3) + β 4) + β 5 = 6710647 ↔ _; omega
  · have h0 := hβ 0 (by decide); have h1 := hβ 1 (by decide); have h2 := hβ 2 (by decide); have h3 := hβ 3 (by decide); have h4 := hβ 4 (by decide); have h5 := hβ 5 (by decide); have h6 := hβ 6 (by decide); show 256 * (256 * (256 * (256 * (256 * (256 * (256 * (0) + β 0) + β 1) + β 2) + β 3) + β 4) + β 5) + β 6 = 6710647 ↔ _; omega
theorem nm_7 (t : FN) (S p : Nat) (hp : p ≤ S) : nmS t S p = 6710647 ↔ isW t S p 7 := by
  have hst := stS_le (t := t) hp
  have hnx := nxS_le (t := t) hp
  unfold nmS isW wordS
  show _ ↔ tkS t S p = 1 ∧ nxS t S p - stS t S p = 3 ∧ ∀ k, k < 3 → t (stS t S p + k) = ([102, 101, 119] : List Int32).getD k 0
  by_cases e : tkS t S p = 1 ∧ nxS t S p - stS t S p < 8
  · rw [if_pos e]
    have hL : ∀ k, k < nxS t S p - stS t S p → pL (t (stS t S p + k)) := fun k hk => tk1_L e.1 _ (by omega) (by omega)
    have hβ : ∀ k, k < nxS t S p - stS t S p → 97 ≤ (iN (t (stS t S p + k)) % 256) ∧ (iN (t (stS t S p + k)) % 256) ≤ 122 := fun k hk => by have := pL_b (hL k hk); omega
    have hB := pk8_B (t := t) (s := stS t S p) (β := fun k => iN (t (stS t S p + k)) % 256) (m := nxS t S p - stS t S p) (fun k => Nat.mod_lt _ (by decide)) (fun k hk => by
      have := pL_b (hL k hk)
      rw [show iN (t (stS t S p + k)) % 256 = iN (t (stS t S p + k)) by omega]; exact this.1) _ (Nat.le_refl _)
    have hlt := pkB_lt (β := fun k => iN (t (stS t S p + k)) % 256) (fun k => Nat.mod_lt _ (by decide)) (nxS t S p - stS t S p)
    have hp7 : 256 ^ (nxS t S p - stS t S p) ≤ 256 ^ 7 := Nat.pow_le_pow_right (by decide) (by omega)
    rw [show (256 : Nat) ^ 7 = 72057594037927936 from rfl] at hp7
    have h1 : pk8 t (stS t S p) (nxS t S p - stS t S p) = 6710647 ↔ pkB (fun k => iN (t (stS t S p + k)) % 256) (nxS t S p - stS t S p) = 6710647 := by
      rw [← Int64.toBitVec_inj, hB]
      constructor
      · intro h
        have h2 := congrArg BitVec.toNat h
        rw [BitVec.toNat_ofNat, Nat.mod_eq_of_lt (by omega)] at h2
        exact h2
      · intro h; rw [h]; rfl
    rw [h1, pkB_7 e.2 hβ]
    constructor
    · rintro ⟨a0, a1, a2, a3⟩
      refine ⟨e.1, a0, fun k hk => ?_⟩
      have g := pL_b (hL k (by omega))
      have hk2 : k = 0 ∨ k = 1 ∨ k = 2 := by omega
      rw [g.1]
      rcases hk2 with rfl | rfl | rfl
      all_goals first | (rw [show iN (t (stS t S p + 0)) = 102 by omega]; rfl) | (rw [show iN (t (stS t S p + 1)) = 101 by omega]; rfl) | (rw [show iN (t (stS t S p + 2)) = 119 by omega]; rfl)
    · rintro ⟨-, a0, a1⟩
      refine ⟨a0, ?_, ?_, ?_⟩
      · show iN (t (stS t S p + 0)) % 256 = 102; rw [a1 0 (by decide)]; rfl
      · show iN (t (stS t S p + 1)) % 256 = 101; rw [a1 1 (by decide)]; rfl
      · show iN (t (stS t S p + 2)) % 256 = 119; rw [a1 2 (by decide)]; rfl
  · rw [if_neg e]
    refine ⟨fun h => absurd h (by decide), fun h => absurd ⟨h.1, by omega⟩ e⟩
def kbS (x : Int64) : Int32 := if x = 1836020596 then nI 1 else if x = 6710647 then nI 5 else if x = 1818848101 then nI 2 else if x = 1818326117 then nI 3 else if x = 1937006969 then nI 4 else -1000000
theorem kb_rd (t : FN) (S p : Nat) (hp : p ≤ S) : kbS (nmS t S p) = if rdSort t S p = 0 then -1000000 else nI (rdSort t S p) := by
  unfold rdSort
  by_cases h3 : isW t S p 3
  · rw [ifP_t h3, (nm_3 t S p hp).mpr h3]; decide
  by_cases h4 : isW t S p 4
  · rw [ifP_f h3, ifP_t h4, (nm_4 t S p hp).mpr h4]; decide
  by_cases h5 : isW t S p 5
  · rw [ifP_f h3, ifP_f h4, ifP_t h5, (nm_5 t S p hp).mpr h5]; decide
  by_cases h6 : isW t S p 6
  · rw [ifP_f h3, ifP_f h4, ifP_f h5, ifP_t h6, (nm_6 t S p hp).mpr h6]; decide
  by_cases h7 : isW t S p 7
  · rw [ifP_f h3, ifP_f h4, ifP_f h5, ifP_f h6, ifP_t h7, (nm_7 t S p hp).mpr h7]; decide
  · rw [ifP_f h3, ifP_f h4, ifP_f h5, ifP_f h6, ifP_f h7, if_pos rfl]
    unfold kbS
    rw [if_neg (fun h => h3 ((nm_3 t S p hp).mp h)), if_neg (fun h => h7 ((nm_7 t S p hp).mp h)), if_neg (fun h => h4 ((nm_4 t S p hp).mp h)), if_neg (fun h => h5 ((nm_5 t S p hp).mp h)), if_neg (fun h => h6 ((nm_6 t S p hp).mp h))]
set_option maxRecDepth 20000 in
set_option maxHeartbeats 4000000 in
theorem c_kindBy (E : EG) (x : Int64) : Ctr E mX8_kindBy (0, 0, 0) [.long x] ([]) (fun v w => v = some (.int (kbS x)) ∧ w = []) := by
  refine Ctr.of (by decide) (Nat.le_of_ble_eq_true rfl) ?_
  intro Z hO hn C
  have hlen : zn Z ≤ 0 := by rw [hn]; exact Nat.le_of_ble_eq_true rfl
  refine mr_lload_n C 1 dX8_kindBy_0 rfl rfl ?_
  refine mr_ldc2 C 4 dX8_kindBy_1 rfl kc_X8_138 ?_
  refine mr_lcmp C 5 dX8_kindBy_4 rfl ?_
  refine mr_ifne C 12 8 dX8_kindBy_5 (by decide) rfl (fun c_5 => ?_) (fun c_5 => ?_)
  · rw [Ne, lcmp_0] at c_5
    refine mr_lload_n C 13 dX8_kindBy_12 rfl rfl ?_
    refine mr_ldc2 C 16 dX8_kindBy_13 rfl kc_X8_140 ?_
    refine mr_lcmp C 17 dX8_kindBy_16 rfl ?_
    refine mr_ifne C 24 20 dX8_kindBy_17 (by decide) rfl (fun c_17 => ?_) (fun c_17 => ?_)
    · rw [Ne, lcmp_0] at c_17
      refine mr_lload_n C 25 dX8_kindBy_24 rfl rfl ?_
      refine mr_ldc2 C 28 dX8_kindBy_25 rfl kc_X8_142 ?_
      refine mr_lcmp C 29 dX8_kindBy_28 rfl ?_
      refine mr_ifne C 36 32 dX8_kindBy_29 (by decide) rfl (fun c_29 => ?_) (fun c_29 => ?_)
      · rw [Ne, lcmp_0] at c_29
        refine mr_lload_n C 37 dX8_kindBy_36 rfl rfl ?_
        refine mr_ldc2 C 40 dX8_kindBy_37 rfl kc_X8_144 ?_
        refine mr_lcmp C 41 dX8_kindBy_40 rfl ?_
        refine mr_ifne C 48 44 dX8_kindBy_41 (by decide) rfl (fun c_41 => ?_) (fun c_41 => ?_)
        · rw [Ne, lcmp_0] at c_41
          refine mr_lload_n C 49 dX8_kindBy_48 rfl rfl ?_
          refine mr_ldc2 C 52 dX8_kindBy_49 rfl kc_X8_146 ?_
          refine mr_lcmp C 53 dX8_kindBy_52 rfl ?_
          refine mr_ifne C 60 56 dX8_kindBy_53 (by decide) rfl (fun c_53 => ?_) (fun c_53 => ?_)
          · rw [Ne, lcmp_0] at c_53
            refine mr_ldc C 62 dX8_kindBy_60 rfl kc_X8_95 ?_
            refine mr_iret C dX8_kindBy_62 rfl rfl (by decide) (by decide) hlen ?_
            rw [hO]
            exact ⟨congrArg (fun z => some (Value.int z)) (((if_neg c_5).trans ((if_neg c_17).trans ((if_neg c_29).trans ((if_neg c_41).trans ((if_neg c_53).trans (rfl)))))).symm), rfl⟩
          · rw [lcmp_0] at c_53
            refine mr_iconst C (nI 4) 57 dX8_kindBy_56 rfl rfl ?_
            refine mr_goto C 62 dX8_kindBy_57 (by decide) ?_
            refine mr_iret C dX8_kindBy_62 rfl rfl (by decide) (by decide) hlen ?_
            rw [hO]
            exact ⟨congrArg (fun z => some (Value.int z)) (((if_neg c_5).trans ((if_neg c_17).trans ((if_neg c_29).trans ((if_neg c_41).trans (if_pos c_53))))).symm), rfl⟩
        · rw [lcmp_0] at c_41
          refine mr_iconst C (nI 3) 45 dX8_kindBy_44 rfl rfl ?_
          refine mr_goto C 62 dX8_kindBy_45 (by decide) ?_
          refine mr_iret C dX8_kindBy_62 rfl rfl (by decide) (by decide) hlen ?_
          rw [hO]
          exact ⟨congrArg (fun z => some (Value.int z)) (((if_neg c_5).trans ((if_neg c_17).trans ((if_neg c_29).trans (if_pos c_41)))).symm), rfl⟩
      · rw [lcmp_0] at c_29
        refine mr_iconst C (nI 2) 33 dX8_kindBy_32 rfl rfl ?_
        refine mr_goto C 62 dX8_kindBy_33 (by decide) ?_
        refine mr_iret C dX8_kindBy_62 rfl rfl (by decide) (by decide) hlen ?_
        rw [hO]
        exact ⟨congrArg (fun z => some (Value.int z)) (((if_neg c_5).trans ((if_neg c_17).trans (if_pos c_29))).symm), rfl⟩
    · rw [lcmp_0] at c_17
      refine mr_iconst C (nI 5) 21 dX8_kindBy_20 rfl rfl ?_
      refine mr_goto C 62 dX8_kindBy_21 (by decide) ?_
      refine mr_iret C dX8_kindBy_62 rfl rfl (by decide) (by decide) hlen ?_
      rw [hO]
      exact ⟨congrArg (fun z => some (Value.int z)) (((if_neg c_5).trans (if_pos c_17)).symm), rfl⟩
  · rw [lcmp_0] at c_5
    refine mr_iconst C (nI 1) 9 dX8_kindBy_8 rfl rfl ?_
    refine mr_goto C 62 dX8_kindBy_9 (by decide) ?_
    refine mr_iret C dX8_kindBy_62 rfl rfl (by decide) (by decide) hlen ?_
    rw [hO]
    exact ⟨congrArg (fun z => some (Value.int z)) ((if_pos c_5).symm), rfl⟩

theorem rdNum_un {t : FN} {S p : Nat} {lo hi un : Int32} (h : tkS t S p = 2 → vlS t S p ≠ un) (h0 : 0 ≤ lo) : rdNum t S p lo hi un = rdNum t S p lo hi (-1) := by
  unfold rdNum
  by_cases e : tkS t S p = 2
  · rw [if_pos e, if_pos e]
    have e2 : (vlS t S p < lo ∨ hi < vlS t S p ∨ vlS t S p = un) ↔ (vlS t S p < lo ∨ hi < vlS t S p ∨ vlS t S p = -1) := by
      constructor
      · rintro (k | k | k)
        · exact Or.inl k
        · exact Or.inr (Or.inl k)
        · exact absurd k (h e)
      · rintro (k | k | k)
        · exact Or.inl k
        · exact Or.inr (Or.inl k)
        · refine Or.inl ?_
          rw [k]; exact Int32.lt_of_lt_of_le (by decide) h0
    by_cases e3 : vlS t S p < lo ∨ hi < vlS t S p ∨ vlS t S p = un
    · rw [if_pos e3, if_pos (e2.mp e3)]
    · rw [if_neg e3, if_neg (fun k => e3 (e2.mpr k))]
  · rw [if_neg e, if_neg e]
set_option maxRecDepth 20000 in
set_option maxHeartbeats 4000000 in
theorem c_number (E : EG) (a : Nat → Nat) (tn st ac td lt fp gn gi gm tr : Int32) (la mn im ho fr wa tp wh go se no al be ik ke tc : FN) (t : FN) (S : Nat) (hS : S ≤ 400) (htp : ∀ j, j < S → tp j = t j) (hby : ∀ j, j < S → ∃ b, b < 256 ∧ t j = nI b) (p : Nat) (hp : p ≤ S) (lo hi : Int32) (hlo0 : 0 ≤ lo) : Ctr E mX8_number (5, 0, 0) [.ref (a 0), .int lo, .int hi] (wM E a tn st la mn im ho fr wa ac tp td lt ((nI S)) ((nI (nxS t S p))) ((nI (tkM (tkS t S p)))) ((nI (stS t S p))) ((nI (nxS t S p))) ((nI 0)) fp wh go se no al be gn gi gm ik ke tc tr) (fun v w => (∃ (k : Nat) (x : Int32), 0 < k ∧ k < 4 ∧ rdNum t S p lo hi (-1) = .inl (p, k) ∧ v = some (.int x) ∧ w = wM E a tn st la mn im ho fr wa ac tp td lt ((nI S)) ((nI (nxS t S p))) ((nI (tkM (tkS t S p)))) ((nI (stS t S p))) ((nI (nxS t S p))) ((nI k)) ((nI (stS t S p))) wh go se no al be gn gi gm ik ke tc tr) ∨ (rdNum t S p lo hi (-1) = .inr (nxS t S p) ∧ v = some (.int (vlS t S p)) ∧ w = wM E a tn st la mn im ho fr wa ac tp td lt ((nI S)) ((nI (nxS t S (nxS t S p)))) ((nI (tkM (tkS t S (nxS t S p))))) ((nI (stS t S (nxS t S p)))) ((nI (nxS t S (nxS t S p)))) ((nI 0)) fp wh go se no al be gn gi gm ik ke tc tr)) := by
  refine Ctr.of (by decide) (Nat.le_of_ble_eq_true rfl) ?_
  intro Z hO hn C
  have hlen : zn Z ≤ 17 := by rw [hn]; exact Nat.le_of_ble_eq_true rfl
  have htk := tkM_lt t S p
  have hst := stS_le (t := t) hp
  have hnx := nxS_le (t := t) hp
  refine mr_aload_n C 1 dX8_number_0 rfl rfl ?_
  refine mr_get C 0 4 dX8_number_1 rfl fl_X8_117 rfl rfl ?_
  refine mr_ifle C 9 7 dX8_number_4 (by decide) rfl (fun _ => ?_) (fun c_ => absurd (by decide) c_)
  refine mr_aload_n C 10 dX8_number_9 rfl rfl ?_
  refine mr_callV C (c_m_figures E a tn st ac td lt fp gn gi gm tr la mn im ho fr wa tp wh go se no al be ik ke tc t S hS htp hby p hp 0) [0, 1, 2, 3, 4, 5, 6, 7, 8, 9, 10, 11, 12, 13, 14, 15, 16] 0 8 13 dX8_number_10 rfl mk_X8_figures mi_X8_figures ml_X8_130 rfl rfl rfl rfl rfl (Nat.le_of_ble_eq_true rfl) (by decide) (by decide) (by decide) rfl rfl (fun r w1 hpost => ?_)
  obtain ⟨rfl, rfl⟩ := hpost
  refine mr_w (wput_all _ _ 17 rfl rfl) ?_
  refine mr_istore_n C 14 dX8_number_13 rfl rfl (by decide) ?_
  refine mr_aload_n C 15 dX8_number_14 rfl rfl ?_
  refine mr_get C 0 18 dX8_number_15 rfl fl_X8_105 rfl rfl ?_
  refine mr_iconst C (nI 3) 19 dX8_number_18 rfl rfl ?_
  refine mr_icmpne C 39 22 dX8_number_19 (by decide) rfl (fun c_19 => ?_) (fun c_19 => ?_)
  · rw [Ne, nI_eq (by omega) (by omega), tkM_is (by decide) (by decide)] at c_19
    refine mr_aload_n C 40 dX8_number_39 rfl rfl ?_
    refine mr_aload_n C 41 dX8_number_40 rfl rfl ?_
    refine mr_get C 0 44 dX8_number_41 rfl fl_X8_105 rfl rfl ?_
    refine mr_iconst C (nI 3) 45 dX8_number_44 rfl rfl ?_
    refine mr_icmpne C 52 48 dX8_number_45 (by decide) rfl (fun c_45 => ?_) (fun c_45 => ?_)
    · rw [Ne, nI_eq (by omega) (by omega), tkM_is (by decide) (by decide)] at c_45
      refine mr_iconst C (nI 0) 53 dX8_number_52 rfl rfl ?_
      refine mr_callV C (c_must0 E a tn st ac td lt fp gn gi gm tr la mn im ho fr wa tp wh go se no al be ik ke tc t S hS htp hby p hp) [0, 1, 2, 3, 4, 5, 6, 7, 8, 9, 10, 11, 12, 13, 14, 15, 16] 0 8 56 dX8_number_53 rfl mk_X8_must mi_X8_must ml_X8_134 rfl rfl rfl rfl rfl (Nat.le_of_ble_eq_true rfl) (by decide) (by decide) (by decide) rfl rfl (fun r w1 hpost => ?_)
      obtain ⟨rfl, rfl⟩ := hpost
      refine mr_w (wput_all _ _ 17 rfl rfl) ?_
      refine mr_iload_n C 57 dX8_number_56 rfl rfl ?_
      refine mr_iret C dX8_number_57 rfl rfl (by decide) (by decide) hlen ?_
      rw [hO]
      refine Or.inl ⟨1, _, by decide, by decide, ?_, rfl, rfl⟩
      unfold rdNum
      exact if_neg (by omega)
    · rw [nI_eq (by omega) (by omega), tkM_is (by decide) (by decide)] at c_45
      omega
  · rw [nI_eq (by omega) (by omega), tkM_is (by decide) (by decide)] at c_19
    refine mr_iload_n C 23 dX8_number_22 rfl rfl ?_
    refine mr_i2l C _ 24 dX8_number_23 rfl rfl ?_
    refine mr_iload_n C 25 dX8_number_24 rfl rfl ?_
    refine mr_i2l C _ 26 dX8_number_25 rfl rfl ?_
    refine mr_iload_n C 27 dX8_number_26 rfl rfl ?_
    refine mr_i2l C _ 28 dX8_number_27 rfl rfl ?_
    refine mr_callS C (c_inK E (if tkS t S p = 2 then vlS t S p else nI 0) (lo.toInt) (hi.toInt) _ _ (tL lo) (tL hi)) [] 31 dX8_number_28 rfl mk_X8_in ms_X8_in ml_X8_69 rfl rfl rfl rfl (Nat.le_of_ble_eq_true rfl) (by decide) (by decide) (by decide) (fun r w1 hpost => ?_)
    obtain ⟨rfl, rfl⟩ := hpost
    refine mr_w (ws' := wM E a tn st la mn im ho fr wa ac tp td lt (nI S) (nI (nxS t S p)) (nI (tkM (tkS t S p))) (nI (stS t S p)) (nI (nxS t S p)) (nI 0) fp wh go se no al be gn gi gm ik ke tc tr) rfl ?_
    refine mr_ifne C 39 34 dX8_number_31 (by decide) rfl (fun c_31 => ?_) (fun c_31 => ?_)
    · rw [bI_ne] at c_31
      refine mr_aload_n C 40 dX8_number_39 rfl rfl ?_
      refine mr_aload_n C 41 dX8_number_40 rfl rfl ?_
      refine mr_get C 0 44 dX8_number_41 rfl fl_X8_105 rfl rfl ?_
      refine mr_iconst C (nI 3) 45 dX8_number_44 rfl rfl ?_
      refine mr_icmpne C 52 48 dX8_number_45 (by decide) rfl (fun c_45 => ?_) (fun c_45 => ?_)
      · rw [Ne, nI_eq (by omega) (by omega), tkM_is (by decide) (by decide)] at c_45
        omega
      · rw [nI_eq (by omega) (by omega), tkM_is (by decide) (by decide)] at c_45
        refine mr_iconst C (nI 1) 49 dX8_number_48 rfl rfl ?_
        refine mr_goto C 53 dX8_number_49 (by decide) ?_
        refine mr_callV C (c_must1 E a tn st ac td lt fp gn gi gm tr la mn im ho fr wa tp wh go se no al be ik ke tc t S hS htp hby p hp) [0, 1, 2, 3, 4, 5, 6, 7, 8, 9, 10, 11, 12, 13, 14, 15, 16] 0 8 56 dX8_number_53 rfl mk_X8_must mi_X8_must ml_X8_134 rfl rfl rfl rfl rfl (Nat.le_of_ble_eq_true rfl) (by decide) (by decide) (by decide) rfl rfl (fun r w1 hpost => ?_)
        obtain ⟨rfl, rfl⟩ := hpost
        refine mr_w (wput_all _ _ 17 rfl rfl) ?_
        refine mr_iload_n C 57 dX8_number_56 rfl rfl ?_
        refine mr_iret C dX8_number_57 rfl rfl (by decide) (by decide) hlen ?_
        rw [hO]
        have h2 : tkS t S p = 2 := by omega
        rw [if_pos h2] at c_31 ⊢
        refine Or.inr ⟨?_, rfl, rfl⟩
        unfold rdNum
        rw [if_pos h2]
        refine if_neg ?_
        rw [Int32.lt_iff_toInt_lt, Int32.lt_iff_toInt_lt]
        have h0 := Int32.le_iff_toInt_le.mp hlo0
        rintro (k | k | k)
        · omega
        · omega
        · rw [k] at c_31; have h1 : (-1 : Int32).toInt = -1 := rfl; have h3 : (0 : Int32).toInt = 0 := rfl; omega
    · rw [bI_eq] at c_31
      refine mr_aload_n C 35 dX8_number_34 rfl rfl ?_
      refine mr_iconst C (nI 2) 36 dX8_number_35 rfl rfl ?_
      refine mr_callV C (c_m_bad E a tn st ac td lt (nI S) (nI (nxS t S p)) (nI (tkM (tkS t S p))) (nI (stS t S p)) (nI (nxS t S p)) fp gn gi gm tr la mn im ho fr wa tp wh go se no al be ik ke tc 2) [0, 1, 2, 3, 4, 5, 6, 7, 8, 9, 10, 11, 12, 13, 14, 15, 16] 0 8 39 dX8_number_36 rfl mk_X8_bad mi_X8_bad ml_X8_126 rfl rfl rfl rfl rfl (Nat.le_of_ble_eq_true rfl) (by decide) (by decide) (by decide) rfl rfl (fun r w1 hpost => ?_)
      obtain ⟨rfl, rfl⟩ := hpost
      refine mr_w (wput_all _ _ 17 rfl rfl) ?_
      refine mr_aload_n C 40 dX8_number_39 rfl rfl ?_
      refine mr_aload_n C 41 dX8_number_40 rfl rfl ?_
      refine mr_get C 0 44 dX8_number_41 rfl fl_X8_105 rfl rfl ?_
      refine mr_iconst C (nI 3) 45 dX8_number_44 rfl rfl ?_
      refine mr_icmpne C 52 48 dX8_number_45 (by decide) rfl (fun c_45 => ?_) (fun c_45 => ?_)
      · rw [Ne, nI_eq (by omega) (by omega), tkM_is (by decide) (by decide)] at c_45
        omega
      · rw [nI_eq (by omega) (by omega), tkM_is (by decide) (by decide)] at c_45
        refine mr_iconst C (nI 1) 49 dX8_number_48 rfl rfl ?_
        refine mr_goto C 53 dX8_number_49 (by decide) ?_
        refine mr_callV C (c_mustF E a tn st ac td lt ((nI (stS t S p))) gn gi gm tr la mn im ho fr wa tp wh go se no al be ik ke tc t S p 2 (by decide) (by decide)) [0, 1, 2, 3, 4, 5, 6, 7, 8, 9, 10, 11, 12, 13, 14, 15, 16] 0 8 56 dX8_number_53 rfl mk_X8_must mi_X8_must ml_X8_134 rfl rfl rfl rfl rfl (Nat.le_of_ble_eq_true rfl) (by decide) (by decide) (by decide) rfl rfl (fun r w1 hpost => ?_)
        obtain ⟨rfl, rfl⟩ := hpost
        refine mr_w (wput_all _ _ 17 rfl rfl) ?_
        refine mr_iload_n C 57 dX8_number_56 rfl rfl ?_
        refine mr_iret C dX8_number_57 rfl rfl (by decide) (by decide) hlen ?_
        rw [hO]
        refine Or.inl ⟨2, _, by decide, by decide, ?_, rfl, rfl⟩
        unfold rdNum
        have h2 : tkS t S p = 2 := by omega
        rw [if_pos h2] at c_31 ⊢
        refine if_pos ?_
        rw [Int32.lt_iff_toInt_lt, Int32.lt_iff_toInt_lt]
        omega

set_option maxRecDepth 20000 in
set_option maxHeartbeats 4000000 in
theorem c_numberF (E : EG) (a : Nat → Nat) (tn st ac td lt fp gn gi gm tr : Int32) (la mn im ho fr wa tp wh go se no al be ik ke tc : FN) (t : FN) (S p f : Nat) (hf0 : 0 < f) (hf : f < 4) (lo hi : Int32) : Ctr E mX8_number (5, 0, 0) [.ref (a 0), .int lo, .int hi] (wM E a tn st la mn im ho fr wa ac tp td lt ((nI S)) ((nI (nxS t S p))) ((nI (tkM (tkS t S p)))) ((nI (stS t S p))) ((nI (nxS t S p))) ((nI f)) fp wh go se no al be gn gi gm ik ke tc tr) (fun v w => v = some (.int (nI 0)) ∧ w = wM E a tn st la mn im ho fr wa ac tp td lt ((nI S)) ((nI (nxS t S p))) ((nI (tkM (tkS t S p)))) ((nI (stS t S p))) ((nI (nxS t S p))) ((nI f)) fp wh go se no al be gn gi gm ik ke tc tr) := by
  refine Ctr.of (by decide) (Nat.le_of_ble_eq_true rfl) ?_
  intro Z hO hn C
  have hlen : zn Z ≤ 17 := by rw [hn]; exact Nat.le_of_ble_eq_true rfl
  refine mr_aload_n C 1 dX8_number_0 rfl rfl ?_
  refine mr_get C 0 4 dX8_number_1 rfl fl_X8_117 rfl rfl ?_
  refine mr_ifle C 9 7 dX8_number_4 (by decide) rfl (fun c_4 => ?_) (fun c_4 => ?_)
  · exact absurd c_4 (nI_nle (by omega) (by omega))
  · refine mr_iconst C (nI 0) 8 dX8_number_7 rfl rfl ?_
    refine mr_iret C dX8_number_8 rfl rfl (by decide) (by decide) hlen ?_
    rw [hO]
    exact ⟨rfl, rfl⟩

set_option maxRecDepth 20000 in
set_option maxHeartbeats 4000000 in
theorem c_mustEnd (E : EG) (a : Nat → Nat) (tn st ac td lt fp gn gi gm tr : Int32) (la mn im ho fr wa tp wh go se no al be ik ke tc : FN) (t : FN) (S : Nat) (hS : S ≤ 400) (htp : ∀ j, j < S → tp j = t j) (hby : ∀ j, j < S → ∃ b, b < 256 ∧ t j = nI b) (p : Nat) (hp : p ≤ S) : Ctr E mX8_mustEnd (5, 0, 0) [.ref (a 0)] (wM E a tn st la mn im ho fr wa ac tp td lt ((nI S)) ((nI (nxS t S p))) ((nI (tkM (tkS t S p)))) ((nI (stS t S p))) ((nI (nxS t S p))) ((nI 0)) fp wh go se no al be gn gi gm ik ke tc tr) (fun v w => v = none ∧ ((rdEnd t S p = .inl (p, 1) ∧ w = wM E a tn st la mn im ho fr wa ac tp td lt ((nI S)) ((nI (nxS t S p))) ((nI (tkM (tkS t S p)))) ((nI (stS t S p))) ((nI (nxS t S p))) ((nI 1)) ((nI (stS t S p))) wh go se no al be gn gi gm ik ke tc tr) ∨ (rdEnd t S p = .inr (nxS t S p) ∧ w = wM E a tn st la mn im ho fr wa ac tp td lt ((nI S)) ((nI (nxS t S (nxS t S p)))) ((nI (tkM (tkS t S (nxS t S p))))) ((nI (stS t S (nxS t S p)))) ((nI (nxS t S (nxS t S p)))) ((nI 0)) fp wh go se no al be gn gi gm ik ke tc tr))) := by
  refine Ctr.of (by decide) (Nat.le_of_ble_eq_true rfl) ?_
  intro Z hO hn C
  have hlen : zn Z ≤ 17 := by rw [hn]; exact Nat.le_of_ble_eq_true rfl
  have htk := tkM_lt t S p
  have hst := stS_le (t := t) hp
  have hnx := nxS_le (t := t) hp
  refine mr_aload_n C 1 dX8_mustEnd_0 rfl rfl ?_
  refine mr_get C 0 4 dX8_mustEnd_1 rfl fl_X8_117 rfl rfl ?_
  refine mr_ifne C 24 7 dX8_mustEnd_4 (by decide) rfl (fun c_ => absurd (by decide) c_) (fun _ => ?_)
  refine mr_aload_n C 8 dX8_mustEnd_7 rfl rfl ?_
  refine mr_aload_n C 9 dX8_mustEnd_8 rfl rfl ?_
  refine mr_get C 0 12 dX8_mustEnd_9 rfl fl_X8_105 rfl rfl ?_
  refine mr_iconst C (nI 4) 13 dX8_mustEnd_12 rfl rfl ?_
  refine mr_icmpne C 20 16 dX8_mustEnd_13 (by decide) rfl (fun c_13 => ?_) (fun c_13 => ?_)
  · rw [Ne, nI_eq (by omega) (by omega), tkM_is (by decide) (by decide)] at c_13
    refine mr_iconst C (nI 0) 21 dX8_mustEnd_20 rfl rfl ?_
    refine mr_callV C (c_must0 E a tn st ac td lt fp gn gi gm tr la mn im ho fr wa tp wh go se no al be ik ke tc t S hS htp hby p hp) [0, 1, 2, 3, 4, 5, 6, 7, 8, 9, 10, 11, 12, 13, 14, 15, 16] 0 8 24 dX8_mustEnd_21 rfl mk_X8_must mi_X8_must ml_X8_134 rfl rfl rfl rfl rfl (Nat.le_of_ble_eq_true rfl) (by decide) (by decide) (by decide) rfl rfl (fun r w1 hpost => ?_)
    obtain ⟨rfl, rfl⟩ := hpost
    refine mr_w (wput_all _ _ 17 rfl rfl) ?_
    refine mr_vret C dX8_mustEnd_24 rfl (by decide) (by decide) hlen ?_
    rw [hO]
    refine ⟨rfl, ?_⟩
    refine Or.inl ⟨?_, rfl⟩
    unfold rdEnd
    exact if_neg (by omega)
  · rw [nI_eq (by omega) (by omega), tkM_is (by decide) (by decide)] at c_13
    refine mr_iconst C (nI 1) 17 dX8_mustEnd_16 rfl rfl ?_
    refine mr_goto C 21 dX8_mustEnd_17 (by decide) ?_
    refine mr_callV C (c_must1 E a tn st ac td lt fp gn gi gm tr la mn im ho fr wa tp wh go se no al be ik ke tc t S hS htp hby p hp) [0, 1, 2, 3, 4, 5, 6, 7, 8, 9, 10, 11, 12, 13, 14, 15, 16] 0 8 24 dX8_mustEnd_21 rfl mk_X8_must mi_X8_must ml_X8_134 rfl rfl rfl rfl rfl (Nat.le_of_ble_eq_true rfl) (by decide) (by decide) (by decide) rfl rfl (fun r w1 hpost => ?_)
    obtain ⟨rfl, rfl⟩ := hpost
    refine mr_w (wput_all _ _ 17 rfl rfl) ?_
    refine mr_vret C dX8_mustEnd_24 rfl (by decide) (by decide) hlen ?_
    rw [hO]
    refine ⟨rfl, ?_⟩
    refine Or.inr ⟨?_, rfl⟩
    unfold rdEnd
    exact if_pos (by omega)

set_option maxRecDepth 20000 in
set_option maxHeartbeats 4000000 in
theorem c_mustEndF (E : EG) (a : Nat → Nat) (tn st ac td lt fp gn gi gm tr : Int32) (la mn im ho fr wa tp wh go se no al be ik ke tc : FN) (t : FN) (S p f : Nat) (hf0 : 0 < f) (hf : f < 4) : Ctr E mX8_mustEnd (5, 0, 0) [.ref (a 0)] (wM E a tn st la mn im ho fr wa ac tp td lt ((nI S)) ((nI (nxS t S p))) ((nI (tkM (tkS t S p)))) ((nI (stS t S p))) ((nI (nxS t S p))) ((nI f)) fp wh go se no al be gn gi gm ik ke tc tr) (fun v w => v = none ∧ w = wM E a tn st la mn im ho fr wa ac tp td lt ((nI S)) ((nI (nxS t S p))) ((nI (tkM (tkS t S p)))) ((nI (stS t S p))) ((nI (nxS t S p))) ((nI f)) fp wh go se no al be gn gi gm ik ke tc tr) := by
  refine Ctr.of (by decide) (Nat.le_of_ble_eq_true rfl) ?_
  intro Z hO hn C
  have hlen : zn Z ≤ 17 := by rw [hn]; exact Nat.le_of_ble_eq_true rfl
  refine mr_aload_n C 1 dX8_mustEnd_0 rfl rfl ?_
  refine mr_get C 0 4 dX8_mustEnd_1 rfl fl_X8_117 rfl rfl ?_
  refine mr_ifne C 24 7 dX8_mustEnd_4 (by decide) rfl (fun c_4 => ?_) (fun c_4 => ?_)
  · refine mr_vret C dX8_mustEnd_24 rfl (by decide) (by decide) hlen ?_
    rw [hO]
    exact ⟨rfl, rfl⟩
  · exact absurd c_4 (nI_ne0 (by omega) (by omega))

set_option maxRecDepth 20000 in
set_option maxHeartbeats 4000000 in
theorem c_begins (E : EG) (a : Nat → Nat) (tn st ac td lt fp gn gi gm tr : Int32) (la mn im ho fr wa tp wh go se no al be ik ke tc : FN) (t : FN) (S : Nat) (hS : S ≤ 400) (htp : ∀ j, j < S → tp j = t j) (hby : ∀ j, j < S → ∃ b, b < 256 ∧ t j = nI b) (p : Nat) (hp : p ≤ S) (s x m : Nat) (hs : s < 37) (hx : fr s = nI x) (hx2 : x < 2 ^ 30) (hm : m < 2 ^ 30) : Ctr E mX8_begins (5, 0, 0) [.ref (a 0), .int (nI s), .int (nI m)] (wM E a tn st la mn im ho fr wa ac tp td lt ((nI S)) ((nI (nxS t S p))) ((nI (tkM (tkS t S p)))) ((nI (stS t S p))) ((nI (nxS t S p))) ((nI 0)) fp wh go se no al be gn gi gm ik ke tc tr) (fun v w => v = none ∧ ((x = m ∧ w = wM E a tn st la mn im ho fr wa ac tp td lt ((nI S)) ((nI (nxS t S p))) ((nI (tkM (tkS t S p)))) ((nI (stS t S p))) ((nI (nxS t S p))) ((nI 3)) ((nI (stS t S p))) wh go se no al be gn gi gm ik ke tc tr) ∨ (x ≠ m ∧ w = wM E a tn st la mn im ho fr wa ac tp td lt ((nI S)) ((nI (nxS t S (nxS t S p)))) ((nI (tkM (tkS t S (nxS t S p))))) ((nI (stS t S (nxS t S p)))) ((nI (nxS t S (nxS t S p)))) ((nI 0)) fp wh go se no al be gn gi gm ik ke tc tr))) := by
  refine Ctr.of (by decide) (Nat.le_of_ble_eq_true rfl) ?_
  intro Z hO hn C
  have hlen : zn Z ≤ 17 := by rw [hn]; exact Nat.le_of_ble_eq_true rfl
  refine mr_aload_n C 1 dX8_begins_0 rfl rfl ?_
  refine mr_get C 0 4 dX8_begins_1 rfl fl_X8_22 rfl rfl ?_
  refine mr_iload_n C 5 dX8_begins_4 rfl rfl ?_
  refine mr_iale C 5 s (nI x) 6 dX8_begins_5 rfl rfl rfl (by omega) (by decide) hx ?_
  refine mr_iload_n C 7 dX8_begins_6 rfl rfl ?_
  refine mr_icmpne C 15 10 dX8_begins_7 (by decide) rfl (fun c_7 => ?_) (fun c_7 => ?_)
  · rw [Ne, nI_eq (by omega) (by omega)] at c_7
    refine mr_aload_n C 16 dX8_begins_15 rfl rfl ?_
    refine mr_iconst C (nI 1) 17 dX8_begins_16 rfl rfl ?_
    refine mr_callV C (c_must1 E a tn st ac td lt fp gn gi gm tr la mn im ho fr wa tp wh go se no al be ik ke tc t S hS htp hby p hp) [0, 1, 2, 3, 4, 5, 6, 7, 8, 9, 10, 11, 12, 13, 14, 15, 16] 0 8 20 dX8_begins_17 rfl mk_X8_must mi_X8_must ml_X8_134 rfl rfl rfl rfl rfl (Nat.le_of_ble_eq_true rfl) (by decide) (by decide) (by decide) rfl rfl (fun r w1 hpost => ?_)
    obtain ⟨rfl, rfl⟩ := hpost
    refine mr_w (wput_all _ _ 17 rfl rfl) ?_
    refine mr_vret C dX8_begins_20 rfl (by decide) (by decide) hlen ?_
    rw [hO]
    refine ⟨rfl, Or.inr ⟨c_7, rfl⟩⟩
  · rw [nI_eq (by omega) (by omega)] at c_7
    refine mr_aload_n C 11 dX8_begins_10 rfl rfl ?_
    refine mr_iconst C (nI 3) 12 dX8_begins_11 rfl rfl ?_
    refine mr_callV C (c_m_bad E a tn st ac td lt (nI S) (nI (nxS t S p)) (nI (tkM (tkS t S p))) (nI (stS t S p)) (nI (nxS t S p)) fp gn gi gm tr la mn im ho fr wa tp wh go se no al be ik ke tc 3) [0, 1, 2, 3, 4, 5, 6, 7, 8, 9, 10, 11, 12, 13, 14, 15, 16] 0 8 15 dX8_begins_12 rfl mk_X8_bad mi_X8_bad ml_X8_126 rfl rfl rfl rfl rfl (Nat.le_of_ble_eq_true rfl) (by decide) (by decide) (by decide) rfl rfl (fun r w1 hpost => ?_)
    obtain ⟨rfl, rfl⟩ := hpost
    refine mr_w (wput_all _ _ 17 rfl rfl) ?_
    refine mr_aload_n C 16 dX8_begins_15 rfl rfl ?_
    refine mr_iconst C (nI 1) 17 dX8_begins_16 rfl rfl ?_
    refine mr_callV C (c_mustF E a tn st ac td lt ((nI (stS t S p))) gn gi gm tr la mn im ho fr wa tp wh go se no al be ik ke tc t S p 3 (by decide) (by decide)) [0, 1, 2, 3, 4, 5, 6, 7, 8, 9, 10, 11, 12, 13, 14, 15, 16] 0 8 20 dX8_begins_17 rfl mk_X8_must mi_X8_must ml_X8_134 rfl rfl rfl rfl rfl (Nat.le_of_ble_eq_true rfl) (by decide) (by decide) (by decide) rfl rfl (fun r w1 hpost => ?_)
    obtain ⟨rfl, rfl⟩ := hpost
    refine mr_w (wput_all _ _ 17 rfl rfl) ?_
    refine mr_vret C dX8_begins_20 rfl (by decide) (by decide) hlen ?_
    rw [hO]
    refine ⟨rfl, Or.inl ⟨c_7, rfl⟩⟩

