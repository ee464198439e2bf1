/-! a callee's world put back, by chunks -/
theorem set_mid : ∀ (A : va_W) (b c : Nat × va_E) (D : va_W), (A ++ b :: D).set A.length c = A ++ c :: D
  | [], _, _, _ => rfl
  | x :: A, b, c, D => by
    show x :: ((A ++ b :: D).set A.length c) = x :: (A ++ c :: D)
    rw [set_mid A b c D]
theorem wput_mid : ∀ (B A C w1 : va_W), w1.length = B.length → wput (A ++ (B ++ C)) (List.range' A.length B.length) w1 = A ++ (w1 ++ C)
  | [], A, C, w1, h => by
    obtain rfl : w1 = [] := List.length_eq_zero_iff.mp h
    show wput (A ++ C) [] [] = A ++ C
    unfold wput
    exact List.append_nil _
  | b :: B, A, C, [], h => by simp at h
  | b :: B, A, C, c :: w1, h => by
    have h2 : w1.length = B.length := by simpa using h
    have h3 : (A ++ [c]).length = A.length + 1 := by simp
    show wput (A ++ (b :: (B ++ C))) (A.length :: List.range' (A.length + 1) B.length) (c :: w1) = _
    unfold wput
    rw [set_mid, show A ++ c :: (B ++ C) = (A ++ [c]) ++ (B ++ C) by simp, ← h3, wput_mid B (A ++ [c]) C w1 h2]
    simp
theorem wput_all (ws w1 : va_W) (n : Nat) (hn : ws.length = n) (h : w1.length = n) : wput ws (List.range' 0 n) w1 = w1 := by
  have e := wput_mid ws [] [] w1 (h.trans hn.symm)
  rw [List.nil_append, List.append_nil, List.nil_append, List.append_nil, hn] at e
  exact e
theorem cut_mid (A B C : va_W) : CUT (A ++ (B ++ C)) (List.range' A.length B.length) B := by
  unfold CUT
  apply List.ext_getElem?
  intro i
  rw [List.getElem?_map, List.getElem?_map]
  by_cases h : i < B.length
  · rw [List.getElem?_range' h]
    simp only [Option.map_some]
    rw [List.getElem?_append_right (by omega), show A.length + 1 * i - A.length = i by omega, List.getElem?_append_left h]
    rw [List.getElem?_eq_getElem h]; rfl
  · rw [List.getElem?_eq_none (by rw [List.length_range']; omega), List.getElem?_eq_none (by omega)]; rfl
theorem nd_range : ∀ (n a : Nat), va_nd (List.range' a n) = true
  | 0, _ => rfl
  | n + 1, a => by
    show (decide (a ∉ List.range' (a + 1) n) && va_nd (List.range' (a + 1) n)) = true
    rw [nd_range n (a + 1), Bool.and_true, decide_eq_true_eq]
    intro h
    have := List.mem_range'_1.mp h
    omega
