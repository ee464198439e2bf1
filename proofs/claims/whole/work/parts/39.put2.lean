/-! a callee's two chunks put back -/
theorem wput_two : ∀ (is1 is2 : List Nat) (ws w1 w2 : va_W), w1.length = is1.length → wput ws (is1 ++ is2) (w1 ++ w2) = wput (wput ws is1 w1) is2 w2
  | [], is2, ws, w1, w2, h => by
    obtain rfl : w1 = [] := List.length_eq_zero_iff.mp h
    show wput ws is2 w2 = wput (ws ++ []) is2 w2
    rw [List.append_nil]
  | i :: is1, is2, ws, [], w2, h => by simp at h
  | i :: is1, is2, ws, c :: w1, w2, h => by
    show wput (ws.set i c) (is1 ++ is2) (w1 ++ w2) = wput (wput (ws.set i c) is1 w1) is2 w2
    exact wput_two is1 is2 (ws.set i c) w1 w2 (by simpa using h)
theorem wput_last (A B C w1 : va_W) (h : w1.length = C.length) : wput (A ++ (B ++ C)) (List.range' (A.length + B.length) C.length) w1 = A ++ (B ++ w1) := by
  have e := wput_mid C (A ++ B) [] w1 h
  rw [List.append_nil, List.append_nil, List.append_assoc, List.append_assoc, List.length_append] at e
  exact e
theorem wput_swap (A B C C1 B1 : va_W) (h1 : C1.length = C.length) (h2 : B1.length = B.length) : wput (A ++ (B ++ C)) (List.range' (A.length + B.length) C.length ++ List.range' A.length B.length) (C1 ++ B1) = A ++ (B1 ++ C1) := by
  rw [wput_two _ _ _ _ _ (by rw [List.length_range']; exact h1), wput_last A B C C1 h1, wput_mid B A C1 B1 h2]
theorem wput_outer (A B C A1 C1 : va_W) (h1 : A1.length = A.length) (h2 : C1.length = C.length) : wput (A ++ (B ++ C)) (List.range' 0 A.length ++ List.range' (A.length + B.length) C.length) (A1 ++ C1) = A1 ++ (B ++ C1) := by
  have e := wput_mid A [] (B ++ C) A1 h1
  rw [List.nil_append, List.nil_append, List.length_nil] at e
  rw [wput_two _ _ _ _ _ (by rw [List.length_range']; exact h1), e, ← h1, wput_last A1 B C C1 h2]
