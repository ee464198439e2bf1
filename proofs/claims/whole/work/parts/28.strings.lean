/-! String.length, String.charAt of the constant texts -/
def RJ0 : String := "java/lang/String"
abbrev cJ0_length_8abf5 : ByteArray := prog_12_method_54_code
def yJ0_length_8abf5 : MethodName := ⟨RJ0, "length", "()I"⟩
abbrev cJ0_charAt_5068e : ByteArray := prog_12_method_56_code
def yJ0_charAt_5068e : MethodName := ⟨RJ0, "charAt", "(I)C"⟩
abbrev cJ0_coder_7d493 : ByteArray := prog_12_method_152_code
def yJ0_coder_7d493 : MethodName := ⟨RJ0, "coder", "()B"⟩
abbrev cJ0_isLatin1_aae02 : ByteArray := prog_12_method_154_code
def yJ0_isLatin1_aae02 : MethodName := ⟨RJ0, "isLatin1", "()Z"⟩
abbrev cJ0_checkIndex_df160 : ByteArray := prog_12_method_155_code
def yJ0_checkIndex_df160 : MethodName := ⟨RJ0, "checkIndex", "(II)V"⟩
def RJ1 : String := "java/lang/StringLatin1"
abbrev cJ1_charAt_3b067 : ByteArray := prog_13_method_2_code
def yJ1_charAt_3b067 : MethodName := ⟨RJ1, "charAt", "([BI)C"⟩
def RJ3 : String := "jdk/internal/util/Preconditions"
abbrev cJ3_checkIndex_8e157 : ByteArray := prog_16_method_11_code
def yJ3_checkIndex_8e157 : MethodName := ⟨RJ3, "checkIndex", "(IILjava/util/function/BiFunction;)I"⟩
theorem dJ0_length_8abf5_0 : decode cJ0_length_8abf5 0 = .ok (.aload_n 0, 1) := by decide +kernel
theorem dJ0_length_8abf5_1 : decode cJ0_length_8abf5 1 = .ok (.getfield 9, 3) := by decide +kernel
theorem dJ0_length_8abf5_4 : decode cJ0_length_8abf5 4 = .ok (.arraylength, 1) := by decide +kernel
theorem dJ0_length_8abf5_5 : decode cJ0_length_8abf5 5 = .ok (.aload_n 0, 1) := by decide +kernel
theorem dJ0_length_8abf5_6 : decode cJ0_length_8abf5 6 = .ok (.invokevirtual 335, 3) := by decide +kernel
theorem dJ0_length_8abf5_9 : decode cJ0_length_8abf5 9 = .ok (.ishr, 1) := by decide +kernel
theorem dJ0_length_8abf5_10 : decode cJ0_length_8abf5 10 = .ok (.ireturn, 1) := by decide +kernel
theorem dJ0_charAt_5068e_0 : decode cJ0_charAt_5068e 0 = .ok (.aload_n 0, 1) := by decide +kernel
theorem dJ0_charAt_5068e_1 : decode cJ0_charAt_5068e 1 = .ok (.invokevirtual 492, 3) := by decide +kernel
theorem dJ0_charAt_5068e_4 : decode cJ0_charAt_5068e 4 = .ok (.ifCond .eq 12, 3) := by decide +kernel
theorem dJ0_charAt_5068e_7 : decode cJ0_charAt_5068e 7 = .ok (.aload_n 0, 1) := by decide +kernel
theorem dJ0_charAt_5068e_8 : decode cJ0_charAt_5068e 8 = .ok (.getfield 9, 3) := by decide +kernel
theorem dJ0_charAt_5068e_11 : decode cJ0_charAt_5068e 11 = .ok (.iload_n 1, 1) := by decide +kernel
theorem dJ0_charAt_5068e_12 : decode cJ0_charAt_5068e 12 = .ok (.invokestatic 495, 3) := by decide +kernel
theorem dJ0_charAt_5068e_15 : decode cJ0_charAt_5068e 15 = .ok (.ireturn, 1) := by decide +kernel
theorem dJ0_charAt_5068e_16 : decode cJ0_charAt_5068e 16 = .ok (.aload_n 0, 1) := by decide +kernel
theorem dJ0_charAt_5068e_17 : decode cJ0_charAt_5068e 17 = .ok (.getfield 9, 3) := by decide +kernel
theorem dJ0_charAt_5068e_20 : decode cJ0_charAt_5068e 20 = .ok (.iload_n 1, 1) := by decide +kernel
theorem dJ0_charAt_5068e_21 : decode cJ0_charAt_5068e 21 = .ok (.invokestatic 498, 3) := by decide +kernel
theorem dJ0_charAt_5068e_24 : decode cJ0_charAt_5068e 24 = .ok (.ireturn, 1) := by decide +kernel
theorem dJ0_coder_7d493_0 : decode cJ0_coder_7d493 0 = .ok (.getstatic 38, 3) := by decide +kernel
theorem dJ0_coder_7d493_3 : decode cJ0_coder_7d493 3 = .ok (.ifCond .eq 10, 3) := by decide +kernel
theorem dJ0_coder_7d493_6 : decode cJ0_coder_7d493 6 = .ok (.aload_n 0, 1) := by decide +kernel
theorem dJ0_coder_7d493_7 : decode cJ0_coder_7d493 7 = .ok (.getfield 15, 3) := by decide +kernel
theorem dJ0_coder_7d493_10 : decode cJ0_coder_7d493 10 = .ok (.goto 4, 3) := by decide +kernel
theorem dJ0_coder_7d493_13 : decode cJ0_coder_7d493 13 = .ok (.iconst 1, 1) := by decide +kernel
theorem dJ0_coder_7d493_14 : decode cJ0_coder_7d493 14 = .ok (.ireturn, 1) := by decide +kernel
theorem dJ0_isLatin1_aae02_0 : decode cJ0_isLatin1_aae02 0 = .ok (.getstatic 38, 3) := by decide +kernel
theorem dJ0_isLatin1_aae02_3 : decode cJ0_isLatin1_aae02 3 = .ok (.ifCond .eq 14, 3) := by decide +kernel
theorem dJ0_isLatin1_aae02_6 : decode cJ0_isLatin1_aae02 6 = .ok (.aload_n 0, 1) := by decide +kernel
theorem dJ0_isLatin1_aae02_7 : decode cJ0_isLatin1_aae02 7 = .ok (.getfield 15, 3) := by decide +kernel
theorem dJ0_isLatin1_aae02_10 : decode cJ0_isLatin1_aae02 10 = .ok (.ifCond .ne 7, 3) := by decide +kernel
theorem dJ0_isLatin1_aae02_13 : decode cJ0_isLatin1_aae02 13 = .ok (.iconst 1, 1) := by decide +kernel
theorem dJ0_isLatin1_aae02_14 : decode cJ0_isLatin1_aae02 14 = .ok (.goto 4, 3) := by decide +kernel
theorem dJ0_isLatin1_aae02_17 : decode cJ0_isLatin1_aae02 17 = .ok (.iconst 0, 1) := by decide +kernel
theorem dJ0_isLatin1_aae02_18 : decode cJ0_isLatin1_aae02 18 = .ok (.ireturn, 1) := by decide +kernel
theorem dJ0_checkIndex_df160_0 : decode cJ0_checkIndex_df160 0 = .ok (.iload_n 0, 1) := by decide +kernel
theorem dJ0_checkIndex_df160_1 : decode cJ0_checkIndex_df160 1 = .ok (.iload_n 1, 1) := by decide +kernel
theorem dJ0_checkIndex_df160_2 : decode cJ0_checkIndex_df160 2 = .ok (.getstatic 1053, 3) := by decide +kernel
theorem dJ0_checkIndex_df160_5 : decode cJ0_checkIndex_df160 5 = .ok (.invokestatic 1059, 3) := by decide +kernel
theorem dJ0_checkIndex_df160_8 : decode cJ0_checkIndex_df160 8 = .ok (.pop, 1) := by decide +kernel
theorem dJ0_checkIndex_df160_9 : decode cJ0_checkIndex_df160 9 = .ok (.return_, 1) := by decide +kernel
theorem dJ1_charAt_3b067_0 : decode cJ1_charAt_3b067 0 = .ok (.iload_n 1, 1) := by decide +kernel
theorem dJ1_charAt_3b067_1 : decode cJ1_charAt_3b067 1 = .ok (.aload_n 0, 1) := by decide +kernel
theorem dJ1_charAt_3b067_2 : decode cJ1_charAt_3b067 2 = .ok (.arraylength, 1) := by decide +kernel
theorem dJ1_charAt_3b067_3 : decode cJ1_charAt_3b067 3 = .ok (.invokestatic 9, 3) := by decide +kernel
theorem dJ1_charAt_3b067_6 : decode cJ1_charAt_3b067 6 = .ok (.aload_n 0, 1) := by decide +kernel
theorem dJ1_charAt_3b067_7 : decode cJ1_charAt_3b067 7 = .ok (.iload_n 1, 1) := by decide +kernel
theorem dJ1_charAt_3b067_8 : decode cJ1_charAt_3b067 8 = .ok (.baload, 1) := by decide +kernel
theorem dJ1_charAt_3b067_9 : decode cJ1_charAt_3b067 9 = .ok (.sipush 255, 3) := by decide +kernel
theorem dJ1_charAt_3b067_12 : decode cJ1_charAt_3b067 12 = .ok (.iand, 1) := by decide +kernel
theorem dJ1_charAt_3b067_13 : decode cJ1_charAt_3b067 13 = .ok (.i2c, 1) := by decide +kernel
theorem dJ1_charAt_3b067_14 : decode cJ1_charAt_3b067 14 = .ok (.ireturn, 1) := by decide +kernel
theorem dJ3_checkIndex_8e157_0 : decode cJ3_checkIndex_8e157 0 = .ok (.iload_n 0, 1) := by decide +kernel
theorem dJ3_checkIndex_8e157_1 : decode cJ3_checkIndex_8e157 1 = .ok (.ifCond .lt 8, 3) := by decide +kernel
theorem dJ3_checkIndex_8e157_4 : decode cJ3_checkIndex_8e157 4 = .ok (.iload_n 0, 1) := by decide +kernel
theorem dJ3_checkIndex_8e157_5 : decode cJ3_checkIndex_8e157 5 = .ok (.iload_n 1, 1) := by decide +kernel
theorem dJ3_checkIndex_8e157_6 : decode cJ3_checkIndex_8e157 6 = .ok (.if_icmp .lt 10, 3) := by decide +kernel
theorem dJ3_checkIndex_8e157_9 : decode cJ3_checkIndex_8e157 9 = .ok (.aload_n 2, 1) := by decide +kernel
theorem dJ3_checkIndex_8e157_10 : decode cJ3_checkIndex_8e157 10 = .ok (.iload_n 0, 1) := by decide +kernel
theorem dJ3_checkIndex_8e157_11 : decode cJ3_checkIndex_8e157 11 = .ok (.iload_n 1, 1) := by decide +kernel
theorem dJ3_checkIndex_8e157_12 : decode cJ3_checkIndex_8e157 12 = .ok (.invokestatic 95, 3) := by decide +kernel
theorem dJ3_checkIndex_8e157_15 : decode cJ3_checkIndex_8e157 15 = .ok (.athrow, 1) := by decide +kernel
theorem dJ3_checkIndex_8e157_16 : decode cJ3_checkIndex_8e157 16 = .ok (.iload_n 0, 1) := by decide +kernel
theorem dJ3_checkIndex_8e157_17 : decode cJ3_checkIndex_8e157 17 = .ok (.ireturn, 1) := by decide +kernel
abbrev mJ0_length_8abf5 : MD := (yJ0_length_8abf5, cJ0_length_8abf5, 1, (some .int))
theorem mk_J0_length_8abf5 : MK mJ0_length_8abf5 0 := ⟨gw_mem (by decide +kernel) rfl, gw_mem (by decide +kernel) rfl, by decide +kernel, by decide +kernel, by decide +kernel⟩
abbrev mJ0_charAt_5068e : MD := (yJ0_charAt_5068e, cJ0_charAt_5068e, 2, (some .char))
theorem mk_J0_charAt_5068e : MK mJ0_charAt_5068e 1 := ⟨gw_mem (by decide +kernel) rfl, gw_mem (by decide +kernel) rfl, by decide +kernel, by decide +kernel, by decide +kernel⟩
abbrev mJ0_coder_7d493 : MD := (yJ0_coder_7d493, cJ0_coder_7d493, 1, (some .byte))
theorem mk_J0_coder_7d493 : MK mJ0_coder_7d493 0 := ⟨gw_mem (by decide +kernel) rfl, gw_mem (by decide +kernel) rfl, by decide +kernel, by decide +kernel, by decide +kernel⟩
abbrev mJ0_isLatin1_aae02 : MD := (yJ0_isLatin1_aae02, cJ0_isLatin1_aae02, 1, (some .boolean))
theorem mk_J0_isLatin1_aae02 : MK mJ0_isLatin1_aae02 0 := ⟨gw_mem (by decide +kernel) rfl, gw_mem (by decide +kernel) rfl, by decide +kernel, by decide +kernel, by decide +kernel⟩
abbrev mJ0_checkIndex_df160 : MD := (yJ0_checkIndex_df160, cJ0_checkIndex_df160, 2, (none))
theorem mk_J0_checkIndex_df160 : MK mJ0_checkIndex_df160 2 := ⟨gw_mem (by decide +kernel) rfl, gw_mem (by decide +kernel) rfl, by decide +kernel, by decide +kernel, by decide +kernel⟩
abbrev mJ1_charAt_3b067 : MD := (yJ1_charAt_3b067, cJ1_charAt_3b067, 2, (some .char))
theorem mk_J1_charAt_3b067 : MK mJ1_charAt_3b067 2 := ⟨gw_mem (by decide +kernel) rfl, gw_mem (by decide +kernel) rfl, by decide +kernel, by decide +kernel, by decide +kernel⟩
abbrev mJ3_checkIndex_8e157 : MD := (yJ3_checkIndex_8e157, cJ3_checkIndex_8e157, 3, (some .int))
theorem mk_J3_checkIndex_8e157 : MK mJ3_checkIndex_8e157 3 := ⟨gw_mem (by decide +kernel) rfl, gw_mem (by decide +kernel) rfl, by decide +kernel, by decide +kernel, by decide +kernel⟩
theorem mi_J0_length_8abf5 : MKi mJ0_length_8abf5 := ⟨gw_mem (by decide +kernel) rfl, gw_mem (by decide +kernel) rfl⟩
theorem mi_J0_charAt_5068e : MKi mJ0_charAt_5068e := ⟨gw_mem (by decide +kernel) rfl, gw_mem (by decide +kernel) rfl⟩
theorem mi_J0_coder_7d493 : MKi mJ0_coder_7d493 := ⟨gw_mem (by decide +kernel) rfl, gw_mem (by decide +kernel) rfl⟩
theorem mi_J0_isLatin1_aae02 : MKi mJ0_isLatin1_aae02 := ⟨gw_mem (by decide +kernel) rfl, gw_mem (by decide +kernel) rfl⟩
theorem ms_J0_checkIndex_df160 : Cond.static yJ0_checkIndex_df160 ∈ gw := gw_mem (by decide +kernel) rfl
theorem ms_J1_charAt_3b067 : Cond.static yJ1_charAt_3b067 ∈ gw := gw_mem (by decide +kernel) rfl
theorem ms_J3_checkIndex_8e157 : Cond.static yJ3_checkIndex_8e157 ∈ gw := gw_mem (by decide +kernel) rfl
theorem ml_J0_335 : Cond.methodLink RJ0 335 yJ0_coder_7d493 ∈ gw := gw_mem (by decide +kernel) rfl
theorem ml_J0_492 : Cond.methodLink RJ0 492 yJ0_isLatin1_aae02 ∈ gw := gw_mem (by decide +kernel) rfl
theorem ml_J0_495 : Cond.methodLink RJ0 495 yJ1_charAt_3b067 ∈ gw := gw_mem (by decide +kernel) rfl
theorem ml_J1_9 : Cond.methodLink RJ1 9 yJ0_checkIndex_df160 ∈ gw := gw_mem (by decide +kernel) rfl
theorem ml_J0_1059 : Cond.methodLink RJ0 1059 yJ3_checkIndex_8e157 ∈ gw := gw_mem (by decide +kernel) rfl
theorem fj_38 : Cond.fieldLink RJ0 38 "java/lang/String" "COMPACT_STRINGS" "Z" ∈ gw := gw_mem (by decide +kernel) rfl
theorem fj_15 : Cond.fieldLink RJ0 15 "java/lang/String" "coder" "B" ∈ gw := gw_mem (by decide +kernel) rfl
theorem fj_9 : Cond.fieldLink RJ0 9 "java/lang/String" "value" "[B" ∈ gw := gw_mem (by decide +kernel) rfl
theorem fj_1053 : Cond.fieldLink RJ0 1053 "jdk/internal/util/Preconditions" "SIOOBE_FORMATTER" "Ljava/util/function/BiFunction;" ∈ gw := gw_mem (by decide +kernel) rfl
theorem sLen : ∀ i, i < 8 → lenS.getD i 0 = (bytS.getD i []).length ∧ lenS.getD i 0 < 6 := by decide +kernel
theorem sByt : ∀ i, i < 8 → ∀ k, k < 6 → (((bytS.getD i []).getD k 0 &&& 255).toUInt32 % 65536).toInt32 = (bytS.getD i []).getD k 0 := by decide +kernel
theorem sNar : ∀ i, i < 8 → ∀ k, k < 6 → narrow .char (.int ((bytS.getD i []).getD k 0)) = .int ((bytS.getD i []).getD k 0) := by decide +kernel
section STR
variable {E : EG} {M : MD} {q : RQ} {Z : ZX} {k n pc : Nat} {ws : va_W} {ls : List (Nat × Value)} {st : List Value}
theorem mr_gets (C : CX E M q Z) {c0 n0 d0 : String} {v : Value} {i : Nat} (pc' : Nat) (d : decode M.2.1 pc = .ok (.getstatic i, 3)) (hp : pc + 3 = pc') (hZ : va_Z c0 n0 d0 v (zA Z) (zs Z) (zs Z).heap) (hlk : Cond.fieldLink M.1.cls i c0 n0 d0 ∈ gw) (kk : V E M q Z k n ws ls (v :: st) pc') : V E M q Z k n ws ls st pc := by
  subst hp
  exact fun H locs lv hP hD hS hl => va_gets C.1 C.2.1 hZ hS C.2.2.2.2.1 (C.2.2.2.2.2.1 _ hlk) (fun _ h9 => h9) d (kk H locs lv hP hD hS hl)
theorem mr_strf (C : CX E M q Z) {n0 d0 : String} {v : Value} {t i : Nat} (pc' : Nat) (d : decode M.2.1 pc = .ok (.getfield i, 3)) (hp : pc + 3 = pc') (hE : va_OF "java/lang/String" n0 d0 v t (zA Z) (zs Z) (zs Z).heap) (hlk : Cond.fieldLink M.1.cls i "java/lang/String" n0 d0 ∈ gw) (kk : V E M q Z k n ws ls (v :: st) pc') : V E M q Z k n ws ls (.ref t :: st) pc := by
  subst hp
  exact fun H locs lv hP hD hS hl => vk_getf C.1 C.2.1 hE hS C.2.2.2.2.1 (C.2.2.2.2.2.1 _ hlk) (fun _ h9 => h9) d (kk H locs lv hP hD hS hl)
theorem mr_tlen (C : CX E M q Z) {ty : FieldType} {t N : Nat} {f : Nat → Value} (pc' : Nat) (d : decode M.2.1 pc = .ok (.arraylength, 1)) (hp : pc + 1 = pc') (hT : va_T ty t N f (zA Z) (zs Z) (zs Z).heap) (kk : V E M q Z k n ws ls (.int (nI N) :: st) pc') : V E M q Z k n ws ls (.ref t :: st) pc := by
  subst hp
  exact fun H locs lv hP hD hS hl => va_tlen C.1 C.2.1 hT hS rfl d (kk H locs lv hP hD hS hl)
theorem mr_tbyte (C : CX E M q Z) {t N j : Nat} {f : Nat → Value} {x : Int32} {v : Value} (pc' : Nat) (d : decode M.2.1 pc = .ok (.baload, 1)) (hp : pc + 1 = pc') (hT : va_T .byte t N f (zA Z) (zs Z) (zs Z).heap) (hx : x = nI j) (hj : j < N) (hN : N < 2 ^ 31) (hv : f j = v) (kk : V E M q Z k n ws ls (v :: st) pc') : V E M q Z k n ws ls (.int x :: .ref t :: st) pc := by
  subst hp; subst hx
  exact fun H locs lv hP hD hS hl => va_tb C.1 C.2.1 hT hS (vp_in_nI hj hN) (by rw [nI_cl hj hN]; exact hv) d (kk H locs lv hP hD hS hl)
theorem mr_tint (C : CX E M q Z) {t N : Nat} (j : Nat) {f : Nat → Value} {x : Int32} {v : Value} (pc' : Nat) (d : decode M.2.1 pc = .ok (.iaload, 1)) (hp : pc + 1 = pc') (hT : va_T .int t N f (zA Z) (zs Z) (zs Z).heap) (hx : x = nI j) (hj : j < N) (hN : N < 2 ^ 31) (hv : f j = v) (kk : V E M q Z k n ws ls (v :: st) pc') : V E M q Z k n ws ls (.int x :: .ref t :: st) pc := by
  subst hp; subst hx
  exact fun H locs lv hP hD hS hl => va_ti C.1 C.2.1 hT hS (vp_in_nI hj hN) (by rw [nI_cl hj hN]; exact hv) d (kk H locs lv hP hD hS hl)
theorem mr_i2c (C : CX E M q Z) {x : Int32} (v : Int32) (pc' : Nat) (d : decode M.2.1 pc = .ok (.i2c, 1)) (hp : pc + 1 = pc') (hv : (x.toUInt32 % 65536).toInt32 = v) (kk : V E M q Z k n ws ls (.int v :: st) pc') : V E M q Z k n ws ls (.int x :: st) pc := by
  subst hp
  exact fun H locs lv hP hD hS hl => lv_i2c C.1 C.2.1 d hv (kk H locs lv hP hD hS hl)
/-- a constant text -/
theorem mr_str (C : CX E M q Z) (i : Nat) (hi : i < 8) {x : Nat} (pc' : Nat) (d : decode M.2.1 pc = .ok (.ldc x, 2)) (hp : pc + 2 = pc') (hx : x = idxS.getD i 0) (hM : M.1.cls = RX4) (kk : V E M q Z k n ws ls (.ref (E.2.1 (10 + i)) :: st) pc') : V E M q Z k n ws ls st pc := by
  subst hp; subst hx
  intro H locs lv hP hD hS hl
  have h := C.2.2.2.2.2.2.2.2.1.2.2.2.2.1 i hi
  rw [← hM] at h
  exact va_ldcS C.1 C.2.1 C.2.2.2.2.1 h d (kk H locs lv hP hD hS hl)
/-- a method of a constant text -/
theorem mr_callT (C : CX E M q Z) (w : Nat) (hw : w < 8) {M' : MD} {q' : RQ} {av : List Value} {wc : va_W} {post : PO} (hM : Ctr E M' q' av wc post) {i np : Nat} (isC : List Nat) {As rest : List Value} (pc' : Nat) (d : decode M.2.1 pc = .ok (.invokevirtual i, 3)) (hp : pc + 3 = pc') (hmk : MK M' np) (hmi : MKi M') (hlk : Cond.methodLink M.1.cls i M'.1 ∈ gw) (hcl0 : M'.1.cls = "java/lang/String")
    (hav : av = .ref (E.2.1 (10 + w)) :: As) (hst : st = As.reverse ++ .ref (E.2.1 (10 + w)) :: rest) (hnp : As.length = np) (hC : CUT ws isC wc) (hnd : va_nd isC = true) (hrest : (rest.map fun v => v.category).sum ≤ 8) (hfr : q'.1 + 1 ≤ q.1) (hloc : 8 + (M'.2.2.1 + 11) + 64 * q'.1 ≤ 64 * q.1) (hcl : k + q'.2.1 ≤ q.2.1 ∧ n + q'.2.2 ≤ q.2.2)
    (kk : ∀ (r : Option Value) (w1 : va_W), post r w1 → V E M q Z (k + q'.2.1) (n + q'.2.2) (wput ws isC w1) ls (r.toList ++ rest) pc') : V E M q Z k n ws ls st pc := by
  subst hp; subst hav; subst hst
  intro H locs lv hP hD hS hl
  obtain ⟨hF, hPc⟩ := call_pre (av := .ref (E.2.1 (10 + w)) :: As) C hC hnd hP hD hS
  obtain ⟨cell, r1, r2, r3⟩ := vk_recv (i := w) C.2.2.2.2.2.2.2.2.1.2.2.2.1 hw hS
  refine call_go hC hnd hP hD hS hl hF (va_runV (own := M.1.cls) (As := As) (rest := rest) ⟨C.1, C.2.1, C.2.2.1, C.2.2.2.2.1, C.2.2.2.2.2.1⟩ (hM H.size) ⟨call_B C hmk hlk hfr hloc, C.2.2.2.2.2.1 _ hmi.1, C.2.2.2.2.2.1 _ hmi.2⟩ ⟨PP_blind, ⟨cell, r1, r2, by rw [hcl0]; exact r3⟩, hPc⟩ rfl hnp hl.1 rfl (lv_room hrest) d hcl) kk
end STR
theorem c_coder (E : EG) (w : Nat) (hw : w < 8) : Ctr E mJ0_coder_7d493 (1, 0, 0) [.ref (E.2.1 (10 + w))] [] (fun v x => v = some (.int 0) ∧ x = []) := by
  refine Ctr.of (by decide) (Nat.le_of_ble_eq_true rfl) ?_
  intro Z hO hn C
  have hlen : zn Z ≤ 0 := by rw [hn]; exact Nat.le_refl _
  have hG := C.2.2.2.2.2.2.2.2.1
  refine mr_gets C 3 dJ0_coder_7d493_0 rfl hG.2.2.2.2.2.1 fj_38 ?_
  refine mr_ifeq C 13 6 dJ0_coder_7d493_3 (by decide) rfl (fun c => ?_) (fun c => ?_)
  · exact absurd c (by decide)
  refine mr_aload_n C 7 dJ0_coder_7d493_6 rfl rfl ?_
  refine mr_strf C 10 dJ0_coder_7d493_7 rfl (hG.2.2.2.1.1 w hw).2.1 fj_15 ?_
  refine mr_goto C 14 dJ0_coder_7d493_10 (by decide) ?_
  refine mr_iret C dJ0_coder_7d493_14 rfl rfl (by decide) (by decide) hlen ?_
  rw [hO]
  exact ⟨rfl, rfl⟩
theorem c_isLat (E : EG) (w : Nat) (hw : w < 8) : Ctr E mJ0_isLatin1_aae02 (1, 0, 0) [.ref (E.2.1 (10 + w))] [] (fun v x => v = some (.int (nI 1)) ∧ x = []) := by
  refine Ctr.of (by decide) (Nat.le_of_ble_eq_true rfl) ?_
  intro Z hO hn C
  have hlen : zn Z ≤ 0 := by rw [hn]; exact Nat.le_refl _
  have hG := C.2.2.2.2.2.2.2.2.1
  refine mr_gets C 3 dJ0_isLatin1_aae02_0 rfl hG.2.2.2.2.2.1 fj_38 ?_
  refine mr_ifeq C 17 6 dJ0_isLatin1_aae02_3 (by decide) rfl (fun c => ?_) (fun c => ?_)
  · exact absurd c (by decide)
  refine mr_aload_n C 7 dJ0_isLatin1_aae02_6 rfl rfl ?_
  refine mr_strf C 10 dJ0_isLatin1_aae02_7 rfl (hG.2.2.2.1.1 w hw).2.1 fj_15 ?_
  refine mr_ifne C 17 13 dJ0_isLatin1_aae02_10 (by decide) rfl (fun c => ?_) (fun c => ?_)
  · exact absurd rfl c
  refine mr_iconst C (nI 1) 14 dJ0_isLatin1_aae02_13 rfl rfl ?_
  refine mr_goto C 18 dJ0_isLatin1_aae02_14 (by decide) ?_
  refine mr_iret C dJ0_isLatin1_aae02_18 rfl rfl (by decide) (by decide) hlen ?_
  rw [hO]
  exact ⟨rfl, rfl⟩
theorem c_slen (E : EG) (w : Nat) (hw : w < 8) : Ctr E mJ0_length_8abf5 (2, 0, 0) [.ref (E.2.1 (10 + w))] [] (fun v x => v = some (.int (nI (lenS.getD w 0))) ∧ x = []) := by
  refine Ctr.of (by decide) (Nat.le_of_ble_eq_true rfl) ?_
  intro Z hO hn C
  have hlen : zn Z ≤ 0 := by rw [hn]; exact Nat.le_refl _
  have hG := C.2.2.2.2.2.2.2.2.1
  refine mr_aload_n C 1 dJ0_length_8abf5_0 rfl rfl ?_
  refine mr_strf C 4 dJ0_length_8abf5_1 rfl (hG.2.2.2.1.1 w hw).2.2.1 fj_9 ?_
  refine mr_tlen C 5 dJ0_length_8abf5_4 rfl (hG.2.2.2.1.1 w hw).2.2.2 ?_
  refine mr_aload_n C 6 dJ0_length_8abf5_5 rfl rfl ?_
  refine mr_callT C w hw (c_coder E w hw) [] 9 dJ0_length_8abf5_6 rfl mk_J0_coder_7d493 mi_J0_coder_7d493 ml_J0_335 rfl rfl rfl rfl rfl rfl (Nat.le_of_ble_eq_true rfl) (by decide) (by decide) (by decide) (fun r w1 hpost => ?_)
  obtain ⟨rfl, rfl⟩ := hpost
  refine mr_w (ws' := []) rfl ?_
  refine mr_ishr C (nI (lenS.getD w 0)) 10 dJ0_length_8abf5_9 rfl (sb_shr0 _) ?_
  refine mr_iret C dJ0_length_8abf5_10 rfl rfl (by decide) (by decide) hlen ?_
  rw [hO]
  exact ⟨rfl, rfl⟩
/-- i within n: the third argument is never looked at -/
theorem c_preI (E : EG) (i n : Nat) (x : Option Nat) (h : i < n) (hn : n < 2 ^ 31) : Ctr E mJ3_checkIndex_8e157 (1, 0, 0) [.int (nI i), .int (nI n), va_rf x] [] (fun v y => v = some (.int (nI i)) ∧ y = []) := by
  refine Ctr.of (by decide) (by cases x <;> exact Nat.le_of_ble_eq_true rfl) ?_
  intro Z hO hn2 C
  have hlen : zn Z ≤ 0 := by rw [hn2]; exact Nat.le_refl _
  have e1 : ∀ v : Value, v.category = 1 → lv_args 0 [.int (nI i), .int (nI n), v] = [(0, .int (nI i)), (1, .int (nI n)), (2, v)] := by
    intro v hv; simp only [lv_args, hv]; rfl
  rw [e1 _ (by cases x <;> rfl)]
  refine mr_iload_n C 1 dJ3_checkIndex_8e157_0 rfl rfl ?_
  refine mr_iflt C 9 4 dJ3_checkIndex_8e157_1 (by decide) rfl (fun c => ?_) (fun c => ?_)
  · exact absurd c (nI_pos (by omega))
  refine mr_iload_n C 5 dJ3_checkIndex_8e157_4 rfl rfl ?_
  refine mr_iload_n C 6 dJ3_checkIndex_8e157_5 rfl rfl ?_
  refine mr_icmplt C 16 9 dJ3_checkIndex_8e157_6 (by decide) rfl (fun c => ?_) (fun c => ?_)
  · refine mr_iload_n C 17 dJ3_checkIndex_8e157_16 rfl rfl ?_
    refine mr_iret C dJ3_checkIndex_8e157_17 rfl rfl (by decide) (by decide) hlen ?_
    rw [hO]
    exact ⟨rfl, rfl⟩
  · exact absurd (nI_lt h hn) c
theorem c_chkI (E : EG) (i n : Nat) (h : i < n) (hn : n < 2 ^ 31) : Ctr E mJ0_checkIndex_df160 (2, 0, 0) [.int (nI i), .int (nI n)] [] (fun v y => v = none ∧ y = []) := by
  refine Ctr.of (by decide) (Nat.le_of_ble_eq_true rfl) ?_
  intro Z hO hn2 C
  have hlen : zn Z ≤ 0 := by rw [hn2]; exact Nat.le_refl _
  have hG := C.2.2.2.2.2.2.2.2.1
  refine mr_iload_n C 1 dJ0_checkIndex_df160_0 rfl rfl ?_
  refine mr_iload_n C 2 dJ0_checkIndex_df160_1 rfl rfl ?_
  have L : ∀ x : Option Nat, V E mJ0_checkIndex_df160 (2, 0, 0) Z 0 0 [] (lv_args 0 [.int (nI i), .int (nI n)]) [va_rf x, .int (nI n), .int (nI i)] 5 := by
    intro x
    refine mr_callS C (c_preI E i n x h hn) [] 8 dJ0_checkIndex_df160_5 rfl mk_J3_checkIndex_8e157 ms_J3_checkIndex_8e157 ml_J0_1059 rfl rfl rfl rfl (Nat.le_of_ble_eq_true rfl) (by decide) (by decide) (by decide) (fun r w1 hpost => ?_)
    obtain ⟨rfl, rfl⟩ := hpost
    refine mr_w (ws' := []) rfl ?_
    refine mr_pop C 9 dJ0_checkIndex_df160_8 rfl rfl ?_
    refine mr_vret C dJ0_checkIndex_df160_9 rfl (by decide) (by decide) hlen ?_
    rw [hO]
    exact ⟨rfl, rfl⟩
  rcases hG.2.2.2.2.2.2 with hz | ⟨t, hz⟩
  · exact mr_gets C 5 dJ0_checkIndex_df160_2 rfl hz fj_1053 (L none)
  · exact mr_gets C 5 dJ0_checkIndex_df160_2 rfl hz fj_1053 (L (some t))
theorem c_latI (E : EG) (w k : Nat) (hw : w < 8) (hk : k < lenS.getD w 0) : Ctr E mJ1_charAt_3b067 (3, 0, 0) [.ref (E.2.1 (20 + w)), .int (nI k)] [] (fun v y => v = some (.int ((bytS.getD w []).getD k 0)) ∧ y = []) := by
  refine Ctr.of (by decide) (Nat.le_of_ble_eq_true rfl) ?_
  intro Z hO hn2 C
  have hlen : zn Z ≤ 0 := by rw [hn2]; exact Nat.le_refl _
  have hG := C.2.2.2.2.2.2.2.2.1
  have hl6 := (sLen w hw).2
  refine mr_iload_n C 1 dJ1_charAt_3b067_0 rfl rfl ?_
  refine mr_aload_n C 2 dJ1_charAt_3b067_1 rfl rfl ?_
  refine mr_tlen C 3 dJ1_charAt_3b067_2 rfl (hG.2.2.2.1.1 w hw).2.2.2 ?_
  refine mr_callS C (c_chkI E k (lenS.getD w 0) hk (by omega)) [] 6 dJ1_charAt_3b067_3 rfl mk_J0_checkIndex_df160 ms_J0_checkIndex_df160 ml_J1_9 rfl rfl rfl rfl (Nat.le_of_ble_eq_true rfl) (by decide) (by decide) (by decide) (fun r w1 hpost => ?_)
  obtain ⟨rfl, rfl⟩ := hpost
  refine mr_w (ws' := []) rfl ?_
  refine mr_aload_n C 7 dJ1_charAt_3b067_6 rfl rfl ?_
  refine mr_iload_n C 8 dJ1_charAt_3b067_7 rfl rfl ?_
  refine mr_tbyte C 9 dJ1_charAt_3b067_8 rfl (hG.2.2.2.1.1 w hw).2.2.2 rfl hk (by omega) rfl ?_
  refine mr_sipush C 255 12 dJ1_charAt_3b067_9 rfl rfl ?_
  refine mr_iand C _ 13 dJ1_charAt_3b067_12 rfl rfl ?_
  refine mr_i2c C ((bytS.getD w []).getD k 0) 14 dJ1_charAt_3b067_13 rfl (sByt w hw k (by omega)) ?_
  refine mr_iret C dJ1_charAt_3b067_14 rfl (sNar w hw k (by omega)) (by decide) (by decide) hlen ?_
  rw [hO]
  exact ⟨rfl, rfl⟩
theorem c_sch (E : EG) (w k : Nat) (hw : w < 8) (hk : k < lenS.getD w 0) : Ctr E mJ0_charAt_5068e (4, 0, 0) [.ref (E.2.1 (10 + w)), .int (nI k)] [] (fun v y => v = some (.int ((bytS.getD w []).getD k 0)) ∧ y = []) := by
  refine Ctr.of (by decide) (Nat.le_of_ble_eq_true rfl) ?_
  intro Z hO hn2 C
  have hlen : zn Z ≤ 0 := by rw [hn2]; exact Nat.le_refl _
  have hG := C.2.2.2.2.2.2.2.2.1
  have hl6 := (sLen w hw).2
  refine mr_aload_n C 1 dJ0_charAt_5068e_0 rfl rfl ?_
  refine mr_callT C w hw (c_isLat E w hw) [] 4 dJ0_charAt_5068e_1 rfl mk_J0_isLatin1_aae02 mi_J0_isLatin1_aae02 ml_J0_492 rfl rfl rfl rfl rfl rfl (Nat.le_of_ble_eq_true rfl) (by decide) (by decide) (by decide) (fun r w1 hpost => ?_)
  obtain ⟨rfl, rfl⟩ := hpost
  refine mr_w (ws' := []) rfl ?_
  refine mr_ifeq C 16 7 dJ0_charAt_5068e_4 (by decide) rfl (fun c => ?_) (fun c => ?_)
  · exact absurd c (by decide)
  refine mr_aload_n C 8 dJ0_charAt_5068e_7 rfl rfl ?_
  refine mr_strf C 11 dJ0_charAt_5068e_8 rfl (hG.2.2.2.1.1 w hw).2.2.1 fj_9 ?_
  refine mr_iload_n C 12 dJ0_charAt_5068e_11 rfl rfl ?_
  refine mr_callS C (c_latI E w k hw hk) [] 15 dJ0_charAt_5068e_12 rfl mk_J1_charAt_3b067 ms_J1_charAt_3b067 ml_J0_495 rfl rfl rfl rfl (Nat.le_of_ble_eq_true rfl) (by decide) (by decide) (by decide) (fun r w1 hpost => ?_)
  obtain ⟨rfl, rfl⟩ := hpost
  refine mr_w (ws' := []) rfl ?_
  refine mr_iret C dJ0_charAt_5068e_15 rfl (sNar w hw k (by omega)) (by decide) (by decide) hlen ?_
  rw [hO]
  exact ⟨rfl, rfl⟩
