/-! the links of fields -/
set_option maxRecDepth 100000 in
theorem iw_of (ws : List Cond) (ps : List Nat) (hp : ws = ps.filterMap (fun i => lw_tbl[i]?)) (h : ws.all goodWord = true) : ∀ w ∈ ws, w ∈ gw := by
  intro w hw
  have h1 := List.all_eq_true.mp h w hw
  rw [hp] at hw
  obtain ⟨i, -, hi⟩ := List.mem_filterMap.mp hw
  exact gw_mem (List.mem_of_getElem? hi) h1
set_option maxRecDepth 100000 in
theorem iw0 : ∀ w ∈ u_ws RX0 TX0 3, w ∈ gw := iw_of _ [240, 242, 244] (by decide +kernel) (by decide +kernel)
set_option maxRecDepth 100000 in
theorem iw1 : ∀ w ∈ u_ws RX1 TX1 3, w ∈ gw := iw_of _ [292, 294, 296] (by decide +kernel) (by decide +kernel)
set_option maxRecDepth 100000 in
theorem iw2 : ∀ w ∈ u_ws RX2 TX2 7, w ∈ gw := iw_of _ [266, 268, 270, 272, 274, 276, 278] (by decide +kernel) (by decide +kernel)
set_option maxRecDepth 100000 in
theorem iw3 : ∀ w ∈ u_ws RX3 TX3 14, w ∈ gw := iw_of _ [180, 182, 184, 186, 188, 190, 192, 194, 196, 198, 200, 202, 204, 206] (by decide +kernel) (by decide +kernel)
set_option maxRecDepth 100000 in
theorem iw4 : ∀ w ∈ u_ws RX4 TX4 5, w ∈ gw := iw_of _ [216, 218, 220, 222, 224] (by decide +kernel) (by decide +kernel)
set_option maxRecDepth 100000 in
theorem iw5 : ∀ w ∈ u_ws RX5 TX5 4, w ∈ gw := iw_of _ [312, 314, 316, 318] (by decide +kernel) (by decide +kernel)
set_option maxRecDepth 100000 in
theorem iw6 : ∀ w ∈ u_ws RX6 TX6 6, w ∈ gw := iw_of _ [111, 113, 115, 117, 119, 121] (by decide +kernel) (by decide +kernel)
set_option maxRecDepth 100000 in
theorem iw7 : ∀ w ∈ u_ws RX7 TX7 10, w ∈ gw := iw_of _ [331, 333, 335, 337, 339, 341, 343, 345, 347, 349] (by decide +kernel) (by decide +kernel)
set_option maxRecDepth 100000 in
theorem iw8 : ∀ w ∈ u_ws RX8 TX8 32, w ∈ gw := iw_of _ [860, 862, 864, 866, 868, 870, 872, 874, 876, 878, 880, 882, 884, 886, 888, 890, 892, 894, 896, 898, 900, 902, 904, 906, 908, 910, 912, 914, 916, 918, 920, 922] (by decide +kernel) (by decide +kernel)
set_option maxRecDepth 100000 in
theorem fl_X6_9 : FL RX6 9 6 0 := ⟨RX6, TX6, 6, rfl, by decide, iw6, gw_mem (List.mem_of_getElem? (i := 101) rfl) rfl⟩
set_option maxRecDepth 100000 in
theorem ff_X6_9 : FF RX6 9 6 0 (tyX6 0) := ⟨RX6, TX6, 6, tyX6, rfl, by decide, iw6, gw_mem (List.mem_of_getElem? (i := 101) rfl) rfl, tyX6_ok, nmX6, rfl, rfl, rfl⟩
set_option maxRecDepth 100000 in
theorem fl_X6_15 : FL RX6 15 6 1 := ⟨RX6, TX6, 6, rfl, by decide, iw6, gw_mem (List.mem_of_getElem? (i := 102) rfl) rfl⟩
set_option maxRecDepth 100000 in
theorem fs_X6_15 : FS RX6 15 6 1 .int := ⟨RX6, TX6, 6, tyX6, rfl, by decide, iw6, gw_mem (List.mem_of_getElem? (i := 102) rfl) rfl, tyX6_ok, nmX6, rfl, rfl⟩
set_option maxRecDepth 100000 in
theorem fl_X7_111 : FL RX7 111 6 1 := ⟨RX6, TX6, 6, rfl, by decide, iw6, gw_mem (List.mem_of_getElem? (i := 103) rfl) rfl⟩
set_option maxRecDepth 100000 in
theorem fs_X7_111 : FS RX7 111 6 1 .int := ⟨RX6, TX6, 6, tyX6, rfl, by decide, iw6, gw_mem (List.mem_of_getElem? (i := 103) rfl) rfl, tyX6_ok, nmX6, rfl, rfl⟩
set_option maxRecDepth 100000 in
theorem fl_X4_41 : FL RX4 41 6 2 := ⟨RX6, TX6, 6, rfl, by decide, iw6, gw_mem (List.mem_of_getElem? (i := 104) rfl) rfl⟩
set_option maxRecDepth 100000 in
theorem fs_X4_41 : FS RX4 41 6 2 .int := ⟨RX6, TX6, 6, tyX6, rfl, by decide, iw6, gw_mem (List.mem_of_getElem? (i := 104) rfl) rfl, tyX6_ok, nmX6, rfl, rfl⟩
set_option maxRecDepth 100000 in
theorem fl_X6_32 : FL RX6 32 6 2 := ⟨RX6, TX6, 6, rfl, by decide, iw6, gw_mem (List.mem_of_getElem? (i := 105) rfl) rfl⟩
set_option maxRecDepth 100000 in
theorem fs_X6_32 : FS RX6 32 6 2 .int := ⟨RX6, TX6, 6, tyX6, rfl, by decide, iw6, gw_mem (List.mem_of_getElem? (i := 105) rfl) rfl, tyX6_ok, nmX6, rfl, rfl⟩
set_option maxRecDepth 100000 in
theorem fl_X6_29 : FL RX6 29 6 3 := ⟨RX6, TX6, 6, rfl, by decide, iw6, gw_mem (List.mem_of_getElem? (i := 106) rfl) rfl⟩
set_option maxRecDepth 100000 in
theorem fs_X6_29 : FS RX6 29 6 3 .int := ⟨RX6, TX6, 6, tyX6, rfl, by decide, iw6, gw_mem (List.mem_of_getElem? (i := 106) rfl) rfl, tyX6_ok, nmX6, rfl, rfl⟩
set_option maxRecDepth 100000 in
theorem fl_X7_121 : FL RX7 121 6 3 := ⟨RX6, TX6, 6, rfl, by decide, iw6, gw_mem (List.mem_of_getElem? (i := 107) rfl) rfl⟩
set_option maxRecDepth 100000 in
theorem fs_X7_121 : FS RX7 121 6 3 .int := ⟨RX6, TX6, 6, tyX6, rfl, by decide, iw6, gw_mem (List.mem_of_getElem? (i := 107) rfl) rfl, tyX6_ok, nmX6, rfl, rfl⟩
set_option maxRecDepth 100000 in
theorem fl_X6_19 : FL RX6 19 6 4 := ⟨RX6, TX6, 6, rfl, by decide, iw6, gw_mem (List.mem_of_getElem? (i := 108) rfl) rfl⟩
set_option maxRecDepth 100000 in
theorem fs_X6_19 : FS RX6 19 6 4 .int := ⟨RX6, TX6, 6, tyX6, rfl, by decide, iw6, gw_mem (List.mem_of_getElem? (i := 108) rfl) rfl, tyX6_ok, nmX6, rfl, rfl⟩
set_option maxRecDepth 100000 in
theorem fl_X4_68 : FL RX4 68 6 5 := ⟨RX6, TX6, 6, rfl, by decide, iw6, gw_mem (List.mem_of_getElem? (i := 109) rfl) rfl⟩
set_option maxRecDepth 100000 in
theorem fs_X4_68 : FS RX4 68 6 5 .int := ⟨RX6, TX6, 6, tyX6, rfl, by decide, iw6, gw_mem (List.mem_of_getElem? (i := 109) rfl) rfl, tyX6_ok, nmX6, rfl, rfl⟩
set_option maxRecDepth 100000 in
theorem fl_X6_57 : FL RX6 57 6 5 := ⟨RX6, TX6, 6, rfl, by decide, iw6, gw_mem (List.mem_of_getElem? (i := 110) rfl) rfl⟩
set_option maxRecDepth 100000 in
theorem fs_X6_57 : FS RX6 57 6 5 .int := ⟨RX6, TX6, 6, tyX6, rfl, by decide, iw6, gw_mem (List.mem_of_getElem? (i := 110) rfl) rfl, tyX6_ok, nmX6, rfl, rfl⟩
set_option maxRecDepth 100000 in
theorem fl_X3_9 : FL RX3 9 3 0 := ⟨RX3, TX3, 14, rfl, by decide, iw3, gw_mem (List.mem_of_getElem? (i := 137) rfl) rfl⟩
set_option maxRecDepth 100000 in
theorem ff_X3_9 : FF RX3 9 3 0 (tyX3 0) := ⟨RX3, TX3, 14, tyX3, rfl, by decide, iw3, gw_mem (List.mem_of_getElem? (i := 137) rfl) rfl, tyX3_ok, nmX3, rfl, rfl, rfl⟩
set_option maxRecDepth 100000 in
theorem fl_X2_47 : FL RX2 47 3 0 := ⟨RX3, TX3, 14, rfl, by decide, iw3, gw_mem (List.mem_of_getElem? (i := 138) rfl) rfl⟩
set_option maxRecDepth 100000 in
theorem fl_X4_78 : FL RX4 78 3 0 := ⟨RX3, TX3, 14, rfl, by decide, iw3, gw_mem (List.mem_of_getElem? (i := 139) rfl) rfl⟩
set_option maxRecDepth 100000 in
theorem fl_X7_195 : FL RX7 195 3 0 := ⟨RX3, TX3, 14, rfl, by decide, iw3, gw_mem (List.mem_of_getElem? (i := 140) rfl) rfl⟩
set_option maxRecDepth 100000 in
theorem fl_X3_15 : FL RX3 15 3 1 := ⟨RX3, TX3, 14, rfl, by decide, iw3, gw_mem (List.mem_of_getElem? (i := 141) rfl) rfl⟩
set_option maxRecDepth 100000 in
theorem ff_X3_15 : FF RX3 15 3 1 (tyX3 1) := ⟨RX3, TX3, 14, tyX3, rfl, by decide, iw3, gw_mem (List.mem_of_getElem? (i := 141) rfl) rfl, tyX3_ok, nmX3, rfl, rfl, rfl⟩
set_option maxRecDepth 100000 in
theorem fl_X0_19 : FL RX0 19 3 1 := ⟨RX3, TX3, 14, rfl, by decide, iw3, gw_mem (List.mem_of_getElem? (i := 142) rfl) rfl⟩
set_option maxRecDepth 100000 in
theorem fl_X7_201 : FL RX7 201 3 1 := ⟨RX3, TX3, 14, rfl, by decide, iw3, gw_mem (List.mem_of_getElem? (i := 143) rfl) rfl⟩
set_option maxRecDepth 100000 in
theorem fl_X2_119 : FL RX2 119 3 1 := ⟨RX3, TX3, 14, rfl, by decide, iw3, gw_mem (List.mem_of_getElem? (i := 144) rfl) rfl⟩
set_option maxRecDepth 100000 in
theorem fl_X3_18 : FL RX3 18 3 2 := ⟨RX3, TX3, 14, rfl, by decide, iw3, gw_mem (List.mem_of_getElem? (i := 145) rfl) rfl⟩
set_option maxRecDepth 100000 in
theorem ff_X3_18 : FF RX3 18 3 2 (tyX3 2) := ⟨RX3, TX3, 14, tyX3, rfl, by decide, iw3, gw_mem (List.mem_of_getElem? (i := 145) rfl) rfl, tyX3_ok, nmX3, rfl, rfl, rfl⟩
set_option maxRecDepth 100000 in
theorem fl_X0_30 : FL RX0 30 3 2 := ⟨RX3, TX3, 14, rfl, by decide, iw3, gw_mem (List.mem_of_getElem? (i := 146) rfl) rfl⟩
set_option maxRecDepth 100000 in
theorem fl_X3_21 : FL RX3 21 3 3 := ⟨RX3, TX3, 14, rfl, by decide, iw3, gw_mem (List.mem_of_getElem? (i := 147) rfl) rfl⟩
set_option maxRecDepth 100000 in
theorem ff_X3_21 : FF RX3 21 3 3 (tyX3 3) := ⟨RX3, TX3, 14, tyX3, rfl, by decide, iw3, gw_mem (List.mem_of_getElem? (i := 147) rfl) rfl, tyX3_ok, nmX3, rfl, rfl, rfl⟩
set_option maxRecDepth 100000 in
theorem fl_X1_25 : FL RX1 25 3 3 := ⟨RX3, TX3, 14, rfl, by decide, iw3, gw_mem (List.mem_of_getElem? (i := 148) rfl) rfl⟩
set_option maxRecDepth 100000 in
theorem fl_X4_102 : FL RX4 102 3 3 := ⟨RX3, TX3, 14, rfl, by decide, iw3, gw_mem (List.mem_of_getElem? (i := 149) rfl) rfl⟩
set_option maxRecDepth 100000 in
theorem fl_X2_109 : FL RX2 109 3 3 := ⟨RX3, TX3, 14, rfl, by decide, iw3, gw_mem (List.mem_of_getElem? (i := 150) rfl) rfl⟩
set_option maxRecDepth 100000 in
theorem fl_X7_237 : FL RX7 237 3 3 := ⟨RX3, TX3, 14, rfl, by decide, iw3, gw_mem (List.mem_of_getElem? (i := 151) rfl) rfl⟩
set_option maxRecDepth 100000 in
theorem fl_X3_24 : FL RX3 24 3 4 := ⟨RX3, TX3, 14, rfl, by decide, iw3, gw_mem (List.mem_of_getElem? (i := 152) rfl) rfl⟩
set_option maxRecDepth 100000 in
theorem ff_X3_24 : FF RX3 24 3 4 (tyX3 4) := ⟨RX3, TX3, 14, tyX3, rfl, by decide, iw3, gw_mem (List.mem_of_getElem? (i := 152) rfl) rfl, tyX3_ok, nmX3, rfl, rfl, rfl⟩
set_option maxRecDepth 100000 in
theorem fl_X2_36 : FL RX2 36 3 4 := ⟨RX3, TX3, 14, rfl, by decide, iw3, gw_mem (List.mem_of_getElem? (i := 153) rfl) rfl⟩
set_option maxRecDepth 100000 in
theorem fl_X0_33 : FL RX0 33 3 4 := ⟨RX3, TX3, 14, rfl, by decide, iw3, gw_mem (List.mem_of_getElem? (i := 154) rfl) rfl⟩
set_option maxRecDepth 100000 in
theorem fl_X1_52 : FL RX1 52 3 4 := ⟨RX3, TX3, 14, rfl, by decide, iw3, gw_mem (List.mem_of_getElem? (i := 155) rfl) rfl⟩
set_option maxRecDepth 100000 in
theorem fl_X4_105 : FL RX4 105 3 4 := ⟨RX3, TX3, 14, rfl, by decide, iw3, gw_mem (List.mem_of_getElem? (i := 156) rfl) rfl⟩
set_option maxRecDepth 100000 in
theorem fl_X7_192 : FL RX7 192 3 4 := ⟨RX3, TX3, 14, rfl, by decide, iw3, gw_mem (List.mem_of_getElem? (i := 157) rfl) rfl⟩
set_option maxRecDepth 100000 in
theorem fl_X3_27 : FL RX3 27 3 5 := ⟨RX3, TX3, 14, rfl, by decide, iw3, gw_mem (List.mem_of_getElem? (i := 158) rfl) rfl⟩
set_option maxRecDepth 100000 in
theorem ff_X3_27 : FF RX3 27 3 5 (tyX3 5) := ⟨RX3, TX3, 14, tyX3, rfl, by decide, iw3, gw_mem (List.mem_of_getElem? (i := 158) rfl) rfl, tyX3_ok, nmX3, rfl, rfl, rfl⟩
set_option maxRecDepth 100000 in
theorem fl_X0_36 : FL RX0 36 3 5 := ⟨RX3, TX3, 14, rfl, by decide, iw3, gw_mem (List.mem_of_getElem? (i := 159) rfl) rfl⟩
set_option maxRecDepth 100000 in
theorem fl_X1_49 : FL RX1 49 3 5 := ⟨RX3, TX3, 14, rfl, by decide, iw3, gw_mem (List.mem_of_getElem? (i := 160) rfl) rfl⟩
set_option maxRecDepth 100000 in
theorem fl_X4_108 : FL RX4 108 3 5 := ⟨RX3, TX3, 14, rfl, by decide, iw3, gw_mem (List.mem_of_getElem? (i := 161) rfl) rfl⟩
set_option maxRecDepth 100000 in
theorem fl_X7_183 : FL RX7 183 3 5 := ⟨RX3, TX3, 14, rfl, by decide, iw3, gw_mem (List.mem_of_getElem? (i := 162) rfl) rfl⟩
set_option maxRecDepth 100000 in
theorem fl_X3_39 : FL RX3 39 3 6 := ⟨RX3, TX3, 14, rfl, by decide, iw3, gw_mem (List.mem_of_getElem? (i := 163) rfl) rfl⟩
set_option maxRecDepth 100000 in
theorem fs_X3_39 : FS RX3 39 3 6 .int := ⟨RX3, TX3, 14, tyX3, rfl, by decide, iw3, gw_mem (List.mem_of_getElem? (i := 163) rfl) rfl, tyX3_ok, nmX3, rfl, rfl⟩
set_option maxRecDepth 100000 in
theorem fl_X4_61 : FL RX4 61 3 6 := ⟨RX3, TX3, 14, rfl, by decide, iw3, gw_mem (List.mem_of_getElem? (i := 164) rfl) rfl⟩
set_option maxRecDepth 100000 in
theorem fs_X4_61 : FS RX4 61 3 6 .int := ⟨RX3, TX3, 14, tyX3, rfl, by decide, iw3, gw_mem (List.mem_of_getElem? (i := 164) rfl) rfl, tyX3_ok, nmX3, rfl, rfl⟩
set_option maxRecDepth 100000 in
theorem fl_X2_61 : FL RX2 61 3 6 := ⟨RX3, TX3, 14, rfl, by decide, iw3, gw_mem (List.mem_of_getElem? (i := 165) rfl) rfl⟩
set_option maxRecDepth 100000 in
theorem fs_X2_61 : FS RX2 61 3 6 .int := ⟨RX3, TX3, 14, tyX3, rfl, by decide, iw3, gw_mem (List.mem_of_getElem? (i := 165) rfl) rfl, tyX3_ok, nmX3, rfl, rfl⟩
set_option maxRecDepth 100000 in
theorem fl_X7_138 : FL RX7 138 3 6 := ⟨RX3, TX3, 14, rfl, by decide, iw3, gw_mem (List.mem_of_getElem? (i := 166) rfl) rfl⟩
set_option maxRecDepth 100000 in
theorem fs_X7_138 : FS RX7 138 3 6 .int := ⟨RX3, TX3, 14, tyX3, rfl, by decide, iw3, gw_mem (List.mem_of_getElem? (i := 166) rfl) rfl, tyX3_ok, nmX3, rfl, rfl⟩
set_option maxRecDepth 100000 in
theorem fl_X3_43 : FL RX3 43 3 7 := ⟨RX3, TX3, 14, rfl, by decide, iw3, gw_mem (List.mem_of_getElem? (i := 167) rfl) rfl⟩
set_option maxRecDepth 100000 in
theorem fs_X3_43 : FS RX3 43 3 7 .int := ⟨RX3, TX3, 14, tyX3, rfl, by decide, iw3, gw_mem (List.mem_of_getElem? (i := 167) rfl) rfl, tyX3_ok, nmX3, rfl, rfl⟩
set_option maxRecDepth 100000 in
theorem fl_X4_88 : FL RX4 88 3 7 := ⟨RX3, TX3, 14, rfl, by decide, iw3, gw_mem (List.mem_of_getElem? (i := 168) rfl) rfl⟩
set_option maxRecDepth 100000 in
theorem fs_X4_88 : FS RX4 88 3 7 .int := ⟨RX3, TX3, 14, tyX3, rfl, by decide, iw3, gw_mem (List.mem_of_getElem? (i := 168) rfl) rfl, tyX3_ok, nmX3, rfl, rfl⟩
set_option maxRecDepth 100000 in
theorem fl_X2_92 : FL RX2 92 3 7 := ⟨RX3, TX3, 14, rfl, by decide, iw3, gw_mem (List.mem_of_getElem? (i := 169) rfl) rfl⟩
set_option maxRecDepth 100000 in
theorem fs_X2_92 : FS RX2 92 3 7 .int := ⟨RX3, TX3, 14, tyX3, rfl, by decide, iw3, gw_mem (List.mem_of_getElem? (i := 169) rfl) rfl, tyX3_ok, nmX3, rfl, rfl⟩
set_option maxRecDepth 100000 in
theorem fl_X7_152 : FL RX7 152 3 7 := ⟨RX3, TX3, 14, rfl, by decide, iw3, gw_mem (List.mem_of_getElem? (i := 170) rfl) rfl⟩
set_option maxRecDepth 100000 in
theorem fs_X7_152 : FS RX7 152 3 7 .int := ⟨RX3, TX3, 14, tyX3, rfl, by decide, iw3, gw_mem (List.mem_of_getElem? (i := 170) rfl) rfl, tyX3_ok, nmX3, rfl, rfl⟩
set_option maxRecDepth 100000 in
theorem fl_X0_39 : FL RX0 39 3 8 := ⟨RX3, TX3, 14, rfl, by decide, iw3, gw_mem (List.mem_of_getElem? (i := 171) rfl) rfl⟩
set_option maxRecDepth 100000 in
theorem fs_X0_39 : FS RX0 39 3 8 .int := ⟨RX3, TX3, 14, tyX3, rfl, by decide, iw3, gw_mem (List.mem_of_getElem? (i := 171) rfl) rfl, tyX3_ok, nmX3, rfl, rfl⟩
set_option maxRecDepth 100000 in
theorem fl_X3_46 : FL RX3 46 3 8 := ⟨RX3, TX3, 14, rfl, by decide, iw3, gw_mem (List.mem_of_getElem? (i := 172) rfl) rfl⟩
set_option maxRecDepth 100000 in
theorem fs_X3_46 : FS RX3 46 3 8 .int := ⟨RX3, TX3, 14, tyX3, rfl, by decide, iw3, gw_mem (List.mem_of_getElem? (i := 172) rfl) rfl, tyX3_ok, nmX3, rfl, rfl⟩
set_option maxRecDepth 100000 in
theorem fl_X7_142 : FL RX7 142 3 8 := ⟨RX3, TX3, 14, rfl, by decide, iw3, gw_mem (List.mem_of_getElem? (i := 173) rfl) rfl⟩
set_option maxRecDepth 100000 in
theorem fs_X7_142 : FS RX7 142 3 8 .int := ⟨RX3, TX3, 14, tyX3, rfl, by decide, iw3, gw_mem (List.mem_of_getElem? (i := 173) rfl) rfl, tyX3_ok, nmX3, rfl, rfl⟩
set_option maxRecDepth 100000 in
theorem fl_X2_99 : FL RX2 99 3 8 := ⟨RX3, TX3, 14, rfl, by decide, iw3, gw_mem (List.mem_of_getElem? (i := 174) rfl) rfl⟩
set_option maxRecDepth 100000 in
theorem fs_X2_99 : FS RX2 99 3 8 .int := ⟨RX3, TX3, 14, tyX3, rfl, by decide, iw3, gw_mem (List.mem_of_getElem? (i := 174) rfl) rfl, tyX3_ok, nmX3, rfl, rfl⟩
set_option maxRecDepth 100000 in
theorem fl_X3_49 : FL RX3 49 3 9 := ⟨RX3, TX3, 14, rfl, by decide, iw3, gw_mem (List.mem_of_getElem? (i := 175) rfl) rfl⟩
set_option maxRecDepth 100000 in
theorem fs_X3_49 : FS RX3 49 3 9 .int := ⟨RX3, TX3, 14, tyX3, rfl, by decide, iw3, gw_mem (List.mem_of_getElem? (i := 175) rfl) rfl, tyX3_ok, nmX3, rfl, rfl⟩
set_option maxRecDepth 100000 in
theorem fl_X3_58 : FL RX3 58 3 10 := ⟨RX3, TX3, 14, rfl, by decide, iw3, gw_mem (List.mem_of_getElem? (i := 176) rfl) rfl⟩
set_option maxRecDepth 100000 in
theorem fs_X3_58 : FS RX3 58 3 10 .int := ⟨RX3, TX3, 14, tyX3, rfl, by decide, iw3, gw_mem (List.mem_of_getElem? (i := 176) rfl) rfl, tyX3_ok, nmX3, rfl, rfl⟩
set_option maxRecDepth 100000 in
theorem fl_X3_30 : FL RX3 30 3 11 := ⟨RX3, TX3, 14, rfl, by decide, iw3, gw_mem (List.mem_of_getElem? (i := 177) rfl) rfl⟩
set_option maxRecDepth 100000 in
theorem ff_X3_30 : FF RX3 30 3 11 (tyX3 11) := ⟨RX3, TX3, 14, tyX3, rfl, by decide, iw3, gw_mem (List.mem_of_getElem? (i := 177) rfl) rfl, tyX3_ok, nmX3, rfl, rfl, rfl⟩
set_option maxRecDepth 100000 in
theorem fl_X3_33 : FL RX3 33 3 12 := ⟨RX3, TX3, 14, rfl, by decide, iw3, gw_mem (List.mem_of_getElem? (i := 178) rfl) rfl⟩
set_option maxRecDepth 100000 in
theorem ff_X3_33 : FF RX3 33 3 12 (tyX3 12) := ⟨RX3, TX3, 14, tyX3, rfl, by decide, iw3, gw_mem (List.mem_of_getElem? (i := 178) rfl) rfl, tyX3_ok, nmX3, rfl, rfl, rfl⟩
set_option maxRecDepth 100000 in
theorem fl_X3_36 : FL RX3 36 3 13 := ⟨RX3, TX3, 14, rfl, by decide, iw3, gw_mem (List.mem_of_getElem? (i := 179) rfl) rfl⟩
set_option maxRecDepth 100000 in
theorem ff_X3_36 : FF RX3 36 3 13 (tyX3 13) := ⟨RX3, TX3, 14, tyX3, rfl, by decide, iw3, gw_mem (List.mem_of_getElem? (i := 179) rfl) rfl, tyX3_ok, nmX3, rfl, rfl, rfl⟩
set_option maxRecDepth 100000 in
theorem fl_X4_18 : FL RX4 18 4 0 := ⟨RX4, TX4, 5, rfl, by decide, iw4, gw_mem (List.mem_of_getElem? (i := 209) rfl) rfl⟩
set_option maxRecDepth 100000 in
theorem ff_X4_18 : FF RX4 18 4 0 (tyX4 0) := ⟨RX4, TX4, 5, tyX4, rfl, by decide, iw4, gw_mem (List.mem_of_getElem? (i := 209) rfl) rfl, tyX4_ok, nmX4, rfl, rfl, rfl⟩
set_option maxRecDepth 100000 in
theorem fl_X4_12 : FL RX4 12 4 1 := ⟨RX4, TX4, 5, rfl, by decide, iw4, gw_mem (List.mem_of_getElem? (i := 210) rfl) rfl⟩
set_option maxRecDepth 100000 in
theorem ff_X4_12 : FF RX4 12 4 1 (tyX4 1) := ⟨RX4, TX4, 5, tyX4, rfl, by decide, iw4, gw_mem (List.mem_of_getElem? (i := 210) rfl) rfl, tyX4_ok, nmX4, rfl, rfl, rfl⟩
set_option maxRecDepth 100000 in
theorem fl_X7_129 : FL RX7 129 4 1 := ⟨RX4, TX4, 5, rfl, by decide, iw4, gw_mem (List.mem_of_getElem? (i := 211) rfl) rfl⟩
set_option maxRecDepth 100000 in
theorem fl_X4_25 : FL RX4 25 4 2 := ⟨RX4, TX4, 5, rfl, by decide, iw4, gw_mem (List.mem_of_getElem? (i := 212) rfl) rfl⟩
set_option maxRecDepth 100000 in
theorem fs_X4_25 : FS RX4 25 4 2 .int := ⟨RX4, TX4, 5, tyX4, rfl, by decide, iw4, gw_mem (List.mem_of_getElem? (i := 212) rfl) rfl, tyX4_ok, nmX4, rfl, rfl⟩
set_option maxRecDepth 100000 in
theorem fl_X4_29 : FL RX4 29 4 3 := ⟨RX4, TX4, 5, rfl, by decide, iw4, gw_mem (List.mem_of_getElem? (i := 213) rfl) rfl⟩
set_option maxRecDepth 100000 in
theorem fs_X4_29 : FS RX4 29 4 3 .int := ⟨RX4, TX4, 5, tyX4, rfl, by decide, iw4, gw_mem (List.mem_of_getElem? (i := 213) rfl) rfl, tyX4_ok, nmX4, rfl, rfl⟩
set_option maxRecDepth 100000 in
theorem fl_X7_124 : FL RX7 124 4 4 := ⟨RX4, TX4, 5, rfl, by decide, iw4, gw_mem (List.mem_of_getElem? (i := 214) rfl) rfl⟩
set_option maxRecDepth 100000 in
theorem fs_X7_124 : FS RX7 124 4 4 .int := ⟨RX4, TX4, 5, tyX4, rfl, by decide, iw4, gw_mem (List.mem_of_getElem? (i := 214) rfl) rfl, tyX4_ok, nmX4, rfl, rfl⟩
set_option maxRecDepth 100000 in
theorem fl_X4_121 : FL RX4 121 4 4 := ⟨RX4, TX4, 5, rfl, by decide, iw4, gw_mem (List.mem_of_getElem? (i := 215) rfl) rfl⟩
set_option maxRecDepth 100000 in
theorem fs_X4_121 : FS RX4 121 4 4 .int := ⟨RX4, TX4, 5, tyX4, rfl, by decide, iw4, gw_mem (List.mem_of_getElem? (i := 215) rfl) rfl, tyX4_ok, nmX4, rfl, rfl⟩
set_option maxRecDepth 100000 in
theorem fl_X0_11 : FL RX0 11 0 0 := ⟨RX0, TX0, 3, rfl, by decide, iw0, gw_mem (List.mem_of_getElem? (i := 236) rfl) rfl⟩
set_option maxRecDepth 100000 in
theorem ff_X0_11 : FF RX0 11 0 0 (tyX0 0) := ⟨RX0, TX0, 3, tyX0, rfl, by decide, iw0, gw_mem (List.mem_of_getElem? (i := 236) rfl) rfl, tyX0_ok, nmX0, rfl, rfl, rfl⟩
set_option maxRecDepth 100000 in
theorem fl_X0_42 : FL RX0 42 0 1 := ⟨RX0, TX0, 3, rfl, by decide, iw0, gw_mem (List.mem_of_getElem? (i := 237) rfl) rfl⟩
set_option maxRecDepth 100000 in
theorem fs_X0_42 : FS RX0 42 0 1 .int := ⟨RX0, TX0, 3, tyX0, rfl, by decide, iw0, gw_mem (List.mem_of_getElem? (i := 237) rfl) rfl, tyX0_ok, nmX0, rfl, rfl⟩
set_option maxRecDepth 100000 in
theorem fl_X7_186 : FL RX7 186 0 1 := ⟨RX0, TX0, 3, rfl, by decide, iw0, gw_mem (List.mem_of_getElem? (i := 238) rfl) rfl⟩
set_option maxRecDepth 100000 in
theorem fs_X7_186 : FS RX7 186 0 1 .int := ⟨RX0, TX0, 3, tyX0, rfl, by decide, iw0, gw_mem (List.mem_of_getElem? (i := 238) rfl) rfl, tyX0_ok, nmX0, rfl, rfl⟩
set_option maxRecDepth 100000 in
theorem fl_X0_15 : FL RX0 15 0 2 := ⟨RX0, TX0, 3, rfl, by decide, iw0, gw_mem (List.mem_of_getElem? (i := 239) rfl) rfl⟩
set_option maxRecDepth 100000 in
theorem fs_X0_15 : FS RX0 15 0 2 .int := ⟨RX0, TX0, 3, tyX0, rfl, by decide, iw0, gw_mem (List.mem_of_getElem? (i := 239) rfl) rfl, tyX0_ok, nmX0, rfl, rfl⟩
set_option maxRecDepth 100000 in
theorem fl_X2_25 : FL RX2 25 2 0 := ⟨RX2, TX2, 7, rfl, by decide, iw2, gw_mem (List.mem_of_getElem? (i := 255) rfl) rfl⟩
set_option maxRecDepth 100000 in
theorem ff_X2_25 : FF RX2 25 2 0 (tyX2 0) := ⟨RX2, TX2, 7, tyX2, rfl, by decide, iw2, gw_mem (List.mem_of_getElem? (i := 255) rfl) rfl, tyX2_ok, nmX2, rfl, rfl, rfl⟩
set_option maxRecDepth 100000 in
theorem fl_X2_12 : FL RX2 12 2 1 := ⟨RX2, TX2, 7, rfl, by decide, iw2, gw_mem (List.mem_of_getElem? (i := 256) rfl) rfl⟩
set_option maxRecDepth 100000 in
theorem ff_X2_12 : FF RX2 12 2 1 (tyX2 1) := ⟨RX2, TX2, 7, tyX2, rfl, by decide, iw2, gw_mem (List.mem_of_getElem? (i := 256) rfl) rfl, tyX2_ok, nmX2, rfl, rfl, rfl⟩
set_option maxRecDepth 100000 in
theorem fl_X2_69 : FL RX2 69 2 2 := ⟨RX2, TX2, 7, rfl, by decide, iw2, gw_mem (List.mem_of_getElem? (i := 257) rfl) rfl⟩
set_option maxRecDepth 100000 in
theorem fs_X2_69 : FS RX2 69 2 2 .int := ⟨RX2, TX2, 7, tyX2, rfl, by decide, iw2, gw_mem (List.mem_of_getElem? (i := 257) rfl) rfl, tyX2_ok, nmX2, rfl, rfl⟩
set_option maxRecDepth 100000 in
theorem fl_X7_263 : FL RX7 263 2 2 := ⟨RX2, TX2, 7, rfl, by decide, iw2, gw_mem (List.mem_of_getElem? (i := 258) rfl) rfl⟩
set_option maxRecDepth 100000 in
theorem fs_X7_263 : FS RX7 263 2 2 .int := ⟨RX2, TX2, 7, tyX2, rfl, by decide, iw2, gw_mem (List.mem_of_getElem? (i := 258) rfl) rfl, tyX2_ok, nmX2, rfl, rfl⟩
set_option maxRecDepth 100000 in
theorem fl_X2_72 : FL RX2 72 2 3 := ⟨RX2, TX2, 7, rfl, by decide, iw2, gw_mem (List.mem_of_getElem? (i := 259) rfl) rfl⟩
set_option maxRecDepth 100000 in
theorem fs_X2_72 : FS RX2 72 2 3 .int := ⟨RX2, TX2, 7, tyX2, rfl, by decide, iw2, gw_mem (List.mem_of_getElem? (i := 259) rfl) rfl, tyX2_ok, nmX2, rfl, rfl⟩
set_option maxRecDepth 100000 in
theorem fl_X7_266 : FL RX7 266 2 3 := ⟨RX2, TX2, 7, rfl, by decide, iw2, gw_mem (List.mem_of_getElem? (i := 260) rfl) rfl⟩
set_option maxRecDepth 100000 in
theorem fs_X7_266 : FS RX7 266 2 3 .int := ⟨RX2, TX2, 7, tyX2, rfl, by decide, iw2, gw_mem (List.mem_of_getElem? (i := 260) rfl) rfl, tyX2_ok, nmX2, rfl, rfl⟩
set_option maxRecDepth 100000 in
theorem fl_X2_86 : FL RX2 86 2 4 := ⟨RX2, TX2, 7, rfl, by decide, iw2, gw_mem (List.mem_of_getElem? (i := 261) rfl) rfl⟩
set_option maxRecDepth 100000 in
theorem fs_X2_86 : FS RX2 86 2 4 .int := ⟨RX2, TX2, 7, tyX2, rfl, by decide, iw2, gw_mem (List.mem_of_getElem? (i := 261) rfl) rfl, tyX2_ok, nmX2, rfl, rfl⟩
set_option maxRecDepth 100000 in
theorem fl_X7_230 : FL RX7 230 2 4 := ⟨RX2, TX2, 7, rfl, by decide, iw2, gw_mem (List.mem_of_getElem? (i := 262) rfl) rfl⟩
set_option maxRecDepth 100000 in
theorem fs_X7_230 : FS RX7 230 2 4 .int := ⟨RX2, TX2, 7, tyX2, rfl, by decide, iw2, gw_mem (List.mem_of_getElem? (i := 262) rfl) rfl, tyX2_ok, nmX2, rfl, rfl⟩
set_option maxRecDepth 100000 in
theorem fl_X2_18 : FL RX2 18 2 5 := ⟨RX2, TX2, 7, rfl, by decide, iw2, gw_mem (List.mem_of_getElem? (i := 263) rfl) rfl⟩
set_option maxRecDepth 100000 in
theorem ff_X2_18 : FF RX2 18 2 5 (tyX2 5) := ⟨RX2, TX2, 7, tyX2, rfl, by decide, iw2, gw_mem (List.mem_of_getElem? (i := 263) rfl) rfl, tyX2_ok, nmX2, rfl, rfl, rfl⟩
set_option maxRecDepth 100000 in
theorem fl_X7_234 : FL RX7 234 2 5 := ⟨RX2, TX2, 7, rfl, by decide, iw2, gw_mem (List.mem_of_getElem? (i := 264) rfl) rfl⟩
set_option maxRecDepth 100000 in
theorem fl_X2_22 : FL RX2 22 2 6 := ⟨RX2, TX2, 7, rfl, by decide, iw2, gw_mem (List.mem_of_getElem? (i := 265) rfl) rfl⟩
set_option maxRecDepth 100000 in
theorem ff_X2_22 : FF RX2 22 2 6 (tyX2 6) := ⟨RX2, TX2, 7, tyX2, rfl, by decide, iw2, gw_mem (List.mem_of_getElem? (i := 265) rfl) rfl, tyX2_ok, nmX2, rfl, rfl, rfl⟩
set_option maxRecDepth 100000 in
theorem fl_X1_13 : FL RX1 13 1 0 := ⟨RX1, TX1, 3, rfl, by decide, iw1, gw_mem (List.mem_of_getElem? (i := 287) rfl) rfl⟩
set_option maxRecDepth 100000 in
theorem ff_X1_13 : FF RX1 13 1 0 (tyX1 0) := ⟨RX1, TX1, 3, tyX1, rfl, by decide, iw1, gw_mem (List.mem_of_getElem? (i := 287) rfl) rfl, tyX1_ok, nmX1, rfl, rfl, rfl⟩
set_option maxRecDepth 100000 in
theorem fl_X1_9 : FL RX1 9 1 1 := ⟨RX1, TX1, 3, rfl, by decide, iw1, gw_mem (List.mem_of_getElem? (i := 288) rfl) rfl⟩
set_option maxRecDepth 100000 in
theorem ff_X1_9 : FF RX1 9 1 1 (tyX1 1) := ⟨RX1, TX1, 3, tyX1, rfl, by decide, iw1, gw_mem (List.mem_of_getElem? (i := 288) rfl) rfl, tyX1_ok, nmX1, rfl, rfl, rfl⟩
set_option maxRecDepth 100000 in
theorem fl_X7_249 : FL RX7 249 1 1 := ⟨RX1, TX1, 3, rfl, by decide, iw1, gw_mem (List.mem_of_getElem? (i := 289) rfl) rfl⟩
set_option maxRecDepth 100000 in
theorem fl_X1_17 : FL RX1 17 1 2 := ⟨RX1, TX1, 3, rfl, by decide, iw1, gw_mem (List.mem_of_getElem? (i := 290) rfl) rfl⟩
set_option maxRecDepth 100000 in
theorem fs_X1_17 : FS RX1 17 1 2 .int := ⟨RX1, TX1, 3, tyX1, rfl, by decide, iw1, gw_mem (List.mem_of_getElem? (i := 290) rfl) rfl, tyX1_ok, nmX1, rfl, rfl⟩
set_option maxRecDepth 100000 in
theorem fl_X7_246 : FL RX7 246 1 2 := ⟨RX1, TX1, 3, rfl, by decide, iw1, gw_mem (List.mem_of_getElem? (i := 291) rfl) rfl⟩
set_option maxRecDepth 100000 in
theorem fs_X7_246 : FS RX7 246 1 2 .int := ⟨RX1, TX1, 3, tyX1, rfl, by decide, iw1, gw_mem (List.mem_of_getElem? (i := 291) rfl) rfl, tyX1_ok, nmX1, rfl, rfl⟩
set_option maxRecDepth 100000 in
theorem fl_X5_9 : FL RX5 9 5 0 := ⟨RX5, TX5, 4, rfl, by decide, iw5, gw_mem (List.mem_of_getElem? (i := 304) rfl) rfl⟩
set_option maxRecDepth 100000 in
theorem ff_X5_9 : FF RX5 9 5 0 (tyX5 0) := ⟨RX5, TX5, 4, tyX5, rfl, by decide, iw5, gw_mem (List.mem_of_getElem? (i := 304) rfl) rfl, tyX5_ok, nmX5, rfl, rfl, rfl⟩
set_option maxRecDepth 100000 in
theorem fl_X7_98 : FL RX7 98 5 0 := ⟨RX5, TX5, 4, rfl, by decide, iw5, gw_mem (List.mem_of_getElem? (i := 305) rfl) rfl⟩
set_option maxRecDepth 100000 in
theorem fl_X5_15 : FL RX5 15 5 1 := ⟨RX5, TX5, 4, rfl, by decide, iw5, gw_mem (List.mem_of_getElem? (i := 306) rfl) rfl⟩
set_option maxRecDepth 100000 in
theorem fs_X5_15 : FS RX5 15 5 1 .boolean := ⟨RX5, TX5, 4, tyX5, rfl, by decide, iw5, gw_mem (List.mem_of_getElem? (i := 306) rfl) rfl, tyX5_ok, nmX5, rfl, rfl⟩
set_option maxRecDepth 100000 in
theorem fl_X7_83 : FL RX7 83 5 1 := ⟨RX5, TX5, 4, rfl, by decide, iw5, gw_mem (List.mem_of_getElem? (i := 307) rfl) rfl⟩
set_option maxRecDepth 100000 in
theorem fs_X7_83 : FS RX7 83 5 1 .boolean := ⟨RX5, TX5, 4, tyX5, rfl, by decide, iw5, gw_mem (List.mem_of_getElem? (i := 307) rfl) rfl, tyX5_ok, nmX5, rfl, rfl⟩
set_option maxRecDepth 100000 in
theorem fl_X5_19 : FL RX5 19 5 2 := ⟨RX5, TX5, 4, rfl, by decide, iw5, gw_mem (List.mem_of_getElem? (i := 308) rfl) rfl⟩
set_option maxRecDepth 100000 in
theorem fs_X5_19 : FS RX5 19 5 2 .int := ⟨RX5, TX5, 4, tyX5, rfl, by decide, iw5, gw_mem (List.mem_of_getElem? (i := 308) rfl) rfl, tyX5_ok, nmX5, rfl, rfl⟩
set_option maxRecDepth 100000 in
theorem fl_X7_95 : FL RX7 95 5 2 := ⟨RX5, TX5, 4, rfl, by decide, iw5, gw_mem (List.mem_of_getElem? (i := 309) rfl) rfl⟩
set_option maxRecDepth 100000 in
theorem fs_X7_95 : FS RX7 95 5 2 .int := ⟨RX5, TX5, 4, tyX5, rfl, by decide, iw5, gw_mem (List.mem_of_getElem? (i := 309) rfl) rfl, tyX5_ok, nmX5, rfl, rfl⟩
set_option maxRecDepth 100000 in
theorem fl_X5_23 : FL RX5 23 5 3 := ⟨RX5, TX5, 4, rfl, by decide, iw5, gw_mem (List.mem_of_getElem? (i := 310) rfl) rfl⟩
set_option maxRecDepth 100000 in
theorem fs_X5_23 : FS RX5 23 5 3 .int := ⟨RX5, TX5, 4, tyX5, rfl, by decide, iw5, gw_mem (List.mem_of_getElem? (i := 310) rfl) rfl, tyX5_ok, nmX5, rfl, rfl⟩
set_option maxRecDepth 100000 in
theorem fl_X7_108 : FL RX7 108 5 3 := ⟨RX5, TX5, 4, rfl, by decide, iw5, gw_mem (List.mem_of_getElem? (i := 311) rfl) rfl⟩
set_option maxRecDepth 100000 in
theorem fs_X7_108 : FS RX7 108 5 3 .int := ⟨RX5, TX5, 4, tyX5, rfl, by decide, iw5, gw_mem (List.mem_of_getElem? (i := 311) rfl) rfl, tyX5_ok, nmX5, rfl, rfl⟩
set_option maxRecDepth 100000 in
theorem fl_X7_11 : FL RX7 11 7 0 := ⟨RX7, TX7, 10, rfl, by decide, iw7, gw_mem (List.mem_of_getElem? (i := 321) rfl) rfl⟩
set_option maxRecDepth 100000 in
theorem ff_X7_11 : FF RX7 11 7 0 (tyX7 0) := ⟨RX7, TX7, 10, tyX7, rfl, by decide, iw7, gw_mem (List.mem_of_getElem? (i := 321) rfl) rfl, tyX7_ok, nmX7, rfl, rfl, rfl⟩
set_option maxRecDepth 100000 in
theorem fl_X7_18 : FL RX7 18 7 1 := ⟨RX7, TX7, 10, rfl, by decide, iw7, gw_mem (List.mem_of_getElem? (i := 322) rfl) rfl⟩
set_option maxRecDepth 100000 in
theorem ff_X7_18 : FF RX7 18 7 1 (tyX7 1) := ⟨RX7, TX7, 10, tyX7, rfl, by decide, iw7, gw_mem (List.mem_of_getElem? (i := 322) rfl) rfl, tyX7_ok, nmX7, rfl, rfl, rfl⟩
set_option maxRecDepth 100000 in
theorem fl_X7_27 : FL RX7 27 7 2 := ⟨RX7, TX7, 10, rfl, by decide, iw7, gw_mem (List.mem_of_getElem? (i := 323) rfl) rfl⟩
set_option maxRecDepth 100000 in
theorem ff_X7_27 : FF RX7 27 7 2 (tyX7 2) := ⟨RX7, TX7, 10, tyX7, rfl, by decide, iw7, gw_mem (List.mem_of_getElem? (i := 323) rfl) rfl, tyX7_ok, nmX7, rfl, rfl, rfl⟩
set_option maxRecDepth 100000 in
theorem fl_X7_34 : FL RX7 34 7 3 := ⟨RX7, TX7, 10, rfl, by decide, iw7, gw_mem (List.mem_of_getElem? (i := 324) rfl) rfl⟩
set_option maxRecDepth 100000 in
theorem ff_X7_34 : FF RX7 34 7 3 (tyX7 3) := ⟨RX7, TX7, 10, tyX7, rfl, by decide, iw7, gw_mem (List.mem_of_getElem? (i := 324) rfl) rfl, tyX7_ok, nmX7, rfl, rfl, rfl⟩
set_option maxRecDepth 100000 in
theorem fl_X7_38 : FL RX7 38 7 4 := ⟨RX7, TX7, 10, rfl, by decide, iw7, gw_mem (List.mem_of_getElem? (i := 325) rfl) rfl⟩
set_option maxRecDepth 100000 in
theorem ff_X7_38 : FF RX7 38 7 4 (tyX7 4) := ⟨RX7, TX7, 10, tyX7, rfl, by decide, iw7, gw_mem (List.mem_of_getElem? (i := 325) rfl) rfl, tyX7_ok, nmX7, rfl, rfl, rfl⟩
set_option maxRecDepth 100000 in
theorem fl_X7_45 : FL RX7 45 7 5 := ⟨RX7, TX7, 10, rfl, by decide, iw7, gw_mem (List.mem_of_getElem? (i := 326) rfl) rfl⟩
set_option maxRecDepth 100000 in
theorem ff_X7_45 : FF RX7 45 7 5 (tyX7 5) := ⟨RX7, TX7, 10, tyX7, rfl, by decide, iw7, gw_mem (List.mem_of_getElem? (i := 326) rfl) rfl, tyX7_ok, nmX7, rfl, rfl, rfl⟩
set_option maxRecDepth 100000 in
theorem fl_X7_54 : FL RX7 54 7 6 := ⟨RX7, TX7, 10, rfl, by decide, iw7, gw_mem (List.mem_of_getElem? (i := 327) rfl) rfl⟩
set_option maxRecDepth 100000 in
theorem ff_X7_54 : FF RX7 54 7 6 (tyX7 6) := ⟨RX7, TX7, 10, tyX7, rfl, by decide, iw7, gw_mem (List.mem_of_getElem? (i := 327) rfl) rfl, tyX7_ok, nmX7, rfl, rfl, rfl⟩
set_option maxRecDepth 100000 in
theorem fl_X7_61 : FL RX7 61 7 7 := ⟨RX7, TX7, 10, rfl, by decide, iw7, gw_mem (List.mem_of_getElem? (i := 328) rfl) rfl⟩
set_option maxRecDepth 100000 in
theorem ff_X7_61 : FF RX7 61 7 7 (tyX7 7) := ⟨RX7, TX7, 10, tyX7, rfl, by decide, iw7, gw_mem (List.mem_of_getElem? (i := 328) rfl) rfl, tyX7_ok, nmX7, rfl, rfl, rfl⟩
set_option maxRecDepth 100000 in
theorem fl_X7_127 : FL RX7 127 7 8 := ⟨RX7, TX7, 10, rfl, by decide, iw7, gw_mem (List.mem_of_getElem? (i := 329) rfl) rfl⟩
set_option maxRecDepth 100000 in
theorem fs_X7_127 : FS RX7 127 7 8 .int := ⟨RX7, TX7, 10, tyX7, rfl, by decide, iw7, gw_mem (List.mem_of_getElem? (i := 329) rfl) rfl, tyX7_ok, nmX7, rfl, rfl⟩
set_option maxRecDepth 100000 in
theorem fl_X7_79 : FL RX7 79 7 9 := ⟨RX7, TX7, 10, rfl, by decide, iw7, gw_mem (List.mem_of_getElem? (i := 330) rfl) rfl⟩
set_option maxRecDepth 100000 in
theorem fs_X7_79 : FS RX7 79 7 9 .int := ⟨RX7, TX7, 10, tyX7, rfl, by decide, iw7, gw_mem (List.mem_of_getElem? (i := 330) rfl) rfl, tyX7_ok, nmX7, rfl, rfl⟩
set_option maxRecDepth 100000 in
theorem fl_X8_59 : FL RX8 59 8 0 := ⟨RX8, TX8, 32, rfl, by decide, iw8, gw_mem (List.mem_of_getElem? (i := 828) rfl) rfl⟩
set_option maxRecDepth 100000 in
theorem fs_X8_59 : FS RX8 59 8 0 .int := ⟨RX8, TX8, 32, tyX8, rfl, by decide, iw8, gw_mem (List.mem_of_getElem? (i := 828) rfl) rfl, tyX8_ok, nmX8, rfl, rfl⟩
set_option maxRecDepth 100000 in
theorem fl_X8_63 : FL RX8 63 8 1 := ⟨RX8, TX8, 32, rfl, by decide, iw8, gw_mem (List.mem_of_getElem? (i := 829) rfl) rfl⟩
set_option maxRecDepth 100000 in
theorem fs_X8_63 : FS RX8 63 8 1 .int := ⟨RX8, TX8, 32, tyX8, rfl, by decide, iw8, gw_mem (List.mem_of_getElem? (i := 829) rfl) rfl, tyX8_ok, nmX8, rfl, rfl⟩
set_option maxRecDepth 100000 in
theorem fl_X8_7 : FL RX8 7 8 2 := ⟨RX8, TX8, 32, rfl, by decide, iw8, gw_mem (List.mem_of_getElem? (i := 830) rfl) rfl⟩
set_option maxRecDepth 100000 in
theorem ff_X8_7 : FF RX8 7 8 2 (tyX8 2) := ⟨RX8, TX8, 32, tyX8, rfl, by decide, iw8, gw_mem (List.mem_of_getElem? (i := 830) rfl) rfl, tyX8_ok, nmX8, rfl, rfl, rfl⟩
set_option maxRecDepth 100000 in
theorem fl_X8_13 : FL RX8 13 8 3 := ⟨RX8, TX8, 32, rfl, by decide, iw8, gw_mem (List.mem_of_getElem? (i := 831) rfl) rfl⟩
set_option maxRecDepth 100000 in
theorem ff_X8_13 : FF RX8 13 8 3 (tyX8 3) := ⟨RX8, TX8, 32, tyX8, rfl, by decide, iw8, gw_mem (List.mem_of_getElem? (i := 831) rfl) rfl, tyX8_ok, nmX8, rfl, rfl, rfl⟩
set_option maxRecDepth 100000 in
theorem fl_X8_16 : FL RX8 16 8 4 := ⟨RX8, TX8, 32, rfl, by decide, iw8, gw_mem (List.mem_of_getElem? (i := 832) rfl) rfl⟩
set_option maxRecDepth 100000 in
theorem ff_X8_16 : FF RX8 16 8 4 (tyX8 4) := ⟨RX8, TX8, 32, tyX8, rfl, by decide, iw8, gw_mem (List.mem_of_getElem? (i := 832) rfl) rfl, tyX8_ok, nmX8, rfl, rfl, rfl⟩
set_option maxRecDepth 100000 in
theorem fl_X8_19 : FL RX8 19 8 5 := ⟨RX8, TX8, 32, rfl, by decide, iw8, gw_mem (List.mem_of_getElem? (i := 833) rfl) rfl⟩
set_option maxRecDepth 100000 in
theorem ff_X8_19 : FF RX8 19 8 5 (tyX8 5) := ⟨RX8, TX8, 32, tyX8, rfl, by decide, iw8, gw_mem (List.mem_of_getElem? (i := 833) rfl) rfl, tyX8_ok, nmX8, rfl, rfl, rfl⟩
set_option maxRecDepth 100000 in
theorem fl_X8_22 : FL RX8 22 8 6 := ⟨RX8, TX8, 32, rfl, by decide, iw8, gw_mem (List.mem_of_getElem? (i := 834) rfl) rfl⟩
set_option maxRecDepth 100000 in
theorem ff_X8_22 : FF RX8 22 8 6 (tyX8 6) := ⟨RX8, TX8, 32, tyX8, rfl, by decide, iw8, gw_mem (List.mem_of_getElem? (i := 834) rfl) rfl, tyX8_ok, nmX8, rfl, rfl, rfl⟩
set_option maxRecDepth 100000 in
theorem fl_X8_25 : FL RX8 25 8 7 := ⟨RX8, TX8, 32, rfl, by decide, iw8, gw_mem (List.mem_of_getElem? (i := 835) rfl) rfl⟩
set_option maxRecDepth 100000 in
theorem ff_X8_25 : FF RX8 25 8 7 (tyX8 7) := ⟨RX8, TX8, 32, tyX8, rfl, by decide, iw8, gw_mem (List.mem_of_getElem? (i := 835) rfl) rfl, tyX8_ok, nmX8, rfl, rfl, rfl⟩
set_option maxRecDepth 100000 in
theorem fl_X8_189 : FL RX8 189 8 8 := ⟨RX8, TX8, 32, rfl, by decide, iw8, gw_mem (List.mem_of_getElem? (i := 836) rfl) rfl⟩
set_option maxRecDepth 100000 in
theorem fs_X8_189 : FS RX8 189 8 8 .int := ⟨RX8, TX8, 32, tyX8, rfl, by decide, iw8, gw_mem (List.mem_of_getElem? (i := 836) rfl) rfl, tyX8_ok, nmX8, rfl, rfl⟩
set_option maxRecDepth 100000 in
theorem fl_X8_28 : FL RX8 28 8 9 := ⟨RX8, TX8, 32, rfl, by decide, iw8, gw_mem (List.mem_of_getElem? (i := 837) rfl) rfl⟩
set_option maxRecDepth 100000 in
theorem ff_X8_28 : FF RX8 28 8 9 (tyX8 9) := ⟨RX8, TX8, 32, tyX8, rfl, by decide, iw8, gw_mem (List.mem_of_getElem? (i := 837) rfl) rfl, tyX8_ok, nmX8, rfl, rfl, rfl⟩
set_option maxRecDepth 100000 in
theorem fl_X8_86 : FL RX8 86 8 10 := ⟨RX8, TX8, 32, rfl, by decide, iw8, gw_mem (List.mem_of_getElem? (i := 838) rfl) rfl⟩
set_option maxRecDepth 100000 in
theorem fs_X8_86 : FS RX8 86 8 10 .int := ⟨RX8, TX8, 32, tyX8, rfl, by decide, iw8, gw_mem (List.mem_of_getElem? (i := 838) rfl) rfl, tyX8_ok, nmX8, rfl, rfl⟩
set_option maxRecDepth 100000 in
theorem fl_X8_185 : FL RX8 185 8 11 := ⟨RX8, TX8, 32, rfl, by decide, iw8, gw_mem (List.mem_of_getElem? (i := 839) rfl) rfl⟩
set_option maxRecDepth 100000 in
theorem fs_X8_185 : FS RX8 185 8 11 .int := ⟨RX8, TX8, 32, tyX8, rfl, by decide, iw8, gw_mem (List.mem_of_getElem? (i := 839) rfl) rfl, tyX8_ok, nmX8, rfl, rfl⟩
set_option maxRecDepth 100000 in
theorem fl_X8_92 : FL RX8 92 8 12 := ⟨RX8, TX8, 32, rfl, by decide, iw8, gw_mem (List.mem_of_getElem? (i := 840) rfl) rfl⟩
set_option maxRecDepth 100000 in
theorem fs_X8_92 : FS RX8 92 8 12 .int := ⟨RX8, TX8, 32, tyX8, rfl, by decide, iw8, gw_mem (List.mem_of_getElem? (i := 840) rfl) rfl, tyX8_ok, nmX8, rfl, rfl⟩
set_option maxRecDepth 100000 in
theorem fl_X8_96 : FL RX8 96 8 13 := ⟨RX8, TX8, 32, rfl, by decide, iw8, gw_mem (List.mem_of_getElem? (i := 841) rfl) rfl⟩
set_option maxRecDepth 100000 in
theorem fs_X8_96 : FS RX8 96 8 13 .int := ⟨RX8, TX8, 32, tyX8, rfl, by decide, iw8, gw_mem (List.mem_of_getElem? (i := 841) rfl) rfl, tyX8_ok, nmX8, rfl, rfl⟩
set_option maxRecDepth 100000 in
theorem fl_X8_105 : FL RX8 105 8 14 := ⟨RX8, TX8, 32, rfl, by decide, iw8, gw_mem (List.mem_of_getElem? (i := 842) rfl) rfl⟩
set_option maxRecDepth 100000 in
theorem fs_X8_105 : FS RX8 105 8 14 .int := ⟨RX8, TX8, 32, tyX8, rfl, by decide, iw8, gw_mem (List.mem_of_getElem? (i := 842) rfl) rfl, tyX8_ok, nmX8, rfl, rfl⟩
set_option maxRecDepth 100000 in
theorem fl_X8_102 : FL RX8 102 8 15 := ⟨RX8, TX8, 32, rfl, by decide, iw8, gw_mem (List.mem_of_getElem? (i := 843) rfl) rfl⟩
set_option maxRecDepth 100000 in
theorem fs_X8_102 : FS RX8 102 8 15 .int := ⟨RX8, TX8, 32, tyX8, rfl, by decide, iw8, gw_mem (List.mem_of_getElem? (i := 843) rfl) rfl, tyX8_ok, nmX8, rfl, rfl⟩
set_option maxRecDepth 100000 in
theorem fl_X8_114 : FL RX8 114 8 16 := ⟨RX8, TX8, 32, rfl, by decide, iw8, gw_mem (List.mem_of_getElem? (i := 844) rfl) rfl⟩
set_option maxRecDepth 100000 in
theorem fs_X8_114 : FS RX8 114 8 16 .int := ⟨RX8, TX8, 32, tyX8, rfl, by decide, iw8, gw_mem (List.mem_of_getElem? (i := 844) rfl) rfl, tyX8_ok, nmX8, rfl, rfl⟩
set_option maxRecDepth 100000 in
theorem fl_X8_117 : FL RX8 117 8 17 := ⟨RX8, TX8, 32, rfl, by decide, iw8, gw_mem (List.mem_of_getElem? (i := 845) rfl) rfl⟩
set_option maxRecDepth 100000 in
theorem fs_X8_117 : FS RX8 117 8 17 .int := ⟨RX8, TX8, 32, tyX8, rfl, by decide, iw8, gw_mem (List.mem_of_getElem? (i := 845) rfl) rfl, tyX8_ok, nmX8, rfl, rfl⟩
set_option maxRecDepth 100000 in
theorem fl_X8_123 : FL RX8 123 8 18 := ⟨RX8, TX8, 32, rfl, by decide, iw8, gw_mem (List.mem_of_getElem? (i := 846) rfl) rfl⟩
set_option maxRecDepth 100000 in
theorem fs_X8_123 : FS RX8 123 8 18 .int := ⟨RX8, TX8, 32, tyX8, rfl, by decide, iw8, gw_mem (List.mem_of_getElem? (i := 846) rfl) rfl, tyX8_ok, nmX8, rfl, rfl⟩
set_option maxRecDepth 100000 in
theorem fl_X8_31 : FL RX8 31 8 19 := ⟨RX8, TX8, 32, rfl, by decide, iw8, gw_mem (List.mem_of_getElem? (i := 847) rfl) rfl⟩
set_option maxRecDepth 100000 in
theorem ff_X8_31 : FF RX8 31 8 19 (tyX8 19) := ⟨RX8, TX8, 32, tyX8, rfl, by decide, iw8, gw_mem (List.mem_of_getElem? (i := 847) rfl) rfl, tyX8_ok, nmX8, rfl, rfl, rfl⟩
set_option maxRecDepth 100000 in
theorem fl_X8_34 : FL RX8 34 8 20 := ⟨RX8, TX8, 32, rfl, by decide, iw8, gw_mem (List.mem_of_getElem? (i := 848) rfl) rfl⟩
set_option maxRecDepth 100000 in
theorem ff_X8_34 : FF RX8 34 8 20 (tyX8 20) := ⟨RX8, TX8, 32, tyX8, rfl, by decide, iw8, gw_mem (List.mem_of_getElem? (i := 848) rfl) rfl, tyX8_ok, nmX8, rfl, rfl, rfl⟩
set_option maxRecDepth 100000 in
theorem fl_X8_37 : FL RX8 37 8 21 := ⟨RX8, TX8, 32, rfl, by decide, iw8, gw_mem (List.mem_of_getElem? (i := 849) rfl) rfl⟩
set_option maxRecDepth 100000 in
theorem ff_X8_37 : FF RX8 37 8 21 (tyX8 21) := ⟨RX8, TX8, 32, tyX8, rfl, by decide, iw8, gw_mem (List.mem_of_getElem? (i := 849) rfl) rfl, tyX8_ok, nmX8, rfl, rfl, rfl⟩
set_option maxRecDepth 100000 in
theorem fl_X8_40 : FL RX8 40 8 22 := ⟨RX8, TX8, 32, rfl, by decide, iw8, gw_mem (List.mem_of_getElem? (i := 850) rfl) rfl⟩
set_option maxRecDepth 100000 in
theorem ff_X8_40 : FF RX8 40 8 22 (tyX8 22) := ⟨RX8, TX8, 32, tyX8, rfl, by decide, iw8, gw_mem (List.mem_of_getElem? (i := 850) rfl) rfl, tyX8_ok, nmX8, rfl, rfl, rfl⟩
set_option maxRecDepth 100000 in
theorem fl_X8_43 : FL RX8 43 8 23 := ⟨RX8, TX8, 32, rfl, by decide, iw8, gw_mem (List.mem_of_getElem? (i := 851) rfl) rfl⟩
set_option maxRecDepth 100000 in
theorem ff_X8_43 : FF RX8 43 8 23 (tyX8 23) := ⟨RX8, TX8, 32, tyX8, rfl, by decide, iw8, gw_mem (List.mem_of_getElem? (i := 851) rfl) rfl, tyX8_ok, nmX8, rfl, rfl, rfl⟩
set_option maxRecDepth 100000 in
theorem fl_X8_46 : FL RX8 46 8 24 := ⟨RX8, TX8, 32, rfl, by decide, iw8, gw_mem (List.mem_of_getElem? (i := 852) rfl) rfl⟩
set_option maxRecDepth 100000 in
theorem ff_X8_46 : FF RX8 46 8 24 (tyX8 24) := ⟨RX8, TX8, 32, tyX8, rfl, by decide, iw8, gw_mem (List.mem_of_getElem? (i := 852) rfl) rfl, tyX8_ok, nmX8, rfl, rfl, rfl⟩
set_option maxRecDepth 100000 in
theorem fl_X8_192 : FL RX8 192 8 25 := ⟨RX8, TX8, 32, rfl, by decide, iw8, gw_mem (List.mem_of_getElem? (i := 853) rfl) rfl⟩
set_option maxRecDepth 100000 in
theorem fs_X8_192 : FS RX8 192 8 25 .int := ⟨RX8, TX8, 32, tyX8, rfl, by decide, iw8, gw_mem (List.mem_of_getElem? (i := 853) rfl) rfl, tyX8_ok, nmX8, rfl, rfl⟩
set_option maxRecDepth 100000 in
theorem fl_X8_198 : FL RX8 198 8 26 := ⟨RX8, TX8, 32, rfl, by decide, iw8, gw_mem (List.mem_of_getElem? (i := 854) rfl) rfl⟩
set_option maxRecDepth 100000 in
theorem fs_X8_198 : FS RX8 198 8 26 .int := ⟨RX8, TX8, 32, tyX8, rfl, by decide, iw8, gw_mem (List.mem_of_getElem? (i := 854) rfl) rfl, tyX8_ok, nmX8, rfl, rfl⟩
set_option maxRecDepth 100000 in
theorem fl_X8_195 : FL RX8 195 8 27 := ⟨RX8, TX8, 32, rfl, by decide, iw8, gw_mem (List.mem_of_getElem? (i := 855) rfl) rfl⟩
set_option maxRecDepth 100000 in
theorem fs_X8_195 : FS RX8 195 8 27 .int := ⟨RX8, TX8, 32, tyX8, rfl, by decide, iw8, gw_mem (List.mem_of_getElem? (i := 855) rfl) rfl, tyX8_ok, nmX8, rfl, rfl⟩
set_option maxRecDepth 100000 in
theorem fl_X8_49 : FL RX8 49 8 28 := ⟨RX8, TX8, 32, rfl, by decide, iw8, gw_mem (List.mem_of_getElem? (i := 856) rfl) rfl⟩
set_option maxRecDepth 100000 in
theorem ff_X8_49 : FF RX8 49 8 28 (tyX8 28) := ⟨RX8, TX8, 32, tyX8, rfl, by decide, iw8, gw_mem (List.mem_of_getElem? (i := 856) rfl) rfl, tyX8_ok, nmX8, rfl, rfl, rfl⟩
set_option maxRecDepth 100000 in
theorem fl_X8_53 : FL RX8 53 8 29 := ⟨RX8, TX8, 32, rfl, by decide, iw8, gw_mem (List.mem_of_getElem? (i := 857) rfl) rfl⟩
set_option maxRecDepth 100000 in
theorem ff_X8_53 : FF RX8 53 8 29 (tyX8 29) := ⟨RX8, TX8, 32, tyX8, rfl, by decide, iw8, gw_mem (List.mem_of_getElem? (i := 857) rfl) rfl, tyX8_ok, nmX8, rfl, rfl, rfl⟩
set_option maxRecDepth 100000 in
theorem fl_X8_56 : FL RX8 56 8 30 := ⟨RX8, TX8, 32, rfl, by decide, iw8, gw_mem (List.mem_of_getElem? (i := 858) rfl) rfl⟩
set_option maxRecDepth 100000 in
theorem ff_X8_56 : FF RX8 56 8 30 (tyX8 30) := ⟨RX8, TX8, 32, tyX8, rfl, by decide, iw8, gw_mem (List.mem_of_getElem? (i := 858) rfl) rfl, tyX8_ok, nmX8, rfl, rfl, rfl⟩
set_option maxRecDepth 100000 in
theorem fl_X8_287 : FL RX8 287 8 31 := ⟨RX8, TX8, 32, rfl, by decide, iw8, gw_mem (List.mem_of_getElem? (i := 859) rfl) rfl⟩
set_option maxRecDepth 100000 in
theorem fs_X8_287 : FS RX8 287 8 31 .int := ⟨RX8, TX8, 32, tyX8, rfl, by decide, iw8, gw_mem (List.mem_of_getElem? (i := 859) rfl) rfl, tyX8_ok, nmX8, rfl, rfl⟩
